/-! a frame whose world begins later than the frame itself: Z; the rows in it -/
/-- the world from b on -/
def gRe (E : gEnv) (b : Nat) : gEnv := (E.1, E.2.1, E.2.2.1, b, E.2.2.2.2)
theorem va_Z.mono {C n d : String} {v : Value} {A A' : Nat → Prop} {U : State} {H : Heap} (hA : ∀ q, A' q → A q) (h : va_Z C n d v A U H) : va_Z C n d v A' U H := by
  obtain ⟨cf, kf, fi, f, a, cell, h1, h2, h3, h4, h5, h6, h7, h8⟩ := h
  exact ⟨cf, kf, fi, f, a, cell, h1, h2, h3, h4, h5, h6, h7, fun z => h8 (hA _ z)⟩
theorem va_Zq.mono {C n d : String} {A A' : Nat → Prop} {U : State} {H : Heap} (hA : ∀ q, A' q → A q) (h : va_Zq C n d A U H) : va_Zq C n d A' U H := by
  rcases h with h | ⟨t, h⟩
  · exact Or.inl (h.mono hA)
  · exact Or.inr ⟨t, h.mono hA⟩
theorem vx_L.mono {C n d : String} {A A' : Nat → Prop} {U : State} {H : Heap} (hA : ∀ q, A' q → A q) (h : vx_L C n d A U H) : vx_L C n d A' U H := by
  obtain ⟨c, k, i, f, a, cell, h1, h2, h3, h4, h5, h6, h7, h8, h9, h10⟩ := h
  exact ⟨c, k, i, f, a, cell, h1, h2, h3, h4, h5, h6, h7, h8, h9, fun z => h10 (hA _ z)⟩
theorem va_O.mono {E : String} {t : Nat} {A A' : Nat → Prop} {U : State} {H : Heap} (hA : ∀ q, A' q → A q) (h : va_O E t A U H) : va_O E t A' U H := by
  obtain ⟨cell, h1, h2, h3, h4⟩ := h
  exact ⟨cell, h1, h2, h3, fun z => h4 (hA _ z)⟩
theorem va_OF.mono {o n d : String} {v : Value} {t : Nat} {A A' : Nat → Prop} {U : State} {H : Heap} (hA : ∀ q, A' q → A q) (h : va_OF o n d v t A U H) : va_OF o n d v t A' U H := by
  obtain ⟨cf, k, i, f, cell, h1, h2, h3, h4, h5, h6⟩ := h
  exact ⟨cf, k, i, f, cell, h1, h2, h3, h4, h5, fun z => h6 (hA _ z)⟩
theorem va_T.mono {ty : FieldType} {t N : Nat} {f : Nat → Value} {A A' : Nat → Prop} {U : State} {H : Heap} (hA : ∀ q, A' q → A q) (h : va_T ty t N f A U H) : va_T ty t N f A' U H := by
  obtain ⟨cell, h1, h2, h3, h4, h5, h6, h7⟩ := h
  exact ⟨cell, h1, h2, h3, h4, h5, h6, fun z => h7 (hA _ z)⟩
theorem gX_re {E : gEnv} {b : Nat} {U : State} {H : Heap} (hb : gB E ≤ b) (h : gX E U H) : gX (gRe E b) U H := by
  have hA : ∀ q, gA (gRe E b) q → gA E q := fun q hq => Nat.le_trans hb hq
  obtain ⟨h1, h2, h3, h4, h5, ⟨h6, h6'⟩, h7, h8, h9⟩ := h
  exact ⟨h1, h2, h3, ⟨h4.1.mono hA, h4.2.mono hA⟩, ⟨h5.1.mono hA, h5.2.mono hA⟩, ⟨fun i hi => ⟨(h6 i hi).1.mono hA, (h6 i hi).2.1.mono hA, (h6 i hi).2.2.1.mono hA, (h6 i hi).2.2.2.mono hA⟩, h6'⟩, h7.mono hA, h8.mono hA, h9⟩
/-- what lies below b is as in fz -/
def gFz (E0 : gEnv) (b : Nat) (fz H : Heap) : Prop := gB E0 ≤ b ∧ b ≤ H.size ∧ ∀ q : Nat, q < b → H[q]? = fz[q]?
def Z (E0 : gEnv) (b : Nat) (fz : Heap) (F : gFr) (t : gMt) (Q : State → Prop) (n : Nat) (σ : Option Nat) (h : gH) (k sl pc : Nat) (L : List (Nat × Value)) (st : List Value) : Prop :=
  ∀ (H : Heap) (locs : List Loc) (ls : Array Slot), gS σ H → gP (gRe E0 b) n h H → va_S (gA E0) F.2.2.1.heap H locs → lv_has ls (gMax t) L → gFz E0 b fz H → W F.1 E0.1 F.2.1 (gRm t) F.2.2.1 F.2.2.2.1 F.2.2.2.2.1 F.2.2.2.2.2.1 F.2.2.2.2.2.2.1 F.2.2.2.2.2.2.2 H locs k sl Q (F0 F.2.2.2.1 pc ls st)
section GZZ
variable {E0 : gEnv} {b : Nat} {fz : Heap} {F : gFr} {t : gMt} {Q : State → Prop} {n : Nat} {σ : Option Nat} {h : gH} {kc ks pc pc' : Nat} {L L' : List (Nat × Value)} {st : List Value}
theorem z_in {E : gEnv} (C : gC E F t) (k : ∀ fz : Heap, Z E (gB E) fz F t Q n σ h kc ks pc L st) : G E F t Q n σ h kc ks pc L st := fun H locs ls a1 a3 a4 a5 => k H H locs ls a1 a3 a4 a5 ⟨Nat.le_refl _, Nat.le_trans C.2.2.2.2.2.2.2.2.1 a4.1, fun _ _ => rfl⟩
/-- a new world at the heap's end -/
theorem z_fresh (h2 : gH) (k : ∀ (b2 : Nat) (fz2 : Heap), b ≤ b2 → gP (gRe E0 b) n h fz2 → gFz E0 b fz fz2 → (n = 0 ∨ b + n ≤ b2) → Z E0 b2 fz2 F t Q 0 (some (b2 + 0)) h2 kc ks pc L st) : Z E0 b fz F t Q n σ h kc ks pc L st := by
  intro H locs ls a1 a3 a4 a5 a6
  refine k H.size H a6.2.1 a3 a6 (gP_lt a3) H locs ls (fun z hz => by cases hz; rfl) (fun i q hi => ?_) a4 a5 ⟨Nat.le_trans a6.1 a6.2.1, Nat.le_refl _, fun _ _ => rfl⟩
  obtain ⟨hn, -⟩ := gws_of hi
  exact absurd hn (Nat.not_lt_zero _)
/-- back to the world before -/
theorem z_back {b2 n2 : Nat} {fz2 : Heap} {σ2 : Option Nat} {h2 : gH} (hb : b ≤ b2) (hp : gP (gRe E0 b) n h fz2) (hf : gFz E0 b fz fz2) (hn : n = 0 ∨ b + n ≤ b2) (k : Z E0 b fz F t Q n none h kc ks pc L st) : Z E0 b2 fz2 F t Q n2 σ2 h2 kc ks pc L st := by
  intro H locs ls a1 a3 a4 a5 a6
  refine k H locs ls (fun z hz => by cases hz) (va_P.kept hp (fun i q hi => ?_)) a4 a5 ⟨hf.1, Nat.le_trans hb a6.2.1, fun q hq => (a6.2.2 q (Nat.lt_of_lt_of_le hq hb)).trans (hf.2.2 q hq)⟩
  obtain ⟨hi2, rfl⟩ := gws_of hi
  have e : gB (gRe E0 b) = b := rfl
  exact a6.2.2 _ (by rw [e]; omega)
theorem z_wid {kc2 ks2 : Nat} (h1 : kc ≤ kc2) (h2 : ks ≤ ks2) (k : Z E0 b fz F t Q n σ h kc2 ks2 pc L st) : Z E0 b fz F t Q n σ h kc ks pc L st := fun H locs ls a1 a3 a4 a5 a6 => W.widen h1 h2 (k H locs ls a1 a3 a4 a5 a6)
theorem z_nos (k : Z E0 b fz F t Q n none h kc ks pc L st) : Z E0 b fz F t Q n σ h kc ks pc L st := fun H locs ls _ a3 a4 a5 a6 => k H locs ls (fun z hz => by cases hz) a3 a4 a5 a6
theorem z_iload {i : Nat} {x : Int32} (pc' : Nat) (C : gC E0 F t) (hd : decode (gCode t) pc = .ok (.iload i, 2)) (hl : L.lookup i = some (.int x)) (hp : pc + 2 = pc') (k : Z E0 b fz F t Q n σ h kc ks pc' L (.int x :: st)) : Z E0 b fz F t Q n σ h kc ks pc L st := by
  subst hp
  intro H locs ls a1 a3 a4 a5 a6
  exact lv_iload C.1 C.2.1 hd (gl_at a5 hl) (k H locs ls a1 a3 a4 a5 a6)
theorem z_iload_n {j : Fin 4} {x : Int32} (pc' : Nat) (C : gC E0 F t) (hd : decode (gCode t) pc = .ok (.iload_n j, 1)) (hl : L.lookup (j : Nat) = some (.int x)) (hp : pc + 1 = pc') (k : Z E0 b fz F t Q n σ h kc ks pc' L (.int x :: st)) : Z E0 b fz F t Q n σ h kc ks pc L st := by
  subst hp
  intro H locs ls a1 a3 a4 a5 a6
  exact lv_iload_n C.1 C.2.1 hd rfl (gl_at a5 hl) (k H locs ls a1 a3 a4 a5 a6)
theorem z_lload {i : Nat} {x : Int64} (pc' : Nat) (C : gC E0 F t) (hd : decode (gCode t) pc = .ok (.lload i, 2)) (hl : L.lookup i = some (.long x)) (hp : pc + 2 = pc') (k : Z E0 b fz F t Q n σ h kc ks pc' L (.long x :: st)) : Z E0 b fz F t Q n σ h kc ks pc L st := by
  subst hp
  intro H locs ls a1 a3 a4 a5 a6
  exact lv_lload C.1 C.2.1 hd (gl_at a5 hl) (k H locs ls a1 a3 a4 a5 a6)
theorem z_lload_n {j : Fin 4} {x : Int64} (pc' : Nat) (C : gC E0 F t) (hd : decode (gCode t) pc = .ok (.lload_n j, 1)) (hl : L.lookup (j : Nat) = some (.long x)) (hp : pc + 1 = pc') (k : Z E0 b fz F t Q n σ h kc ks pc' L (.long x :: st)) : Z E0 b fz F t Q n σ h kc ks pc L st := by
  subst hp
  intro H locs ls a1 a3 a4 a5 a6
  exact lv_lload_n C.1 C.2.1 hd rfl (gl_at a5 hl) (k H locs ls a1 a3 a4 a5 a6)
theorem z_aload {i : Nat} {x : Nat} (pc' : Nat) (C : gC E0 F t) (hd : decode (gCode t) pc = .ok (.aload i, 2)) (hl : L.lookup i = some (.ref x)) (hp : pc + 2 = pc') (k : Z E0 b fz F t Q n σ h kc ks pc' L (.ref x :: st)) : Z E0 b fz F t Q n σ h kc ks pc L st := by
  subst hp
  intro H locs ls a1 a3 a4 a5 a6
  exact lv_aload C.1 C.2.1 hd (gl_at a5 hl) (k H locs ls a1 a3 a4 a5 a6)
theorem z_aload_n {j : Fin 4} {x : Nat} (pc' : Nat) (C : gC E0 F t) (hd : decode (gCode t) pc = .ok (.aload_n j, 1)) (hl : L.lookup (j : Nat) = some (.ref x)) (hp : pc + 1 = pc') (k : Z E0 b fz F t Q n σ h kc ks pc' L (.ref x :: st)) : Z E0 b fz F t Q n σ h kc ks pc L st := by
  subst hp
  intro H locs ls a1 a3 a4 a5 a6
  exact lv_aload_n C.1 C.2.1 hd rfl (gl_at a5 hl) (k H locs ls a1 a3 a4 a5 a6)
theorem z_istore {i : Nat} {x : Int32} (pc' : Nat) (L' : List (Nat × Value)) (C : gC E0 F t) (hd : decode (gCode t) pc = .ok (.istore i, 2)) (hn : i < gMax t) (hL : gset i (.int x) L = L') (hp : pc + 2 = pc') (k : Z E0 b fz F t Q n σ h kc ks pc' L' st) : Z E0 b fz F t Q n σ h kc ks pc L (.int x :: st) := by
  subst hp
  intro H locs ls a1 a3 a4 a5 a6
  exact lv_istore C.1 C.2.1 hd a5 hn hL (fun ls' a5' => k H locs ls' a1 a3 a4 a5' a6)
theorem z_istore_n {j : Fin 4} {x : Int32} (pc' : Nat) (L' : List (Nat × Value)) (C : gC E0 F t) (hd : decode (gCode t) pc = .ok (.istore_n j, 1)) (hn : (j : Nat) < gMax t) (hL : gset (j : Nat) (.int x) L = L') (hp : pc + 1 = pc') (k : Z E0 b fz F t Q n σ h kc ks pc' L' st) : Z E0 b fz F t Q n σ h kc ks pc L (.int x :: st) := by
  subst hp
  intro H locs ls a1 a3 a4 a5 a6
  exact lv_istore_n C.1 C.2.1 hd rfl a5 hn hL (fun ls' a5' => k H locs ls' a1 a3 a4 a5' a6)
theorem z_astore {i : Nat} {x : Nat} (pc' : Nat) (L' : List (Nat × Value)) (C : gC E0 F t) (hd : decode (gCode t) pc = .ok (.astore i, 2)) (hn : i < gMax t) (hL : gset i (.ref x) L = L') (hp : pc + 2 = pc') (k : Z E0 b fz F t Q n σ h kc ks pc' L' st) : Z E0 b fz F t Q n σ h kc ks pc L (.ref x :: st) := by
  subst hp
  intro H locs ls a1 a3 a4 a5 a6
  exact lv_astore C.1 C.2.1 hd a5 hn hL (fun ls' a5' => k H locs ls' a1 a3 a4 a5' a6)
theorem z_astore_n {j : Fin 4} {x : Nat} (pc' : Nat) (L' : List (Nat × Value)) (C : gC E0 F t) (hd : decode (gCode t) pc = .ok (.astore_n j, 1)) (hn : (j : Nat) < gMax t) (hL : gset (j : Nat) (.ref x) L = L') (hp : pc + 1 = pc') (k : Z E0 b fz F t Q n σ h kc ks pc' L' st) : Z E0 b fz F t Q n σ h kc ks pc L (.ref x :: st) := by
  subst hp
  intro H locs ls a1 a3 a4 a5 a6
  exact lv_astore_n C.1 C.2.1 hd rfl a5 hn hL (fun ls' a5' => k H locs ls' a1 a3 a4 a5' a6)
theorem z_lstore {i : Nat} {x : Int64} (pc' : Nat) (L' : List (Nat × Value)) (C : gC E0 F t) (hd : decode (gCode t) pc = .ok (.lstore i, 2)) (hn : i + 1 < gMax t) (hL : gset2 i (.long x) L = L') (hp : pc + 2 = pc') (k : Z E0 b fz F t Q n σ h kc ks pc' L' st) : Z E0 b fz F t Q n σ h kc ks pc L (.long x :: st) := by
  subst hp
  intro H locs ls a1 a3 a4 a5 a6
  exact lv_lstore C.1 C.2.1 hd a5 hn hL (fun ls' a5' => k H locs ls' a1 a3 a4 a5' a6)
theorem z_lstore_n {j : Fin 4} {x : Int64} (pc' : Nat) (L' : List (Nat × Value)) (C : gC E0 F t) (hd : decode (gCode t) pc = .ok (.lstore_n j, 1)) (hn : (j : Nat) + 1 < gMax t) (hL : gset2 (j : Nat) (.long x) L = L') (hp : pc + 1 = pc') (k : Z E0 b fz F t Q n σ h kc ks pc' L' st) : Z E0 b fz F t Q n σ h kc ks pc L (.long x :: st) := by
  subst hp
  intro H locs ls a1 a3 a4 a5 a6
  exact lv_lstore_n C.1 C.2.1 hd rfl a5 hn hL (fun ls' a5' => k H locs ls' a1 a3 a4 a5' a6)
theorem z_iinc {i : Nat} {x d : Int} (pc' : Nat) (L' : List (Nat × Value)) (C : gC E0 F t) (hd : decode (gCode t) pc = .ok (.iinc i d, 3)) (hl : L.lookup i = some (.int (gi x))) (hn : i < gMax t) (hL : gset i (.int (gi (x + d))) L = L') (hp : pc + 3 = pc') (k : Z E0 b fz F t Q n σ h kc ks pc' L' st) : Z E0 b fz F t Q n σ h kc ks pc L st := by
  subst hp
  intro H locs ls a1 a3 a4 a5 a6
  obtain ⟨k9, hk9⟩ := List.getElem?_of_mem (gl_mem hl)
  exact lv_iinc C.1 C.2.1 hd a5 hk9 (gi_add x d) hn hL (fun ls' a5' => k H locs ls' a1 a3 a4 a5' a6)
theorem z_iconst {d : Int} (pc' : Nat) (C : gC E0 F t) (hd : decode (gCode t) pc = .ok (.iconst d, 1)) (hp : pc + 1 = pc') (k : Z E0 b fz F t Q n σ h kc ks pc' L (.int (gi d) :: st)) : Z E0 b fz F t Q n σ h kc ks pc L st := by
  subst hp
  intro H locs ls a1 a3 a4 a5 a6
  exact lv_iconst C.1 C.2.1 hd rfl (k H locs ls a1 a3 a4 a5 a6)
theorem z_bipush {d : Int} (pc' : Nat) (C : gC E0 F t) (hd : decode (gCode t) pc = .ok (.bipush d, 2)) (hv : (Int8.ofInt d).toInt32 = gi d) (hp : pc + 2 = pc') (k : Z E0 b fz F t Q n σ h kc ks pc' L (.int (gi d) :: st)) : Z E0 b fz F t Q n σ h kc ks pc L st := by
  subst hp
  intro H locs ls a1 a3 a4 a5 a6
  exact lv_bipush C.1 C.2.1 hd hv (k H locs ls a1 a3 a4 a5 a6)
theorem z_sipush {d : Int} (pc' : Nat) (C : gC E0 F t) (hd : decode (gCode t) pc = .ok (.sipush d, 3)) (hv : (Int16.ofInt d).toInt32 = gi d) (hp : pc + 3 = pc') (k : Z E0 b fz F t Q n σ h kc ks pc' L (.int (gi d) :: st)) : Z E0 b fz F t Q n σ h kc ks pc L st := by
  subst hp
  intro H locs ls a1 a3 a4 a5 a6
  exact lv_sipush C.1 C.2.1 hd hv (k H locs ls a1 a3 a4 a5 a6)
theorem z_lconst {d : Fin 2} (pc' : Nat) (C : gC E0 F t) (hd : decode (gCode t) pc = .ok (.lconst d, 1)) (hp : pc + 1 = pc') (k : Z E0 b fz F t Q n σ h kc ks pc' L (.long (Int64.ofNat (d : Nat)) :: st)) : Z E0 b fz F t Q n σ h kc ks pc L st := by
  subst hp
  intro H locs ls a1 a3 a4 a5 a6
  exact lv_lconst C.1 C.2.1 hd rfl (k H locs ls a1 a3 a4 a5 a6)
theorem z_ldc2l {v : Int64} {index : Nat} (pc' : Nat) (C : gC E0 F t) (hd : decode (gCode t) pc = .ok (.ldc2_w index, 3)) (hc : Cond.constantLong t.1.cls index v ∈ wsG) (hp : pc + 3 = pc') (k : Z E0 b fz F t Q n σ h kc ks pc' L (.long v :: st)) : Z E0 b fz F t Q n σ h kc ks pc L st := by
  subst hp
  intro H locs ls a1 a3 a4 a5 a6
  exact lv_ldc2 C.1 C.2.1 C.2.2.2.1 (C.2.2.2.2.1 _ hc) hd (k H locs ls a1 a3 a4 a5 a6)
theorem z_ldc2d {v : UInt64} {index : Nat} (pc' : Nat) (C : gC E0 F t) (hd : decode (gCode t) pc = .ok (.ldc2_w index, 3)) (hc : Cond.constantDouble t.1.cls index v ∈ wsG) (hp : pc + 3 = pc') (k : Z E0 b fz F t Q n σ h kc ks pc' L (.double v :: st)) : Z E0 b fz F t Q n σ h kc ks pc L st := by
  subst hp
  intro H locs ls a1 a3 a4 a5 a6
  exact lv_ldc2d C.1 C.2.1 C.2.2.2.1 (C.2.2.2.2.1 _ hc) hd (k H locs ls a1 a3 a4 a5 a6)
theorem z_iadd {x y : Int} (pc' : Nat) (C : gC E0 F t) (hd : decode (gCode t) pc = .ok (.iadd, 1)) (hp : pc + 1 = pc') (k : Z E0 b fz F t Q n σ h kc ks pc' L (.int (gi (x + y)) :: st)) : Z E0 b fz F t Q n σ h kc ks pc L (.int (gi y) :: .int (gi x) :: st) := by
  subst hp
  intro H locs ls a1 a3 a4 a5 a6
  exact lv_iadd C.1 C.2.1 hd (by rw [gi_add]; exact k H locs ls a1 a3 a4 a5 a6)
theorem z_isub {x y : Int} (pc' : Nat) (C : gC E0 F t) (hd : decode (gCode t) pc = .ok (.isub, 1)) (hp : pc + 1 = pc') (k : Z E0 b fz F t Q n σ h kc ks pc' L (.int (gi (x - y)) :: st)) : Z E0 b fz F t Q n σ h kc ks pc L (.int (gi y) :: .int (gi x) :: st) := by
  subst hp
  intro H locs ls a1 a3 a4 a5 a6
  exact lv_isub C.1 C.2.1 hd (by rw [gi_sub]; exact k H locs ls a1 a3 a4 a5 a6)
theorem z_idiv {x y : Int} (pc' : Nat) (C : gC E0 F t) (hd : decode (gCode t) pc = .ok (.idiv, 1)) (hx : 0 ≤ x ∧ x < 2147483648) (hy : 0 < y ∧ y < 2147483648) (hp : pc + 1 = pc') (k : Z E0 b fz F t Q n σ h kc ks pc' L (.int (gi (x / y)) :: st)) : Z E0 b fz F t Q n σ h kc ks pc L (.int (gi y) :: .int (gi x) :: st) := by
  subst hp
  intro H locs ls a1 a3 a4 a5 a6
  exact lv_idiv C.1 C.2.1 hd (by rw [gi_0, gi_eq (by omega) (by omega)]; omega) (by rw [gi_div hx hy]; exact k H locs ls a1 a3 a4 a5 a6)
theorem z_irem {x y : Int} (pc' : Nat) (C : gC E0 F t) (hd : decode (gCode t) pc = .ok (.irem, 1)) (hx : 0 ≤ x ∧ x < 2147483648) (hy : 0 < y ∧ y < 2147483648) (hp : pc + 1 = pc') (k : Z E0 b fz F t Q n σ h kc ks pc' L (.int (gi (x % y)) :: st)) : Z E0 b fz F t Q n σ h kc ks pc L (.int (gi y) :: .int (gi x) :: st) := by
  subst hp
  intro H locs ls a1 a3 a4 a5 a6
  exact lv_irem C.1 C.2.1 hd (by rw [gi_0, gi_eq (by omega) (by omega)]; omega) (by rw [gi_rem hx hy]; exact k H locs ls a1 a3 a4 a5 a6)
theorem z_lcmp {x y : Int64} (pc' : Nat) (C : gC E0 F t) (hd : decode (gCode t) pc = .ok (.lcmp, 1)) (hp : pc + 1 = pc') (k : Z E0 b fz F t Q n σ h kc ks pc' L (.int (lg_cmp x y) :: st)) : Z E0 b fz F t Q n σ h kc ks pc L (.long y :: .long x :: st) := by
  subst hp
  intro H locs ls a1 a3 a4 a5 a6
  exact W.lcmp C.1 C.2.1 hd (k H locs ls a1 a3 a4 a5 a6)
theorem z_i2l {x : Int32} (pc' : Nat) (C : gC E0 F t) (hd : decode (gCode t) pc = .ok (.i2l, 1)) (hp : pc + 1 = pc') (k : Z E0 b fz F t Q n σ h kc ks pc' L (.long x.toInt64 :: st)) : Z E0 b fz F t Q n σ h kc ks pc L (.int x :: st) := by
  subst hp
  intro H locs ls a1 a3 a4 a5 a6
  exact lv_i2l C.1 C.2.1 hd rfl (k H locs ls a1 a3 a4 a5 a6)
theorem z_dup {v : Value} (pc' : Nat) (C : gC E0 F t) (hd : decode (gCode t) pc = .ok (.dup, 1)) (hv : v.category = 1) (hp : pc + 1 = pc') (k : Z E0 b fz F t Q n σ h kc ks pc' L (v :: v :: st)) : Z E0 b fz F t Q n σ h kc ks pc L (v :: st) := by
  subst hp
  intro H locs ls a1 a3 a4 a5 a6
  exact lv_dup C.1 C.2.1 hd hv (k H locs ls a1 a3 a4 a5 a6)
theorem z_goto {off : Int} (pc' : Nat) (C : gC E0 F t) (hd : decode (gCode t) pc = .ok (.goto off, 3)) (hp : (pc : Int) + off = (pc' : Int)) (k : Z E0 b fz F t Q n σ h kc ks pc' L st) : Z E0 b fz F t Q n σ h kc ks pc L st := by
  intro H locs ls a1 a3 a4 a5 a6
  exact lv_goto C.1 C.2.1 hd hp (k H locs ls a1 a3 a4 a5 a6)
theorem z_icmp_eq {x y : Int} {off : Int} (tgt pc' : Nat) (C : gC E0 F t) (hd : decode (gCode t) pc = .ok (.if_icmp .eq off, 3)) (ht : (pc : Int) + off = (tgt : Int)) (hp : pc + 3 = pc') (hx : -2147483648 ≤ x ∧ x < 2147483648) (hy : -2147483648 ≤ y ∧ y < 2147483648) (kt : x = y → Z E0 b fz F t Q n σ h kc ks tgt L st) (kf : ¬ x = y → Z E0 b fz F t Q n σ h kc ks pc' L st) : Z E0 b fz F t Q n σ h kc ks pc L (.int (gi y) :: .int (gi x) :: st) := by
  subst hp
  intro H locs ls a1 a3 a4 a5 a6
  exact lv_icmp_eq C.1 C.2.1 hd ht (fun z => kt ((gi_eq hx hy).mp z) H locs ls a1 a3 a4 a5 a6) (fun z => kf (fun z9 => z ((gi_eq hx hy).mpr z9)) H locs ls a1 a3 a4 a5 a6)
theorem z_if_eq {x : Int} {off : Int} (tgt pc' : Nat) (C : gC E0 F t) (hd : decode (gCode t) pc = .ok (.ifCond .eq off, 3)) (ht : (pc : Int) + off = (tgt : Int)) (hp : pc + 3 = pc') (hx : -2147483648 ≤ x ∧ x < 2147483648) (kt : x = 0 → Z E0 b fz F t Q n σ h kc ks tgt L st) (kf : ¬ x = 0 → Z E0 b fz F t Q n σ h kc ks pc' L st) : Z E0 b fz F t Q n σ h kc ks pc L (.int (gi x) :: st) := by
  subst hp
  intro H locs ls a1 a3 a4 a5 a6
  exact lv_if_eq C.1 C.2.1 hd ht (fun z => kt ((gi_eq hx (y := 0) (by decide)).mp z) H locs ls a1 a3 a4 a5 a6) (fun z => kf (fun z9 => z ((gi_eq hx (y := 0) (by decide)).mpr z9)) H locs ls a1 a3 a4 a5 a6)
theorem z_icmp_ne {x y : Int} {off : Int} (tgt pc' : Nat) (C : gC E0 F t) (hd : decode (gCode t) pc = .ok (.if_icmp .ne off, 3)) (ht : (pc : Int) + off = (tgt : Int)) (hp : pc + 3 = pc') (hx : -2147483648 ≤ x ∧ x < 2147483648) (hy : -2147483648 ≤ y ∧ y < 2147483648) (kt : ¬ x = y → Z E0 b fz F t Q n σ h kc ks tgt L st) (kf : x = y → Z E0 b fz F t Q n σ h kc ks pc' L st) : Z E0 b fz F t Q n σ h kc ks pc L (.int (gi y) :: .int (gi x) :: st) := by
  subst hp
  intro H locs ls a1 a3 a4 a5 a6
  exact lv_icmp_ne C.1 C.2.1 hd ht (fun z => kt (fun z9 => z ((gi_eq hx hy).mpr z9)) H locs ls a1 a3 a4 a5 a6) (fun z => kf ((gi_eq hx hy).mp z) H locs ls a1 a3 a4 a5 a6)
theorem z_if_ne {x : Int} {off : Int} (tgt pc' : Nat) (C : gC E0 F t) (hd : decode (gCode t) pc = .ok (.ifCond .ne off, 3)) (ht : (pc : Int) + off = (tgt : Int)) (hp : pc + 3 = pc') (hx : -2147483648 ≤ x ∧ x < 2147483648) (kt : ¬ x = 0 → Z E0 b fz F t Q n σ h kc ks tgt L st) (kf : x = 0 → Z E0 b fz F t Q n σ h kc ks pc' L st) : Z E0 b fz F t Q n σ h kc ks pc L (.int (gi x) :: st) := by
  subst hp
  intro H locs ls a1 a3 a4 a5 a6
  exact lv_if_ne C.1 C.2.1 hd ht (fun z => kt (fun z9 => z ((gi_eq hx (y := 0) (by decide)).mpr z9)) H locs ls a1 a3 a4 a5 a6) (fun z => kf ((gi_eq hx (y := 0) (by decide)).mp z) H locs ls a1 a3 a4 a5 a6)
theorem z_icmp_lt {x y : Int} {off : Int} (tgt pc' : Nat) (C : gC E0 F t) (hd : decode (gCode t) pc = .ok (.if_icmp .lt off, 3)) (ht : (pc : Int) + off = (tgt : Int)) (hp : pc + 3 = pc') (hx : -2147483648 ≤ x ∧ x < 2147483648) (hy : -2147483648 ≤ y ∧ y < 2147483648) (kt : x < y → Z E0 b fz F t Q n σ h kc ks tgt L st) (kf : ¬ x < y → Z E0 b fz F t Q n σ h kc ks pc' L st) : Z E0 b fz F t Q n σ h kc ks pc L (.int (gi y) :: .int (gi x) :: st) := by
  subst hp
  intro H locs ls a1 a3 a4 a5 a6
  exact lv_icmp_lt C.1 C.2.1 hd ht (fun z => kt ((gi_lt hx hy).mp z) H locs ls a1 a3 a4 a5 a6) (fun z => kf (fun z9 => z ((gi_lt hx hy).mpr z9)) H locs ls a1 a3 a4 a5 a6)
theorem z_if_lt {x : Int} {off : Int} (tgt pc' : Nat) (C : gC E0 F t) (hd : decode (gCode t) pc = .ok (.ifCond .lt off, 3)) (ht : (pc : Int) + off = (tgt : Int)) (hp : pc + 3 = pc') (hx : -2147483648 ≤ x ∧ x < 2147483648) (kt : x < 0 → Z E0 b fz F t Q n σ h kc ks tgt L st) (kf : ¬ x < 0 → Z E0 b fz F t Q n σ h kc ks pc' L st) : Z E0 b fz F t Q n σ h kc ks pc L (.int (gi x) :: st) := by
  subst hp
  intro H locs ls a1 a3 a4 a5 a6
  exact lv_if_lt C.1 C.2.1 hd ht (fun z => kt ((gi_lt hx (y := 0) (by decide)).mp z) H locs ls a1 a3 a4 a5 a6) (fun z => kf (fun z9 => z ((gi_lt hx (y := 0) (by decide)).mpr z9)) H locs ls a1 a3 a4 a5 a6)
theorem z_icmp_le {x y : Int} {off : Int} (tgt pc' : Nat) (C : gC E0 F t) (hd : decode (gCode t) pc = .ok (.if_icmp .le off, 3)) (ht : (pc : Int) + off = (tgt : Int)) (hp : pc + 3 = pc') (hx : -2147483648 ≤ x ∧ x < 2147483648) (hy : -2147483648 ≤ y ∧ y < 2147483648) (kt : x ≤ y → Z E0 b fz F t Q n σ h kc ks tgt L st) (kf : ¬ x ≤ y → Z E0 b fz F t Q n σ h kc ks pc' L st) : Z E0 b fz F t Q n σ h kc ks pc L (.int (gi y) :: .int (gi x) :: st) := by
  subst hp
  intro H locs ls a1 a3 a4 a5 a6
  exact lv_icmp_le C.1 C.2.1 hd ht (fun z => kt ((gi_le hx hy).mp z) H locs ls a1 a3 a4 a5 a6) (fun z => kf (fun z9 => z ((gi_le hx hy).mpr z9)) H locs ls a1 a3 a4 a5 a6)
theorem z_if_le {x : Int} {off : Int} (tgt pc' : Nat) (C : gC E0 F t) (hd : decode (gCode t) pc = .ok (.ifCond .le off, 3)) (ht : (pc : Int) + off = (tgt : Int)) (hp : pc + 3 = pc') (hx : -2147483648 ≤ x ∧ x < 2147483648) (kt : x ≤ 0 → Z E0 b fz F t Q n σ h kc ks tgt L st) (kf : ¬ x ≤ 0 → Z E0 b fz F t Q n σ h kc ks pc' L st) : Z E0 b fz F t Q n σ h kc ks pc L (.int (gi x) :: st) := by
  subst hp
  intro H locs ls a1 a3 a4 a5 a6
  exact lv_if_le C.1 C.2.1 hd ht (fun z => kt ((gi_le hx (y := 0) (by decide)).mp z) H locs ls a1 a3 a4 a5 a6) (fun z => kf (fun z9 => z ((gi_le hx (y := 0) (by decide)).mpr z9)) H locs ls a1 a3 a4 a5 a6)
theorem z_icmp_gt {x y : Int} {off : Int} (tgt pc' : Nat) (C : gC E0 F t) (hd : decode (gCode t) pc = .ok (.if_icmp .gt off, 3)) (ht : (pc : Int) + off = (tgt : Int)) (hp : pc + 3 = pc') (hx : -2147483648 ≤ x ∧ x < 2147483648) (hy : -2147483648 ≤ y ∧ y < 2147483648) (kt : y < x → Z E0 b fz F t Q n σ h kc ks tgt L st) (kf : ¬ y < x → Z E0 b fz F t Q n σ h kc ks pc' L st) : Z E0 b fz F t Q n σ h kc ks pc L (.int (gi y) :: .int (gi x) :: st) := by
  subst hp
  intro H locs ls a1 a3 a4 a5 a6
  exact lv_icmp_gt C.1 C.2.1 hd ht (fun z => kt ((gi_lt hy hx).mp z) H locs ls a1 a3 a4 a5 a6) (fun z => kf (fun z9 => z ((gi_lt hy hx).mpr z9)) H locs ls a1 a3 a4 a5 a6)
theorem z_if_gt {x : Int} {off : Int} (tgt pc' : Nat) (C : gC E0 F t) (hd : decode (gCode t) pc = .ok (.ifCond .gt off, 3)) (ht : (pc : Int) + off = (tgt : Int)) (hp : pc + 3 = pc') (hx : -2147483648 ≤ x ∧ x < 2147483648) (kt : 0 < x → Z E0 b fz F t Q n σ h kc ks tgt L st) (kf : ¬ 0 < x → Z E0 b fz F t Q n σ h kc ks pc' L st) : Z E0 b fz F t Q n σ h kc ks pc L (.int (gi x) :: st) := by
  subst hp
  intro H locs ls a1 a3 a4 a5 a6
  exact lv_if_gt C.1 C.2.1 hd ht (fun z => kt ((gi_lt (x := 0) (by decide) hx).mp z) H locs ls a1 a3 a4 a5 a6) (fun z => kf (fun z9 => z ((gi_lt (x := 0) (by decide) hx).mpr z9)) H locs ls a1 a3 a4 a5 a6)
theorem z_icmp_ge {x y : Int} {off : Int} (tgt pc' : Nat) (C : gC E0 F t) (hd : decode (gCode t) pc = .ok (.if_icmp .ge off, 3)) (ht : (pc : Int) + off = (tgt : Int)) (hp : pc + 3 = pc') (hx : -2147483648 ≤ x ∧ x < 2147483648) (hy : -2147483648 ≤ y ∧ y < 2147483648) (kt : y ≤ x → Z E0 b fz F t Q n σ h kc ks tgt L st) (kf : ¬ y ≤ x → Z E0 b fz F t Q n σ h kc ks pc' L st) : Z E0 b fz F t Q n σ h kc ks pc L (.int (gi y) :: .int (gi x) :: st) := by
  subst hp
  intro H locs ls a1 a3 a4 a5 a6
  exact lv_icmp_ge C.1 C.2.1 hd ht (fun z => kt ((gi_le hy hx).mp z) H locs ls a1 a3 a4 a5 a6) (fun z => kf (fun z9 => z ((gi_le hy hx).mpr z9)) H locs ls a1 a3 a4 a5 a6)
theorem z_if_ge {x : Int} {off : Int} (tgt pc' : Nat) (C : gC E0 F t) (hd : decode (gCode t) pc = .ok (.ifCond .ge off, 3)) (ht : (pc : Int) + off = (tgt : Int)) (hp : pc + 3 = pc') (hx : -2147483648 ≤ x ∧ x < 2147483648) (kt : 0 ≤ x → Z E0 b fz F t Q n σ h kc ks tgt L st) (kf : ¬ 0 ≤ x → Z E0 b fz F t Q n σ h kc ks pc' L st) : Z E0 b fz F t Q n σ h kc ks pc L (.int (gi x) :: st) := by
  subst hp
  intro H locs ls a1 a3 a4 a5 a6
  exact lv_if_ge C.1 C.2.1 hd ht (fun z => kt ((gi_le (x := 0) (by decide) hx).mp z) H locs ls a1 a3 a4 a5 a6) (fun z => kf (fun z9 => z ((gi_le (x := 0) (by decide) hx).mpr z9)) H locs ls a1 a3 a4 a5 a6)
theorem z_dcmp {x y : UInt64} {op : CmpOp} {c : Int} (pc' : Nat) (C : gC E0 F t) (hd : decode (gCode t) pc = .ok (.dcmp op, 1)) (hv : Op.cmpValue (FP.dcmp x y) op = gi c) (hp : pc + 1 = pc') (k : Z E0 b fz F t Q n σ h kc ks pc' L (.int (gi c) :: st)) : Z E0 b fz F t Q n σ h kc ks pc L (.double y :: .double x :: st) := by
  subst hp
  rw [← hv] at k
  intro H locs ls a1 a3 a4 a5 a6
  exact lv_dcmp C.1 C.2.1 hd (k H locs ls a1 a3 a4 a5 a6)
theorem z_dconst1 (pc' : Nat) (C : gC E0 F t) (hd : decode (gCode t) pc = .ok (.dconst 1, 1)) (hp : pc + 1 = pc') (k : Z E0 b fz F t Q n σ h kc ks pc' L (.double FP.dconst1 :: st)) : Z E0 b fz F t Q n σ h kc ks pc L st := by
  subst hp
  intro H locs ls a1 a3 a4 a5 a6
  exact lv_dconst1 C.1 C.2.1 hd (k H locs ls a1 a3 a4 a5 a6)
theorem z_dconst0 (pc' : Nat) (C : gC E0 F t) (hd : decode (gCode t) pc = .ok (.dconst 0, 1)) (hp : pc + 1 = pc') (k : Z E0 b fz F t Q n σ h kc ks pc' L (.double FP.dconst0 :: st)) : Z E0 b fz F t Q n σ h kc ks pc L st := by
  subst hp
  intro H locs ls a1 a3 a4 a5 a6
  exact lv_dconst0 C.1 C.2.1 hd (k H locs ls a1 a3 a4 a5 a6)
theorem z_loc (L' : List (Nat × Value)) (hL : gSub L L') (k : Z E0 b fz F t Q n σ h kc ks pc L' st) : Z E0 b fz F t Q n σ h kc ks pc L st := fun H locs ls a1 a3 a4 a5 a6 => k H locs ls a1 a3 a4 (gSub_has a5 L' hL) a6
theorem z_ishr {x v : Int32} {y : Int32} (pc' : Nat) (C : gC E0 F t) (hd : decode (gCode t) pc = .ok (.ishr, 1)) (hv : x >>> (y &&& 31) = v) (hp : pc + 1 = pc') (k : Z E0 b fz F t Q n σ h kc ks pc' L (.int v :: st)) : Z E0 b fz F t Q n σ h kc ks pc L (.int y :: .int x :: st) := by
  subst hp
  subst hv
  intro H locs ls a1 a3 a4 a5 a6
  exact lv_ishr C.1 C.2.1 hd (k H locs ls a1 a3 a4 a5 a6)
theorem z_iald {q m : Nat} {i : Int} {f : Int → Int} (pc' : Nat) (C : gC E0 F t) (hd : decode (gCode t) pc = .ok (.iaload, 1)) (hb : gB (gRe E0 b) ≤ q ∧ q < gB (gRe E0 b) + n) (hq : h q = gI (gRe E0 b) m f) (hi : 0 ≤ i ∧ i < (m : Int)) (hm : m < 2147483648) (hp : pc + 1 = pc') (k : Z E0 b fz F t Q n σ h kc ks pc' L (.int (gi (f i)) :: st)) : Z E0 b fz F t Q n σ h kc ks pc L (.int (gi i) :: .ref q :: st) := by
  subst hp
  intro H locs ls a1 a3 a4 a5 a6
  refine va_iald (f := gIf m f) (n := m) C.1 C.2.1 C.2.2.2.2.2.1.1 a3 (q - gB (gRe E0 b)) 0 (by rw [gws_get hb.1 hb.2, hq]; rfl) rfl (gi_in hi hm) hd ?_
  rw [gi_clamp hi.1 (by omega), gIf_at hi.1 hi.2]
  exact k H locs ls a1 a3 a4 a5 a6
theorem z_lald {q m : Nat} {i : Int} {f : Int → Int64} (pc' : Nat) (C : gC E0 F t) (hd : decode (gCode t) pc = .ok (.laload, 1)) (hb : gB (gRe E0 b) ≤ q ∧ q < gB (gRe E0 b) + n) (hq : h q = gJ (gRe E0 b) m f) (hi : 0 ≤ i ∧ i < (m : Int)) (hm : m < 2147483648) (hp : pc + 1 = pc') (k : Z E0 b fz F t Q n σ h kc ks pc' L (.long (f i) :: st)) : Z E0 b fz F t Q n σ h kc ks pc L (.int (gi i) :: .ref q :: st) := by
  subst hp
  intro H locs ls a1 a3 a4 a5 a6
  refine va_lald (f := fun j => f (j : Int)) (n := m) C.1 C.2.1 C.2.2.2.2.2.1.1 a3 (q - gB (gRe E0 b)) 5 (by rw [gws_get hb.1 hb.2, hq]; rfl) rfl (gi_in hi hm) hd ?_
  rw [gi_clamp hi.1 (by omega), Int.toNat_of_nonneg hi.1]
  exact k H locs ls a1 a3 a4 a5 a6
theorem z_iast {q m : Nat} {i x : Int} {f : Int → Int} (pc' : Nat) (C : gC E0 F t) (hd : decode (gCode t) pc = .ok (.iastore, 1)) (hb : gB (gRe E0 b) ≤ q ∧ q < gB (gRe E0 b) + n) (hq : h q = gI (gRe E0 b) m f) (hi : 0 ≤ i ∧ i < (m : Int)) (hm : m < 2147483648) (hp : pc + 1 = pc') (k : Z E0 b fz F t Q n σ (va_up h q (gI (gRe E0 b) m (gup f i x))) kc ks pc' L st) : Z E0 b fz F t Q n σ h kc ks pc L (.int (gi x) :: .int (gi i) :: .ref q :: st) := by
  subst hp
  intro H locs ls a1 a3 a4 a5 a6
  have he : (gws (gB (gRe E0 b)) n h)[q - gB (gRe E0 b)]? = some (q, .inl ((gRe E0 b).2.2.1 0, m, .inl (gIf m f))) := by rw [gws_get hb.1 hb.2, hq]; rfl
  refine W.iast C.1 C.2.1 (a3 (q - gB (gRe E0 b)) _ he) ((C.2.2.2.2.2.1.1.2 0 _ rfl).1 m (fun j => .int (gIf m f j))) (fun q => by cases q) (by show ¬ (gi i < 0 ∨ (arrV _ _ _).slots.size ≤ _); rw [arrV_size]; exact gi_in hi hm) rfl rfl hd fun H1 e z oq => ?_
  have hP' := va_P.set a3 gws_D he (e := gI (gRe E0 b) m (gup f i x)) (by
    show H1[q]? = some (vp_cell _ _)
    rw [e]
    show some ((vp_cell _ (m, .inl (gIf m f))).setSlot _ _) = some (vp_cell _ (m, .inl (gIf m (gup f i x))))
    rw [← gup_nat hi.1 hi.2, vp_cell_i, vp_cell_i, arrV_store, gi_clamp hi.1 (by omega)]
    congr 2
    funext z9
    by_cases hz : z9 = i.toNat
    · subst hz
      simp [updV, upd]
    · simp [updV, upd, hz]) oq
  rw [gws_set hb.1 hb.2] at hP'
  exact k H1 _ ls (gS_eq a1 z) hP' (a4.put z oq (Nat.le_trans a6.1 hb.1)) a5 ⟨a6.1, by rw [z]; exact a6.2.1, fun q9 h9 => (oq q9 (show q9 ≠ q from fun z8 => absurd hb.1 (by rw [← z8]; exact Nat.not_le.mpr h9))).trans (a6.2.2 q9 h9)⟩
theorem z_last {q m : Nat} {i : Int} {x : Int64} {f : Int → Int64} (pc' : Nat) (C : gC E0 F t) (hd : decode (gCode t) pc = .ok (.lastore, 1)) (hb : gB (gRe E0 b) ≤ q ∧ q < gB (gRe E0 b) + n) (hq : h q = gJ (gRe E0 b) m f) (hi : 0 ≤ i ∧ i < (m : Int)) (hm : m < 2147483648) (hp : pc + 1 = pc') (k : Z E0 b fz F t Q n σ (va_up h q (gJ (gRe E0 b) m (gup f i x))) kc ks pc' L st) : Z E0 b fz F t Q n σ h kc ks pc L (.long x :: .int (gi i) :: .ref q :: st) := by
  subst hp
  intro H locs ls a1 a3 a4 a5 a6
  have he : (gws (gB (gRe E0 b)) n h)[q - gB (gRe E0 b)]? = some (q, .inl ((gRe E0 b).2.2.1 5, m, .inr (.inl (fun j => f (j : Int))))) := by rw [gws_get hb.1 hb.2, hq]; rfl
  refine W.last C.1 C.2.1 (a3 (q - gB (gRe E0 b)) _ he) ((C.2.2.2.2.2.1.1.2 5 _ rfl).1 m (fun j => .long (f (j : Int)))) (fun q => by cases q) (by show ¬ (gi i < 0 ∨ (arrV _ _ _).slots.size ≤ _); rw [arrV_size]; exact gi_in hi hm) rfl rfl hd fun H1 e z oq => ?_
  have hP' := va_P.set a3 gws_D he (e := gJ (gRe E0 b) m (gup f i x)) (by
    show H1[q]? = some (arrV _ m (fun j : Nat => Value.long (gup f i x (j : Int))))
    rw [e]
    show some ((arrV _ m (fun j : Nat => Value.long (f (j : Int)))).setSlot _ _) = _
    rw [arrV_store, gi_clamp hi.1 (by omega)]
    congr 2
    funext z9
    unfold updV gup
    by_cases hz : z9 = i.toNat
    · rw [if_pos hz, if_pos (by omega)]
    · rw [if_neg hz, if_neg (by omega)]) oq
  rw [gws_set hb.1 hb.2] at hP'
  exact k H1 _ ls (gS_eq a1 z) hP' (a4.put z oq (Nat.le_trans a6.1 hb.1)) a5 ⟨a6.1, by rw [z]; exact a6.2.1, fun q9 h9 => (oq q9 (show q9 ≠ q from fun z8 => absurd hb.1 (by rw [← z8]; exact Nat.not_le.mpr h9))).trans (a6.2.2 q9 h9)⟩
theorem z_new {own : String} {index ci N : Nat} {fs : List Value} (pc' : Nat) (C : gC E0 F t) (hd : decode (gCode t) pc = .ok (.new index, 3)) (hw : gNw own index ci N fs) (ho : t.1.cls = own) (hk1 : kc + 1 ≤ gMc t) (hk2 : ks + N ≤ gMs t) (hp : pc + 3 = pc') (k : Z E0 b fz F t Q (n + 1) (some (gB (gRe E0 b) + (n + 1))) (va_up h (gB (gRe E0 b) + n) (gO ci fs)) (kc + 1) (ks + N) pc' L (.ref (gB (gRe E0 b) + n) :: st)) : Z E0 b fz F t Q n (some (gB (gRe E0 b) + n)) h kc ks pc L st := by
  subst hp
  subst ho
  intro H locs ls a1 a3 a4 a5 a6
  obtain ⟨C1, T1, ty, w1, w2, w3, w4, w5, w6, w7⟩ := hw
  have hz := a1 _ rfl
  have hKn := C.2.2.2.2.2.1.1.1 ci _ w1
  refine W.newcK C.1 C.2.1 C.2.2.2.1 (C.2.2.2.2.1 _ w4) (C.2.2.2.2.1 _ w5) (C.2.2.2.2.1 _ w6) rfl hd hk1 hk2 hKn.2.1 rfl fun H1 kC hkC e1 z1 o1 => ?_
  rw [hz] at e1 z1 ⊢
  exact k H1 _ ls (gS_push z1) (gP_push a3 hz o1 ⟨_, w1, (u_born ty C.2.2.2.2.1 w2 hKn hkC e1 w3).to w7⟩) ⟨Nat.le_trans a4.1 (by omega), fun x h1 h2 => (o1 x (Nat.lt_of_lt_of_le h1 a4.1)).trans (a4.2.1 x h1 h2), a4.2.2⟩ a5 ⟨a6.1, by have e8 : gB (gRe E0 b) = b := rfl; omega, fun q9 h9 => (o1 q9 (Nat.lt_of_lt_of_le h9 a6.2.1)).trans (a6.2.2 q9 h9)⟩
theorem z_newai {m : Nat} {d : Int} (pc' : Nat) (C : gC E0 F t) (hd : decode (gCode t) pc = .ok (.newarray .int, 2)) (hm : d = (m : Int) ∧ m < 10000) (hk1 : kc + 1 ≤ gMc t) (hk2 : ks + m ≤ gMs t) (hp : pc + 2 = pc') (k : Z E0 b fz F t Q (n + 1) (some (gB (gRe E0 b) + (n + 1))) (va_up h (gB (gRe E0 b) + n) (gI (gRe E0 b) m (fun _ => 0))) (kc + 1) (ks + m) pc' L (.ref (gB (gRe E0 b) + n) :: st)) : Z E0 b fz F t Q n (some (gB (gRe E0 b) + n)) h kc ks pc L (.int (gi d) :: st) := by
  subst hp
  obtain ⟨rfl, hm⟩ := hm
  intro H locs ls a1 a3 a4 a5 a6
  have hz := a1 _ rfl
  have e0 : gI (gRe E0 b) m (fun _ => 0) = .inl ((gRe E0 b).2.2.1 0, m, .inl (fun _ => 0)) := by unfold gI; rw [gIf_0]
  rw [e0] at k
  refine va_newaK C.1 C.2.1 (atype := .int) (C.2.2.2.2.1 _ gw_ai) rfl hd rfl (by rw [gi_0, gi_lt (by omega) (by omega)]; omega) (N := m) (by rw [gi_clamp (by omega) (by omega)]; omega) (by show m * 4 ≤ _; omega) hk1 hk2 hz fun H1 cA e1 z1 o1 f1 f2 => ?_
  have hcA := gK_arr (c := 0) C.2.2.2.2.2.1.1 rfl f2
  subst hcA
  exact k H1 _ ls (gS_push z1) (gP_push a3 hz (by rw [hz]; exact o1) e1) ⟨Nat.le_trans a4.1 (by omega), fun x h1 h2 => (o1 x (by have := a4.1; omega)).trans (a4.2.1 x h1 h2), a4.2.2⟩ a5 ⟨a6.1, by have e8 : gB (gRe E0 b) = b := rfl; omega, fun q9 h9 => (o1 q9 (by have e8 : gB (gRe E0 b) = b := rfl; omega)).trans (a6.2.2 q9 h9)⟩
theorem z_newal {m : Nat} {d : Int} (pc' : Nat) (C : gC E0 F t) (hd : decode (gCode t) pc = .ok (.newarray .long, 2)) (hm : d = (m : Int) ∧ m < 10000) (hk1 : kc + 1 ≤ gMc t) (hk2 : ks + m ≤ gMs t) (hp : pc + 2 = pc') (k : Z E0 b fz F t Q (n + 1) (some (gB (gRe E0 b) + (n + 1))) (va_up h (gB (gRe E0 b) + n) (gJ (gRe E0 b) m (fun _ => 0))) (kc + 1) (ks + m) pc' L (.ref (gB (gRe E0 b) + n) :: st)) : Z E0 b fz F t Q n (some (gB (gRe E0 b) + n)) h kc ks pc L (.int (gi d) :: st) := by
  subst hp
  obtain ⟨rfl, hm⟩ := hm
  intro H locs ls a1 a3 a4 a5 a6
  have hz := a1 _ rfl
  refine va_newaK C.1 C.2.1 (atype := .long) (C.2.2.2.2.1 _ gw_al) rfl hd rfl (by rw [gi_0, gi_lt (by omega) (by omega)]; omega) (N := m) (by rw [gi_clamp (by omega) (by omega)]; omega) (by show m * 8 ≤ _; omega) hk1 hk2 hz fun H1 cA e1 z1 o1 f1 f2 => ?_
  have hcA := gK_arr (c := 5) C.2.2.2.2.2.1.1 rfl f2
  subst hcA
  exact k H1 _ ls (gS_push z1) (gP_push a3 hz (by rw [hz]; exact o1) e1) ⟨Nat.le_trans a4.1 (by omega), fun x h1 h2 => (o1 x (by have := a4.1; omega)).trans (a4.2.1 x h1 h2), a4.2.2⟩ a5 ⟨a6.1, by have e8 : gB (gRe E0 b) = b := rfl; omega, fun q9 h9 => (o1 q9 (by have e8 : gB (gRe E0 b) = b := rfl; omega)).trans (a6.2.2 q9 h9)⟩
theorem gP_0 {E : gEnv} {H : Heap} : gP E 0 h H := fun i q hi => absurd (gws_of hi).1 (Nat.not_lt_zero _)
theorem gW_zat {av : List Value} {H : Heap} {locs : List Loc} (C : gC E0 F t) (a1 : gS σ H) (a3 : gP (gRe E0 b) n h H) (a4 : va_S (gA E0) F.2.2.1.heap H locs) (a6 : gFz E0 b fz H) : ∀ U : State, U.heap = H → F.2.2.1.WarmedH U.vm → va_Pc av (gW (gRe E0 b) n σ h) av.toArray U := fun U hU hW => ⟨rfl, by rw [hU]; exact a1, by rw [hU]; exact a6.2.1, by rw [hU]; exact a3, gX_re a6.1 (gX_go C.2.2.2.2.2.1 hW (locs := locs) (by rw [hU]; exact a4))⟩
theorem z_run {mc ms : Nat} {a : Array Value} {QR : gQt} {QX : String → gH → Prop} {st0 rest : List Value} {H : Heap} {locs : List Loc} {ls : Array Slot} (a4 : va_S (gA E0) F.2.2.1.heap H locs) (a5 : lv_has ls (gMax t) L) (a6 : gFz E0 b fz H)
    (hr : vx_Run F.1 E0.1 F.2.1 (gRm t) F.2.2.1 F.2.2.2.1 F.2.2.2.2.1 F.2.2.2.2.2.1 F.2.2.2.2.2.2.1 F.2.2.2.2.2.2.2 H locs kc ks mc ms (F0 F.2.2.2.1 pc ls st0) rest (gQc (gRe E0 b) QR a) (gXC (gRe E0 b) n QX) (gA (gRe E0 b)))
    (hx : ∀ (X : String) (h' : gH), ¬ QX X h')
    (kk : ∀ (v : Option Value) (n' : Nat) (σ' : Option Nat) (h' : gH), QR v n' σ' h' → Z E0 b fz F t Q n' σ' h' (kc + mc) (ks + ms) (pc + 3) L (v.toList ++ rest)) :
    W F.1 E0.1 F.2.1 (gRm t) F.2.2.1 F.2.2.2.1 F.2.2.2.2.1 F.2.2.2.2.2.1 F.2.2.2.2.2.2.1 F.2.2.2.2.2.2.2 H locs kc ks Q (F0 F.2.2.2.1 pc ls st0) := by
  intro T hT X
  rcases hr T hT X with ⟨v, st₀, t9, T', L9, h0, X', hL, e1, e2, ⟨⟨v', n', σ', h', hv, hq, z1, z3⟩, hF⟩, st⟩ | ⟨q, st₀, t9, T', L9, Ex, ce, h0, X', hL, e1, e2, ⟨⟨h', hq, z3⟩, hF⟩, hce, hcv, hcl, st⟩
  · cases hv
    obtain ⟨k1, k2, k3⟩ := vx_keep h0 e1 a4 (fun _ _ z => Nat.le_trans a6.1 z) (fun _ z => Nat.le_trans a6.1 z) hL hF
    obtain ⟨t2, b1, b2⟩ := kk v n' σ' h' hq T'.heap (locs ++ L9) ls (by rw [e1]; exact z1) (by rw [e1]; exact z3) k3 a5 ⟨a6.1, Nat.le_trans a6.2.1 k1, fun q9 h9 => (k2 q9 (Nat.lt_of_lt_of_le h9 a6.2.1) (Nat.not_le.mpr h9)).trans (a6.2.2 q9 h9)⟩ T' rfl X'
    exact ⟨t2, st t2 b1, b2⟩
  · exact (hx _ _ hq).elim
theorem z_callV {tc : gMt} {own Cl : String} {index np ci a : Nat} {fs As rest : List Value} {QR : gQt} {QX : String → gH → Prop} (pc' : Nat) (C : gC E0 F t) (hd : decode (gCode t) pc = .ok (.invokevirtual index, 3)) (ho : t.1.cls = own) (lk : gLk own index tc np) (hi : Cond.instanceMethod tc.1 ∈ wsG) (hs : Cond.selects Cl tc.1 tc.1 ∈ wsG) (hci : ∃ (T : u_T) (N : Nat), vwCl[ci]? = some (Cl, T, N)) (hb : b ≤ a ∧ a < b + n) (hq : h a = gO ci fs) (hn : As.length = np) (ft : gFit tc t kc ks) (hw : (rest.map fun v => v.category).sum ≤ 8) (hp : pc + 3 = pc')
    (hM : gM (gRe E0 b) tc (.ref a :: As) n σ h QR QX) (hx : ∀ (X : String) (h' : gH), ¬ QX X h')
    (kk : ∀ (v : Option Value) (n' : Nat) (σ' : Option Nat) (h' : gH), QR v n' σ' h' → Z E0 b fz F t Q n' σ' h' (kc + gMc tc) (ks + gMs tc) pc' L (v.toList ++ rest)) : Z E0 b fz F t Q n σ h kc ks pc L (As.reverse ++ .ref a :: rest) := by
  subst hp
  intro H locs ls a1 a3 a4 a5 a6
  obtain ⟨T9, N9, hci⟩ := hci
  have hrecv := va_recv C.2.2.2.2.2.1.1 a3 hci (show (gws b n h)[a - b]? = some (a, .inr (ci, fs)) by rw [gws_get hb.1 hb.2, hq]; rfl)
  exact z_run (F := F) a4 a5 a6 (vx_runV (As := As) (rest := rest) (own := own) (C := Cl) ⟨C.1, C.2.1, C.2.2.1, ho ▸ C.2.2.2.1, C.2.2.2.2.1⟩ hM ⟨gLk_B C ho lk ft, C.2.2.2.2.1 _ hi, C.2.2.2.2.1 _ hs⟩ ⟨gW_blind, hrecv, gW_zat C a1 a3 a4 a6⟩ rfl hn a5.1 rfl (lv_room hw) hd ft.2) hx kk
theorem z_callS {tc : gMt} {own : String} {index np : Nat} {As rest : List Value} {QR : gQt} {QX : String → gH → Prop} (pc' : Nat) (C : gC E0 F t) (hd : decode (gCode t) pc = .ok (.invokestatic index, 3)) (ho : t.1.cls = own) (lk : gLk own index tc np) (hs : Cond.static tc.1 ∈ wsG) (hn : As.length = np) (ft : gFit tc t kc ks) (hw : (rest.map fun v => v.category).sum ≤ 8) (hp : pc + 3 = pc')
    (hM : gM (gRe E0 b) tc As n σ h QR QX) (hx : ∀ (X : String) (h' : gH), ¬ QX X h')
    (kk : ∀ (v : Option Value) (n' : Nat) (σ' : Option Nat) (h' : gH), QR v n' σ' h' → Z E0 b fz F t Q n' σ' h' (kc + gMc tc) (ks + gMs tc) pc' L (v.toList ++ rest)) : Z E0 b fz F t Q n σ h kc ks pc L (As.reverse ++ rest) := by
  subst hp
  intro H locs ls a1 a3 a4 a5 a6
  exact z_run (F := F) a4 a5 a6 (vx_runS (As := As) (rest := rest) (own := own) ⟨C.1, C.2.1, C.2.2.1, ho ▸ C.2.2.2.1, C.2.2.2.2.1⟩ hM ⟨gLk_B C ho lk ft, C.2.2.2.2.1 _ hs⟩ ⟨gW_blind, gW_zat C a1 a3 a4 a6⟩ rfl hn a5.1 rfl (lv_room hw) hd ft.2) hx kk
theorem z_callI {tc : gMt} {own : String} {index np a : Nat} {As rest : List Value} {QR : gQt} {QX : String → gH → Prop} (pc' : Nat) (C : gC E0 F t) (hd : decode (gCode t) pc = .ok (.invokespecial index, 3)) (ho : t.1.cls = own) (lk : gLk own index tc np) (hi : Cond.instanceMethod tc.1 ∈ wsG) (hy : tc.1.name = "<init>") (hret : gRet tc = none) (hn : As.length = np) (ft : gFit tc t kc ks) (hw : (rest.map fun v => v.category).sum ≤ 8) (hp : pc + 3 = pc')
    (hM : gM (gRe E0 b) tc (.ref a :: As) n σ h QR QX) (hx : ∀ (X : String) (h' : gH), ¬ QX X h')
    (kk : ∀ (v : Option Value) (n' : Nat) (σ' : Option Nat) (h' : gH), QR v n' σ' h' → Z E0 b fz F t Q n' σ' h' (kc + gMc tc) (ks + gMs tc) pc' L (v.toList ++ rest)) : Z E0 b fz F t Q n σ h kc ks pc L (As.reverse ++ .ref a :: rest) := by
  subst hp
  intro H locs ls a1 a3 a4 a5 a6
  have hB := gLk_B C ho lk ft
  rw [hret] at hB
  exact z_run (F := F) a4 a5 a6 (vx_runI (As := As) (rest := rest) (own := own) ⟨C.1, C.2.1, C.2.2.1, ho ▸ C.2.2.2.1, C.2.2.2.2.1⟩ hM ⟨by rw [hret]; exact hB, hy, C.2.2.2.2.1 _ hi⟩ ⟨gW_blind, gW_zat C a1 a3 a4 a6⟩ rfl hn a5.1 rfl (lv_room hw) hd ft.2) hx kk
theorem z_callSW {hh : List (Nat × Nat × Nat × Nat)} {tc : gMt} {own : String} {index np : Nat} {As rest : List Value} {QR : gQt} {QX : String → gH → Prop} (pc' : Nat) (C : gC E0 F t) (hd : decode (gCode t) pc = .ok (.invokestatic index, 3)) (ho : t.1.cls = own) (hl : Cond.methodLink own index tc.1 ∈ wsG) (hini : Cond.initialized tc.1.cls ∈ wsG) (hcd : Cond.codeWith tc.1 (gCode tc) (gMax tc) (gRet tc) hh ∈ wsG) (hcl : tc.1.cls ≠ "java/lang/invoke/MethodHandle" ∧ tc.1.cls ≠ "java/lang/invoke/VarHandle" ∧ (parseMethodDescriptor tc.1.desc).map (fun d => d.parameters.length) = some np) (hs : Cond.static tc.1 ∈ wsG) (hn : As.length = np) (ft : gFit tc t kc ks) (hw : (rest.map fun v => v.category).sum ≤ 8) (hp : pc + 3 = pc')
    (hM : gMH (gRe E0 b) tc hh As n σ h QR QX) (hx : ∀ (X : String) (h' : gH), ¬ QX X h')
    (kk : ∀ (v : Option Value) (n' : Nat) (σ' : Option Nat) (h' : gH), QR v n' σ' h' → Z E0 b fz F t Q n' σ' h' (kc + gMc tc) (ks + gMs tc) pc' L (v.toList ++ rest)) : Z E0 b fz F t Q n σ h kc ks pc L (As.reverse ++ rest) := by
  subst hp
  intro H locs ls a1 a3 a4 a5 a6
  have cw : vx_CSW (gRm t) F.2.2.1 F.2.2.2.2.1 own index tc.1 (gCode tc) (gMax tc) (gRet tc) hh (.codeWith tc.1 (gCode tc) (gMax tc) (gRet tc) hh :: wsG) (gRm tc) (gMc tc) (gMs tc) np :=
    ⟨⟨rfl, rfl, ft.1.1, ft.1.2, pay_in C.2.2.2.2.1 (wsG_goodC hcd), List.mem_cons_self⟩, C.2.2.2.2.1 _ hcd, C.2.2.2.2.1 _ hini, ⟨hcl.1, hcl.2.1⟩, fun sig h9 => by
      have h2 := hcl.2.2
      rw [h9] at h2
      exact (Option.some.inj h2).symm, C.2.2.2.2.1 _ hl, C.2.2.2.2.1 _ hs⟩
  exact z_run (F := F) a4 a5 a6 (vx_runSX (As := As) (rest := rest) (own := own) (hh := hh) ⟨C.1, C.2.1, C.2.2.1, ho ▸ C.2.2.2.1, C.2.2.2.2.1⟩ hM cw ⟨gW_blind, gW_zat C a1 a3 a4 a6⟩ rfl hn a5.1 rfl (lv_room hw) hd ft.2) hx kk
theorem z_iret {n0 : Nat} {x : Int32} {QR : gQt} {QX : String → gH → Prop} (C : gC E0 F t) (hd : decode (gCode t) pc = .ok (.ireturn, 1)) (hr : gRet t = some .int) (hk : kc ≤ gMc t ∧ ks ≤ gMs t) (hq : QR (some (.int x)) 0 none h) : Z E0 b fz F t (gQ E0 F t n0 QR QX) n σ h kc ks pc L [.int x] := by
  intro H locs ls a1 a3 a4 a5 a6
  refine vx_ret (W.widen hk.1 hk.2 ?_)
  exact W.iret C.1 C.2.1 (C.2.2.2.2.2.2.2.1.trans hr) (fun t9 ht hW => ⟨⟨_, 0, none, h, rfl, hq, fun z hz => (by cases hz), gP_0⟩, a4.F ht⟩) a4.2.2 hd C.2.2.2.2.2.2.1
theorem z_zret {n0 : Nat} {x : Int32} {ty : FieldType} {QR : gQt} {QX : String → gH → Prop} (C : gC E0 F t) (hd : decode (gCode t) pc = .ok (.ireturn, 1)) (hr : gRet t = some ty) (hn : narrow ty (.int x) = .int x) (hk : kc ≤ gMc t ∧ ks ≤ gMs t) (hq : QR (some (.int x)) 0 none h) : Z E0 b fz F t (gQ E0 F t n0 QR QX) n σ h kc ks pc L [.int x] := by
  intro H locs ls a1 a3 a4 a5 a6
  refine vx_ret (W.widen hk.1 hk.2 ?_)
  exact W.zret C.1 C.2.1 (C.2.2.2.2.2.2.2.1.trans hr) hn (fun t9 ht hW => ⟨⟨_, 0, none, h, rfl, hq, fun z hz => (by cases hz), gP_0⟩, a4.F ht⟩) a4.2.2 hd C.2.2.2.2.2.2.1
end GZZ
