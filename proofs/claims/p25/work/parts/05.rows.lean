/-! THE ROWS OF THE LAYER -/
theorem gi_toInt {x : Int} (h : -2147483648 ≤ x ∧ x < 2147483648) : (gi x).toInt = x := Int32.toInt_ofInt_of_le (by simpa using h.1) (by simpa using h.2)
theorem gi_add (a b : Int) : gi a + gi b = gi (a + b) := (Int32.ofInt_add a b).symm
theorem gi_sub (a b : Int) : gi a - gi b = gi (a - b) := (Int32.ofInt_sub a b).symm
theorem gi_mul (a b : Int) : gi a * gi b = gi (a * b) := (Int32.ofInt_mul a b).symm
theorem gi_lt {x y : Int} (hx : -2147483648 ≤ x ∧ x < 2147483648) (hy : -2147483648 ≤ y ∧ y < 2147483648) : gi x < gi y ↔ x < y := by rw [Int32.lt_iff_toInt_lt, gi_toInt hx, gi_toInt hy]
theorem gi_le {x y : Int} (hx : -2147483648 ≤ x ∧ x < 2147483648) (hy : -2147483648 ≤ y ∧ y < 2147483648) : gi x ≤ gi y ↔ x ≤ y := by rw [Int32.le_iff_toInt_le, gi_toInt hx, gi_toInt hy]
theorem gi_eq {x y : Int} (hx : -2147483648 ≤ x ∧ x < 2147483648) (hy : -2147483648 ≤ y ∧ y < 2147483648) : gi x = gi y ↔ x = y := by
  constructor
  · intro h
    have := congrArg Int32.toInt h
    rwa [gi_toInt hx, gi_toInt hy] at this
  · intro h; rw [h]
theorem gi_0 : (0 : Int32) = gi 0 := rfl
theorem gi_asI (x : Int32) : x = gi x.toInt := (Int32.ofInt_toInt x).symm
theorem gi_clamp {i : Int} (h0 : 0 ≤ i) (h1 : i < 2147483648) : (gi i).toNatClampNeg = i.toNat := by
  show (gi i).toInt.toNat = i.toNat
  rw [gi_toInt ⟨by omega, h1⟩]
theorem gi_in {i : Int} {m : Nat} (h : 0 ≤ i ∧ i < (m : Int)) (hm : m < 2147483648) : vp_in (gi i) m := by
  rw [vp_in_iff, gi_toInt ⟨by omega, by omega⟩]
  exact h
theorem gi_div {a b : Int} (h0 : 0 ≤ a ∧ a < 2147483648) (hb : 0 < b ∧ b < 2147483648) : gi a / gi b = gi (a / b) := by
  have h1 : 0 ≤ a / b := Int.ediv_nonneg h0.1 (by omega)
  have h2 : a / b ≤ a := Int.ediv_le_self _ h0.1
  rw [gi_asI (gi a / gi b), Int32.toInt_div, gi_toInt (by omega), gi_toInt (by omega), Int.tdiv_eq_ediv_of_nonneg h0.1]
  congr 1
  have e : ((2 ^ 32 : Nat) : Int) = 4294967296 := rfl
  exact Int.bmod_eq_of_le_mul_two (by rw [e]; omega) (by rw [e]; omega)
theorem gi_rem {a b : Int} (h0 : 0 ≤ a ∧ a < 2147483648) (hb : 0 < b ∧ b < 2147483648) : gi a - gi a / gi b * gi b = gi (a % b) := by
  rw [gi_div h0 hb, gi_mul, gi_sub]
  congr 1
  rw [Int.emod_def, Int.mul_comm b]
/-- places of an int row, of a long row, of a row of references -/
def gIf (m : Nat) (f : Int → Int) : Nat → Int32 := fun j => if j < m then gi (f (j : Int)) else 0
def gI (E : gEnv) (m : Nat) (f : Int → Int) : va_E := .inl (E.2.2.1 0, m, .inl (gIf m f))
theorem gI_ext {E : gEnv} {m : Nat} {f g : Int → Int} (hfg : ∀ i : Int, 0 ≤ i → i < (m : Int) → f i = g i) : gI E m f = gI E m g := by
  have e : gIf m f = gIf m g := by
    funext j
    unfold gIf
    by_cases hj : j < m
    · rw [if_pos hj, if_pos hj, hfg _ (by omega) (by omega)]
    · rw [if_neg hj, if_neg hj]
  unfold gI
  rw [e]
theorem gIf_at {m : Nat} {f : Int → Int} {i : Int} (h0 : 0 ≤ i) (h1 : i < (m : Int)) : gIf m f i.toNat = gi (f i) := by
  unfold gIf
  rw [if_pos (by omega), Int.toNat_of_nonneg h0]
theorem gIf_0 {m : Nat} : gIf m (fun _ => 0) = fun _ => 0 := by
  funext j
  unfold gIf
  by_cases hj : j < m
  · rw [if_pos hj]; rfl
  · rw [if_neg hj]
def gJ (E : gEnv) (m : Nat) (f : Int → Int64) : va_E := .inl (E.2.2.1 5, m, .inr (.inl (fun j => f (j : Int))))
def gR (E : gEnv) (c m : Nat) (f : Int → Option Nat) : va_E := .inl (E.2.2.1 c, m, .inr (.inr (.inr (.inr (fun j => f (j : Int))))))
def gO (ci : Nat) (fs : List Value) : va_E := .inr (ci, fs)
def gup {α : Type} (f : Int → α) (i : Int) (x : α) : Int → α := fun j => if j = i then x else f j
def gset (i : Nat) (v : Value) (L : List (Nat × Value)) : List (Nat × Value) := (i, v) :: L.filter (fun q => !(q.1 == i) && !(q.1 + 1 == i && q.2.category == 2))
def gset2 (i : Nat) (v : Value) (L : List (Nat × Value)) : List (Nat × Value) := (i, v) :: L.filter (fun q => !(q.1 == i) && (!(q.1 == i + 1) && !(q.1 + 1 == i && q.2.category == 2)))
/-- a field's link -/
def gFl (own : String) (index ci k : Nat) : Prop := ∃ (C : String) (T : u_T) (N : Nat), vwCl[ci]? = some (C, T, N) ∧ k < N ∧ (∀ w ∈ u_ws C T N, w ∈ wsG) ∧ Cond.fieldLink own index (T k).1 (T k).2.1 (T k).2.2.1 ∈ wsG
def gFp (own : String) (index ci k : Nat) (ty : FieldType) (fin : Bool) : Prop := ∃ (C : String) (T : u_T) (N : Nat), vwCl[ci]? = some (C, T, N) ∧ k < N ∧ (∀ w ∈ u_ws C T N, w ∈ wsG) ∧ Cond.fieldLink own index (T k).1 (T k).2.1 (T k).2.2.1 ∈ wsG ∧ (∃ ty0 : Nat → FieldType, ∀ k, k < N → parseFieldDescriptor (T k).2.2.1 = some (ty0 k)) ∧ (∀ a, a < N → ∀ b, b < N → a ≠ b → (T a).2.1 ≠ (T b).2.1) ∧ (T k).2.2.2 = fin ∧ (fin = true → (T k).1 = own) ∧ parseFieldDescriptor (T k).2.2.1 = some ty
/-- a class that is made -/
def gNw (own : String) (index ci N : Nat) (fs : List Value) : Prop := ∃ (C : String) (T : u_T) (ty : Nat → FieldType), vwCl[ci]? = some (C, T, N) ∧ (∀ w ∈ u_ws C T N, w ∈ wsG) ∧ (∀ k, k < N → parseFieldDescriptor (T k).2.2.1 = some (ty k)) ∧ Cond.classLink own index C ∈ wsG ∧ Cond.instantiable C N ∈ wsG ∧ Cond.initialized C ∈ wsG ∧ (∀ j, j < N → defaultValue (ty j) = vp_V fs j)
section GL
variable {E : gEnv} {F : gFr} {t : gMt} {Q : State → Prop} {n : Nat} {σ : Option Nat} {h : gH} {kc ks pc pc' : Nat} {L L' : List (Nat × Value)} {st : List Value}
theorem g_iload {i : Nat} {x : Int32} (pc' : Nat) (C : gC E F t) (hd : decode (gCode t) pc = .ok (.iload i, 2)) (hl : L.lookup i = some (.int x)) (hp : pc + 2 = pc') (k : G E F t Q n σ h kc ks pc' L (.int x :: st)) : G E F t Q n σ h kc ks pc L st := by
  subst hp
  intro H locs ls a1 a3 a4 a5
  exact lv_iload C.1 C.2.1 hd (gl_at a5 hl) (k H locs ls a1 a3 a4 a5)
theorem g_iload_n {j : Fin 4} {x : Int32} (pc' : Nat) (C : gC E F t) (hd : decode (gCode t) pc = .ok (.iload_n j, 1)) (hl : L.lookup (j : Nat) = some (.int x)) (hp : pc + 1 = pc') (k : G E F t Q n σ h kc ks pc' L (.int x :: st)) : G E F t Q n σ h kc ks pc L st := by
  subst hp
  intro H locs ls a1 a3 a4 a5
  exact lv_iload_n C.1 C.2.1 hd rfl (gl_at a5 hl) (k H locs ls a1 a3 a4 a5)
theorem g_lload {i : Nat} {x : Int64} (pc' : Nat) (C : gC E F t) (hd : decode (gCode t) pc = .ok (.lload i, 2)) (hl : L.lookup i = some (.long x)) (hp : pc + 2 = pc') (k : G E F t Q n σ h kc ks pc' L (.long x :: st)) : G E F t Q n σ h kc ks pc L st := by
  subst hp
  intro H locs ls a1 a3 a4 a5
  exact lv_lload C.1 C.2.1 hd (gl_at a5 hl) (k H locs ls a1 a3 a4 a5)
theorem g_lload_n {j : Fin 4} {x : Int64} (pc' : Nat) (C : gC E F t) (hd : decode (gCode t) pc = .ok (.lload_n j, 1)) (hl : L.lookup (j : Nat) = some (.long x)) (hp : pc + 1 = pc') (k : G E F t Q n σ h kc ks pc' L (.long x :: st)) : G E F t Q n σ h kc ks pc L st := by
  subst hp
  intro H locs ls a1 a3 a4 a5
  exact lv_lload_n C.1 C.2.1 hd rfl (gl_at a5 hl) (k H locs ls a1 a3 a4 a5)
theorem g_aload {i : Nat} {x : Nat} (pc' : Nat) (C : gC E F t) (hd : decode (gCode t) pc = .ok (.aload i, 2)) (hl : L.lookup i = some (.ref x)) (hp : pc + 2 = pc') (k : G E F t Q n σ h kc ks pc' L (.ref x :: st)) : G E F t Q n σ h kc ks pc L st := by
  subst hp
  intro H locs ls a1 a3 a4 a5
  exact lv_aload C.1 C.2.1 hd (gl_at a5 hl) (k H locs ls a1 a3 a4 a5)
theorem g_aload_n {j : Fin 4} {x : Nat} (pc' : Nat) (C : gC E F t) (hd : decode (gCode t) pc = .ok (.aload_n j, 1)) (hl : L.lookup (j : Nat) = some (.ref x)) (hp : pc + 1 = pc') (k : G E F t Q n σ h kc ks pc' L (.ref x :: st)) : G E F t Q n σ h kc ks pc L st := by
  subst hp
  intro H locs ls a1 a3 a4 a5
  exact lv_aload_n C.1 C.2.1 hd rfl (gl_at a5 hl) (k H locs ls a1 a3 a4 a5)
theorem g_dload {i : Nat} {x : UInt64} (pc' : Nat) (C : gC E F t) (hd : decode (gCode t) pc = .ok (.dload i, 2)) (hl : L.lookup i = some (.double x)) (hp : pc + 2 = pc') (k : G E F t Q n σ h kc ks pc' L (.double x :: st)) : G E F t Q n σ h kc ks pc L st := by
  subst hp
  intro H locs ls a1 a3 a4 a5
  exact lv_dload C.1 C.2.1 hd (gl_at a5 hl) (k H locs ls a1 a3 a4 a5)
theorem g_dload_n {j : Fin 4} {x : UInt64} (pc' : Nat) (C : gC E F t) (hd : decode (gCode t) pc = .ok (.dload_n j, 1)) (hl : L.lookup (j : Nat) = some (.double x)) (hp : pc + 1 = pc') (k : G E F t Q n σ h kc ks pc' L (.double x :: st)) : G E F t Q n σ h kc ks pc L st := by
  subst hp
  intro H locs ls a1 a3 a4 a5
  exact lv_dload_n C.1 C.2.1 hd rfl (gl_at a5 hl) (k H locs ls a1 a3 a4 a5)
theorem g_istore {i : Nat} {x : Int32} (pc' : Nat) (L' : List (Nat × Value)) (C : gC E F t) (hd : decode (gCode t) pc = .ok (.istore i, 2)) (hn : i < gMax t) (hL : gset i (.int x) L = L') (hp : pc + 2 = pc') (k : G E F t Q n σ h kc ks pc' L' st) : G E F t Q n σ h kc ks pc L (.int x :: st) := by
  subst hp
  intro H locs ls a1 a3 a4 a5
  exact lv_istore C.1 C.2.1 hd a5 hn hL (fun ls' a5' => k H locs ls' a1 a3 a4 a5')
theorem g_istore_n {j : Fin 4} {x : Int32} (pc' : Nat) (L' : List (Nat × Value)) (C : gC E F t) (hd : decode (gCode t) pc = .ok (.istore_n j, 1)) (hn : (j : Nat) < gMax t) (hL : gset (j : Nat) (.int x) L = L') (hp : pc + 1 = pc') (k : G E F t Q n σ h kc ks pc' L' st) : G E F t Q n σ h kc ks pc L (.int x :: st) := by
  subst hp
  intro H locs ls a1 a3 a4 a5
  exact lv_istore_n C.1 C.2.1 hd rfl a5 hn hL (fun ls' a5' => k H locs ls' a1 a3 a4 a5')
theorem g_astore {i : Nat} {x : Nat} (pc' : Nat) (L' : List (Nat × Value)) (C : gC E F t) (hd : decode (gCode t) pc = .ok (.astore i, 2)) (hn : i < gMax t) (hL : gset i (.ref x) L = L') (hp : pc + 2 = pc') (k : G E F t Q n σ h kc ks pc' L' st) : G E F t Q n σ h kc ks pc L (.ref x :: st) := by
  subst hp
  intro H locs ls a1 a3 a4 a5
  exact lv_astore C.1 C.2.1 hd a5 hn hL (fun ls' a5' => k H locs ls' a1 a3 a4 a5')
theorem g_astore_n {j : Fin 4} {x : Nat} (pc' : Nat) (L' : List (Nat × Value)) (C : gC E F t) (hd : decode (gCode t) pc = .ok (.astore_n j, 1)) (hn : (j : Nat) < gMax t) (hL : gset (j : Nat) (.ref x) L = L') (hp : pc + 1 = pc') (k : G E F t Q n σ h kc ks pc' L' st) : G E F t Q n σ h kc ks pc L (.ref x :: st) := by
  subst hp
  intro H locs ls a1 a3 a4 a5
  exact lv_astore_n C.1 C.2.1 hd rfl a5 hn hL (fun ls' a5' => k H locs ls' a1 a3 a4 a5')
theorem g_lstore {i : Nat} {x : Int64} (pc' : Nat) (L' : List (Nat × Value)) (C : gC E F t) (hd : decode (gCode t) pc = .ok (.lstore i, 2)) (hn : i + 1 < gMax t) (hL : gset2 i (.long x) L = L') (hp : pc + 2 = pc') (k : G E F t Q n σ h kc ks pc' L' st) : G E F t Q n σ h kc ks pc L (.long x :: st) := by
  subst hp
  intro H locs ls a1 a3 a4 a5
  exact lv_lstore C.1 C.2.1 hd a5 hn hL (fun ls' a5' => k H locs ls' a1 a3 a4 a5')
theorem g_lstore_n {j : Fin 4} {x : Int64} (pc' : Nat) (L' : List (Nat × Value)) (C : gC E F t) (hd : decode (gCode t) pc = .ok (.lstore_n j, 1)) (hn : (j : Nat) + 1 < gMax t) (hL : gset2 (j : Nat) (.long x) L = L') (hp : pc + 1 = pc') (k : G E F t Q n σ h kc ks pc' L' st) : G E F t Q n σ h kc ks pc L (.long x :: st) := by
  subst hp
  intro H locs ls a1 a3 a4 a5
  exact lv_lstore_n C.1 C.2.1 hd rfl a5 hn hL (fun ls' a5' => k H locs ls' a1 a3 a4 a5')
theorem g_dstore {i : Nat} {x : UInt64} (pc' : Nat) (L' : List (Nat × Value)) (C : gC E F t) (hd : decode (gCode t) pc = .ok (.dstore i, 2)) (hn : i + 1 < gMax t) (hL : gset2 i (.double x) L = L') (hp : pc + 2 = pc') (k : G E F t Q n σ h kc ks pc' L' st) : G E F t Q n σ h kc ks pc L (.double x :: st) := by
  subst hp
  intro H locs ls a1 a3 a4 a5
  exact lv_dstore C.1 C.2.1 hd a5 hn hL (fun ls' a5' => k H locs ls' a1 a3 a4 a5')
theorem g_dstore_n {j : Fin 4} {x : UInt64} (pc' : Nat) (L' : List (Nat × Value)) (C : gC E F t) (hd : decode (gCode t) pc = .ok (.dstore_n j, 1)) (hn : (j : Nat) + 1 < gMax t) (hL : gset2 (j : Nat) (.double x) L = L') (hp : pc + 1 = pc') (k : G E F t Q n σ h kc ks pc' L' st) : G E F t Q n σ h kc ks pc L (.double x :: st) := by
  subst hp
  intro H locs ls a1 a3 a4 a5
  exact lv_dstore_n C.1 C.2.1 hd rfl a5 hn hL (fun ls' a5' => k H locs ls' a1 a3 a4 a5')
theorem g_iinc {i : Nat} {x d : Int} (pc' : Nat) (L' : List (Nat × Value)) (C : gC E F t) (hd : decode (gCode t) pc = .ok (.iinc i d, 3)) (hl : L.lookup i = some (.int (gi x))) (hn : i < gMax t) (hL : gset i (.int (gi (x + d))) L = L') (hp : pc + 3 = pc') (k : G E F t Q n σ h kc ks pc' L' st) : G E F t Q n σ h kc ks pc L st := by
  subst hp
  intro H locs ls a1 a3 a4 a5
  obtain ⟨k9, hk9⟩ := List.getElem?_of_mem (gl_mem hl)
  exact lv_iinc C.1 C.2.1 hd a5 hk9 (gi_add x d) hn hL (fun ls' a5' => k H locs ls' a1 a3 a4 a5')
theorem g_iconst {d : Int} (pc' : Nat) (C : gC E F t) (hd : decode (gCode t) pc = .ok (.iconst d, 1)) (hp : pc + 1 = pc') (k : G E F t Q n σ h kc ks pc' L (.int (gi d) :: st)) : G E F t Q n σ h kc ks pc L st := by
  subst hp
  intro H locs ls a1 a3 a4 a5
  exact lv_iconst C.1 C.2.1 hd rfl (k H locs ls a1 a3 a4 a5)
theorem g_bipush {d : Int} (pc' : Nat) (C : gC E F t) (hd : decode (gCode t) pc = .ok (.bipush d, 2)) (hv : (Int8.ofInt d).toInt32 = gi d) (hp : pc + 2 = pc') (k : G E F t Q n σ h kc ks pc' L (.int (gi d) :: st)) : G E F t Q n σ h kc ks pc L st := by
  subst hp
  intro H locs ls a1 a3 a4 a5
  exact lv_bipush C.1 C.2.1 hd hv (k H locs ls a1 a3 a4 a5)
theorem g_sipush {d : Int} (pc' : Nat) (C : gC E F t) (hd : decode (gCode t) pc = .ok (.sipush d, 3)) (hv : (Int16.ofInt d).toInt32 = gi d) (hp : pc + 3 = pc') (k : G E F t Q n σ h kc ks pc' L (.int (gi d) :: st)) : G E F t Q n σ h kc ks pc L st := by
  subst hp
  intro H locs ls a1 a3 a4 a5
  exact lv_sipush C.1 C.2.1 hd hv (k H locs ls a1 a3 a4 a5)
theorem g_lconst {d : Fin 2} (pc' : Nat) (C : gC E F t) (hd : decode (gCode t) pc = .ok (.lconst d, 1)) (hp : pc + 1 = pc') (k : G E F t Q n σ h kc ks pc' L (.long (Int64.ofNat (d : Nat)) :: st)) : G E F t Q n σ h kc ks pc L st := by
  subst hp
  intro H locs ls a1 a3 a4 a5
  exact lv_lconst C.1 C.2.1 hd rfl (k H locs ls a1 a3 a4 a5)
theorem g_ldc2l {v : Int64} {index : Nat} (pc' : Nat) (C : gC E F t) (hd : decode (gCode t) pc = .ok (.ldc2_w index, 3)) (hc : Cond.constantLong t.1.cls index v ∈ wsG) (hp : pc + 3 = pc') (k : G E F t Q n σ h kc ks pc' L (.long v :: st)) : G E F t Q n σ h kc ks pc L st := by
  subst hp
  intro H locs ls a1 a3 a4 a5
  exact lv_ldc2 C.1 C.2.1 C.2.2.2.1 (C.2.2.2.2.1 _ hc) hd (k H locs ls a1 a3 a4 a5)
theorem g_ldc2d {v : UInt64} {index : Nat} (pc' : Nat) (C : gC E F t) (hd : decode (gCode t) pc = .ok (.ldc2_w index, 3)) (hc : Cond.constantDouble t.1.cls index v ∈ wsG) (hp : pc + 3 = pc') (k : G E F t Q n σ h kc ks pc' L (.double v :: st)) : G E F t Q n σ h kc ks pc L st := by
  subst hp
  intro H locs ls a1 a3 a4 a5
  exact lv_ldc2d C.1 C.2.1 C.2.2.2.1 (C.2.2.2.2.1 _ hc) hd (k H locs ls a1 a3 a4 a5)
theorem g_iadd {x y : Int} (pc' : Nat) (C : gC E F t) (hd : decode (gCode t) pc = .ok (.iadd, 1)) (hp : pc + 1 = pc') (k : G E F t Q n σ h kc ks pc' L (.int (gi (x + y)) :: st)) : G E F t Q n σ h kc ks pc L (.int (gi y) :: .int (gi x) :: st) := by
  subst hp
  intro H locs ls a1 a3 a4 a5
  exact lv_iadd C.1 C.2.1 hd (by rw [gi_add]; exact k H locs ls a1 a3 a4 a5)
theorem g_isub {x y : Int} (pc' : Nat) (C : gC E F t) (hd : decode (gCode t) pc = .ok (.isub, 1)) (hp : pc + 1 = pc') (k : G E F t Q n σ h kc ks pc' L (.int (gi (x - y)) :: st)) : G E F t Q n σ h kc ks pc L (.int (gi y) :: .int (gi x) :: st) := by
  subst hp
  intro H locs ls a1 a3 a4 a5
  exact lv_isub C.1 C.2.1 hd (by rw [gi_sub]; exact k H locs ls a1 a3 a4 a5)
theorem g_imul {x y : Int} (pc' : Nat) (C : gC E F t) (hd : decode (gCode t) pc = .ok (.imul, 1)) (hp : pc + 1 = pc') (k : G E F t Q n σ h kc ks pc' L (.int (gi (x * y)) :: st)) : G E F t Q n σ h kc ks pc L (.int (gi y) :: .int (gi x) :: st) := by
  subst hp
  intro H locs ls a1 a3 a4 a5
  exact lv_imul C.1 C.2.1 hd (by rw [gi_mul]; exact k H locs ls a1 a3 a4 a5)
theorem g_idiv {x y : Int} (pc' : Nat) (C : gC E F t) (hd : decode (gCode t) pc = .ok (.idiv, 1)) (hx : 0 ≤ x ∧ x < 2147483648) (hy : 0 < y ∧ y < 2147483648) (hp : pc + 1 = pc') (k : G E F t Q n σ h kc ks pc' L (.int (gi (x / y)) :: st)) : G E F t Q n σ h kc ks pc L (.int (gi y) :: .int (gi x) :: st) := by
  subst hp
  intro H locs ls a1 a3 a4 a5
  exact lv_idiv C.1 C.2.1 hd (by rw [gi_0, gi_eq (by omega) (by omega)]; omega) (by rw [gi_div hx hy]; exact k H locs ls a1 a3 a4 a5)
theorem g_irem {x y : Int} (pc' : Nat) (C : gC E F t) (hd : decode (gCode t) pc = .ok (.irem, 1)) (hx : 0 ≤ x ∧ x < 2147483648) (hy : 0 < y ∧ y < 2147483648) (hp : pc + 1 = pc') (k : G E F t Q n σ h kc ks pc' L (.int (gi (x % y)) :: st)) : G E F t Q n σ h kc ks pc L (.int (gi y) :: .int (gi x) :: st) := by
  subst hp
  intro H locs ls a1 a3 a4 a5
  exact lv_irem C.1 C.2.1 hd (by rw [gi_0, gi_eq (by omega) (by omega)]; omega) (by rw [gi_rem hx hy]; exact k H locs ls a1 a3 a4 a5)
theorem g_iand {x y v : Int32} (pc' : Nat) (C : gC E F t) (hd : decode (gCode t) pc = .ok (.iand, 1)) (hv : x &&& y = v) (hp : pc + 1 = pc') (k : G E F t Q n σ h kc ks pc' L (.int v :: st)) : G E F t Q n σ h kc ks pc L (.int y :: .int x :: st) := by
  subst hp
  subst hv
  intro H locs ls a1 a3 a4 a5
  exact lv_iand C.1 C.2.1 hd (k H locs ls a1 a3 a4 a5)
theorem g_ior {x y v : Int32} (pc' : Nat) (C : gC E F t) (hd : decode (gCode t) pc = .ok (.ior, 1)) (hv : x ||| y = v) (hp : pc + 1 = pc') (k : G E F t Q n σ h kc ks pc' L (.int v :: st)) : G E F t Q n σ h kc ks pc L (.int y :: .int x :: st) := by
  subst hp
  subst hv
  intro H locs ls a1 a3 a4 a5
  exact lv_ior C.1 C.2.1 hd (k H locs ls a1 a3 a4 a5)
theorem g_ladd {x y : Int64} (pc' : Nat) (C : gC E F t) (hd : decode (gCode t) pc = .ok (.ladd, 1)) (hp : pc + 1 = pc') (k : G E F t Q n σ h kc ks pc' L (.long (x + y) :: st)) : G E F t Q n σ h kc ks pc L (.long y :: .long x :: st) := by
  subst hp
  intro H locs ls a1 a3 a4 a5
  exact lv_ladd C.1 C.2.1 hd (k H locs ls a1 a3 a4 a5)
theorem g_lsub {x y : Int64} (pc' : Nat) (C : gC E F t) (hd : decode (gCode t) pc = .ok (.lsub, 1)) (hp : pc + 1 = pc') (k : G E F t Q n σ h kc ks pc' L (.long (x - y) :: st)) : G E F t Q n σ h kc ks pc L (.long y :: .long x :: st) := by
  subst hp
  intro H locs ls a1 a3 a4 a5
  exact lv_lsub C.1 C.2.1 hd (k H locs ls a1 a3 a4 a5)
theorem g_lmul {x y : Int64} (pc' : Nat) (C : gC E F t) (hd : decode (gCode t) pc = .ok (.lmul, 1)) (hp : pc + 1 = pc') (k : G E F t Q n σ h kc ks pc' L (.long (x * y) :: st)) : G E F t Q n σ h kc ks pc L (.long y :: .long x :: st) := by
  subst hp
  intro H locs ls a1 a3 a4 a5
  exact lv_lmul C.1 C.2.1 hd (k H locs ls a1 a3 a4 a5)
theorem g_lcmp {x y : Int64} (pc' : Nat) (C : gC E F t) (hd : decode (gCode t) pc = .ok (.lcmp, 1)) (hp : pc + 1 = pc') (k : G E F t Q n σ h kc ks pc' L (.int (lg_cmp x y) :: st)) : G E F t Q n σ h kc ks pc L (.long y :: .long x :: st) := by
  subst hp
  intro H locs ls a1 a3 a4 a5
  exact W.lcmp C.1 C.2.1 hd (k H locs ls a1 a3 a4 a5)
theorem g_i2l {x : Int32} (pc' : Nat) (C : gC E F t) (hd : decode (gCode t) pc = .ok (.i2l, 1)) (hp : pc + 1 = pc') (k : G E F t Q n σ h kc ks pc' L (.long x.toInt64 :: st)) : G E F t Q n σ h kc ks pc L (.int x :: st) := by
  subst hp
  intro H locs ls a1 a3 a4 a5
  exact lv_i2l C.1 C.2.1 hd rfl (k H locs ls a1 a3 a4 a5)
theorem g_dup {v : Value} (pc' : Nat) (C : gC E F t) (hd : decode (gCode t) pc = .ok (.dup, 1)) (hv : v.category = 1) (hp : pc + 1 = pc') (k : G E F t Q n σ h kc ks pc' L (v :: v :: st)) : G E F t Q n σ h kc ks pc L (v :: st) := by
  subst hp
  intro H locs ls a1 a3 a4 a5
  exact lv_dup C.1 C.2.1 hd hv (k H locs ls a1 a3 a4 a5)
theorem g_pop {v : Value} (pc' : Nat) (C : gC E F t) (hd : decode (gCode t) pc = .ok (.pop, 1)) (hv : v.category = 1) (hp : pc + 1 = pc') (k : G E F t Q n σ h kc ks pc' L st) : G E F t Q n σ h kc ks pc L (v :: st) := by
  subst hp
  intro H locs ls a1 a3 a4 a5
  exact lv_pop C.1 C.2.1 hd hv (k H locs ls a1 a3 a4 a5)
theorem g_dup2 {v u : Value} (pc' : Nat) (C : gC E F t) (hd : decode (gCode t) pc = .ok (.dup2, 1)) (hv : v.category = 1) (hu : u.category = 1) (hp : pc + 1 = pc') (k : G E F t Q n σ h kc ks pc' L (v :: u :: v :: u :: st)) : G E F t Q n σ h kc ks pc L (v :: u :: st) := by
  subst hp
  intro H locs ls a1 a3 a4 a5
  exact lv_dup2_11 C.1 C.2.1 hd hv hu (k H locs ls a1 a3 a4 a5)
theorem g_goto {off : Int} (pc' : Nat) (C : gC E F t) (hd : decode (gCode t) pc = .ok (.goto off, 3)) (hp : (pc : Int) + off = (pc' : Int)) (k : G E F t Q n σ h kc ks pc' L st) : G E F t Q n σ h kc ks pc L st := by
  intro H locs ls a1 a3 a4 a5
  exact lv_goto C.1 C.2.1 hd hp (k H locs ls a1 a3 a4 a5)
/-- another list of locals, a nearer form of the same heap -/
theorem g_loc (L' : List (Nat × Value)) (hL : gSub L L') (k : G E F t Q n σ h kc ks pc L' st) : G E F t Q n σ h kc ks pc L st := fun H locs ls a1 a3 a4 a5 => k H locs ls a1 a3 a4 (gSub_has a5 L' hL)
theorem g_icmp_eq {x y : Int} {off : Int} (tgt pc' : Nat) (C : gC E F t) (hd : decode (gCode t) pc = .ok (.if_icmp .eq off, 3)) (ht : (pc : Int) + off = (tgt : Int)) (hp : pc + 3 = pc') (hx : -2147483648 ≤ x ∧ x < 2147483648) (hy : -2147483648 ≤ y ∧ y < 2147483648) (kt : x = y → G E F t Q n σ h kc ks tgt L st) (kf : ¬ x = y → G E F t Q n σ h kc ks pc' L st) : G E F t Q n σ h kc ks pc L (.int (gi y) :: .int (gi x) :: st) := by
  subst hp
  intro H locs ls a1 a3 a4 a5
  exact lv_icmp_eq C.1 C.2.1 hd ht (fun z => kt ((gi_eq hx hy).mp z) H locs ls a1 a3 a4 a5) (fun z => kf (fun z9 => z ((gi_eq hx hy).mpr z9)) H locs ls a1 a3 a4 a5)
theorem g_if_eq {x : Int} {off : Int} (tgt pc' : Nat) (C : gC E F t) (hd : decode (gCode t) pc = .ok (.ifCond .eq off, 3)) (ht : (pc : Int) + off = (tgt : Int)) (hp : pc + 3 = pc') (hx : -2147483648 ≤ x ∧ x < 2147483648) (kt : x = 0 → G E F t Q n σ h kc ks tgt L st) (kf : ¬ x = 0 → G E F t Q n σ h kc ks pc' L st) : G E F t Q n σ h kc ks pc L (.int (gi x) :: st) := by
  subst hp
  intro H locs ls a1 a3 a4 a5
  exact lv_if_eq C.1 C.2.1 hd ht (fun z => kt ((gi_eq hx (y := 0) (by decide)).mp z) H locs ls a1 a3 a4 a5) (fun z => kf (fun z9 => z ((gi_eq hx (y := 0) (by decide)).mpr z9)) H locs ls a1 a3 a4 a5)
theorem g_icmp_ne {x y : Int} {off : Int} (tgt pc' : Nat) (C : gC E F t) (hd : decode (gCode t) pc = .ok (.if_icmp .ne off, 3)) (ht : (pc : Int) + off = (tgt : Int)) (hp : pc + 3 = pc') (hx : -2147483648 ≤ x ∧ x < 2147483648) (hy : -2147483648 ≤ y ∧ y < 2147483648) (kt : ¬ x = y → G E F t Q n σ h kc ks tgt L st) (kf : x = y → G E F t Q n σ h kc ks pc' L st) : G E F t Q n σ h kc ks pc L (.int (gi y) :: .int (gi x) :: st) := by
  subst hp
  intro H locs ls a1 a3 a4 a5
  exact lv_icmp_ne C.1 C.2.1 hd ht (fun z => kt (fun z9 => z ((gi_eq hx hy).mpr z9)) H locs ls a1 a3 a4 a5) (fun z => kf ((gi_eq hx hy).mp z) H locs ls a1 a3 a4 a5)
theorem g_if_ne {x : Int} {off : Int} (tgt pc' : Nat) (C : gC E F t) (hd : decode (gCode t) pc = .ok (.ifCond .ne off, 3)) (ht : (pc : Int) + off = (tgt : Int)) (hp : pc + 3 = pc') (hx : -2147483648 ≤ x ∧ x < 2147483648) (kt : ¬ x = 0 → G E F t Q n σ h kc ks tgt L st) (kf : x = 0 → G E F t Q n σ h kc ks pc' L st) : G E F t Q n σ h kc ks pc L (.int (gi x) :: st) := by
  subst hp
  intro H locs ls a1 a3 a4 a5
  exact lv_if_ne C.1 C.2.1 hd ht (fun z => kt (fun z9 => z ((gi_eq hx (y := 0) (by decide)).mpr z9)) H locs ls a1 a3 a4 a5) (fun z => kf ((gi_eq hx (y := 0) (by decide)).mp z) H locs ls a1 a3 a4 a5)
theorem g_icmp_lt {x y : Int} {off : Int} (tgt pc' : Nat) (C : gC E F t) (hd : decode (gCode t) pc = .ok (.if_icmp .lt off, 3)) (ht : (pc : Int) + off = (tgt : Int)) (hp : pc + 3 = pc') (hx : -2147483648 ≤ x ∧ x < 2147483648) (hy : -2147483648 ≤ y ∧ y < 2147483648) (kt : x < y → G E F t Q n σ h kc ks tgt L st) (kf : ¬ x < y → G E F t Q n σ h kc ks pc' L st) : G E F t Q n σ h kc ks pc L (.int (gi y) :: .int (gi x) :: st) := by
  subst hp
  intro H locs ls a1 a3 a4 a5
  exact lv_icmp_lt C.1 C.2.1 hd ht (fun z => kt ((gi_lt hx hy).mp z) H locs ls a1 a3 a4 a5) (fun z => kf (fun z9 => z ((gi_lt hx hy).mpr z9)) H locs ls a1 a3 a4 a5)
theorem g_if_lt {x : Int} {off : Int} (tgt pc' : Nat) (C : gC E F t) (hd : decode (gCode t) pc = .ok (.ifCond .lt off, 3)) (ht : (pc : Int) + off = (tgt : Int)) (hp : pc + 3 = pc') (hx : -2147483648 ≤ x ∧ x < 2147483648) (kt : x < 0 → G E F t Q n σ h kc ks tgt L st) (kf : ¬ x < 0 → G E F t Q n σ h kc ks pc' L st) : G E F t Q n σ h kc ks pc L (.int (gi x) :: st) := by
  subst hp
  intro H locs ls a1 a3 a4 a5
  exact lv_if_lt C.1 C.2.1 hd ht (fun z => kt ((gi_lt hx (y := 0) (by decide)).mp z) H locs ls a1 a3 a4 a5) (fun z => kf (fun z9 => z ((gi_lt hx (y := 0) (by decide)).mpr z9)) H locs ls a1 a3 a4 a5)
theorem g_icmp_le {x y : Int} {off : Int} (tgt pc' : Nat) (C : gC E F t) (hd : decode (gCode t) pc = .ok (.if_icmp .le off, 3)) (ht : (pc : Int) + off = (tgt : Int)) (hp : pc + 3 = pc') (hx : -2147483648 ≤ x ∧ x < 2147483648) (hy : -2147483648 ≤ y ∧ y < 2147483648) (kt : x ≤ y → G E F t Q n σ h kc ks tgt L st) (kf : ¬ x ≤ y → G E F t Q n σ h kc ks pc' L st) : G E F t Q n σ h kc ks pc L (.int (gi y) :: .int (gi x) :: st) := by
  subst hp
  intro H locs ls a1 a3 a4 a5
  exact lv_icmp_le C.1 C.2.1 hd ht (fun z => kt ((gi_le hx hy).mp z) H locs ls a1 a3 a4 a5) (fun z => kf (fun z9 => z ((gi_le hx hy).mpr z9)) H locs ls a1 a3 a4 a5)
theorem g_if_le {x : Int} {off : Int} (tgt pc' : Nat) (C : gC E F t) (hd : decode (gCode t) pc = .ok (.ifCond .le off, 3)) (ht : (pc : Int) + off = (tgt : Int)) (hp : pc + 3 = pc') (hx : -2147483648 ≤ x ∧ x < 2147483648) (kt : x ≤ 0 → G E F t Q n σ h kc ks tgt L st) (kf : ¬ x ≤ 0 → G E F t Q n σ h kc ks pc' L st) : G E F t Q n σ h kc ks pc L (.int (gi x) :: st) := by
  subst hp
  intro H locs ls a1 a3 a4 a5
  exact lv_if_le C.1 C.2.1 hd ht (fun z => kt ((gi_le hx (y := 0) (by decide)).mp z) H locs ls a1 a3 a4 a5) (fun z => kf (fun z9 => z ((gi_le hx (y := 0) (by decide)).mpr z9)) H locs ls a1 a3 a4 a5)
theorem g_icmp_gt {x y : Int} {off : Int} (tgt pc' : Nat) (C : gC E F t) (hd : decode (gCode t) pc = .ok (.if_icmp .gt off, 3)) (ht : (pc : Int) + off = (tgt : Int)) (hp : pc + 3 = pc') (hx : -2147483648 ≤ x ∧ x < 2147483648) (hy : -2147483648 ≤ y ∧ y < 2147483648) (kt : y < x → G E F t Q n σ h kc ks tgt L st) (kf : ¬ y < x → G E F t Q n σ h kc ks pc' L st) : G E F t Q n σ h kc ks pc L (.int (gi y) :: .int (gi x) :: st) := by
  subst hp
  intro H locs ls a1 a3 a4 a5
  exact lv_icmp_gt C.1 C.2.1 hd ht (fun z => kt ((gi_lt hy hx).mp z) H locs ls a1 a3 a4 a5) (fun z => kf (fun z9 => z ((gi_lt hy hx).mpr z9)) H locs ls a1 a3 a4 a5)
theorem g_if_gt {x : Int} {off : Int} (tgt pc' : Nat) (C : gC E F t) (hd : decode (gCode t) pc = .ok (.ifCond .gt off, 3)) (ht : (pc : Int) + off = (tgt : Int)) (hp : pc + 3 = pc') (hx : -2147483648 ≤ x ∧ x < 2147483648) (kt : 0 < x → G E F t Q n σ h kc ks tgt L st) (kf : ¬ 0 < x → G E F t Q n σ h kc ks pc' L st) : G E F t Q n σ h kc ks pc L (.int (gi x) :: st) := by
  subst hp
  intro H locs ls a1 a3 a4 a5
  exact lv_if_gt C.1 C.2.1 hd ht (fun z => kt ((gi_lt (x := 0) (by decide) hx).mp z) H locs ls a1 a3 a4 a5) (fun z => kf (fun z9 => z ((gi_lt (x := 0) (by decide) hx).mpr z9)) H locs ls a1 a3 a4 a5)
theorem g_icmp_ge {x y : Int} {off : Int} (tgt pc' : Nat) (C : gC E F t) (hd : decode (gCode t) pc = .ok (.if_icmp .ge off, 3)) (ht : (pc : Int) + off = (tgt : Int)) (hp : pc + 3 = pc') (hx : -2147483648 ≤ x ∧ x < 2147483648) (hy : -2147483648 ≤ y ∧ y < 2147483648) (kt : y ≤ x → G E F t Q n σ h kc ks tgt L st) (kf : ¬ y ≤ x → G E F t Q n σ h kc ks pc' L st) : G E F t Q n σ h kc ks pc L (.int (gi y) :: .int (gi x) :: st) := by
  subst hp
  intro H locs ls a1 a3 a4 a5
  exact lv_icmp_ge C.1 C.2.1 hd ht (fun z => kt ((gi_le hy hx).mp z) H locs ls a1 a3 a4 a5) (fun z => kf (fun z9 => z ((gi_le hy hx).mpr z9)) H locs ls a1 a3 a4 a5)
theorem g_if_ge {x : Int} {off : Int} (tgt pc' : Nat) (C : gC E F t) (hd : decode (gCode t) pc = .ok (.ifCond .ge off, 3)) (ht : (pc : Int) + off = (tgt : Int)) (hp : pc + 3 = pc') (hx : -2147483648 ≤ x ∧ x < 2147483648) (kt : 0 ≤ x → G E F t Q n σ h kc ks tgt L st) (kf : ¬ 0 ≤ x → G E F t Q n σ h kc ks pc' L st) : G E F t Q n σ h kc ks pc L (.int (gi x) :: st) := by
  subst hp
  intro H locs ls a1 a3 a4 a5
  exact lv_if_ge C.1 C.2.1 hd ht (fun z => kt ((gi_le (x := 0) (by decide) hx).mp z) H locs ls a1 a3 a4 a5) (fun z => kf (fun z9 => z ((gi_le (x := 0) (by decide) hx).mpr z9)) H locs ls a1 a3 a4 a5)
theorem g_table {dflt lo hi : Int} {offs : Array Int} {len : Nat} {x off : Int} (tgt : Nat) (C : gC E F t) (hd : decode (gCode t) pc = .ok (.tableswitch dflt lo hi offs, len)) (hx : -2147483648 ≤ x ∧ x < 2147483648) (h1 : lo ≤ x) (h2 : x ≤ hi) (ho : offs[(x - lo).toNat]? = some off) (ht : (pc : Int) + off = (tgt : Int)) (k : G E F t Q n σ h kc ks tgt L st) : G E F t Q n σ h kc ks pc L (.int (gi x) :: st) := by
  intro H locs ls a1 a3 a4 a5
  exact lv_tableIn C.1 C.2.1 hd (by rw [gi_toInt hx]; omega) (by rw [gi_toInt hx]; omega) (by rw [gi_toInt hx]; exact ho) ht (k H locs ls a1 a3 a4 a5)
theorem g_tableD {dflt lo hi : Int} {offs : Array Int} {len : Nat} {x : Int} (tgt : Nat) (C : gC E F t) (hd : decode (gCode t) pc = .ok (.tableswitch dflt lo hi offs, len)) (hx : -2147483648 ≤ x ∧ x < 2147483648) (h1 : x < lo ∨ hi < x) (ht : (pc : Int) + dflt = (tgt : Int)) (k : G E F t Q n σ h kc ks tgt L st) : G E F t Q n σ h kc ks pc L (.int (gi x) :: st) := by
  intro H locs ls a1 a3 a4 a5
  exact lv_tableOut C.1 C.2.1 hd (by rw [gi_toInt hx]; exact h1) ht (k H locs ls a1 a3 a4 a5)
theorem g_lookup {dflt : Int} {ps : Array (Int × Int)} {len : Nat} {x off : Int} (tgt : Nat) (C : gC E F t) (hd : decode (gCode t) pc = .ok (.lookupswitch dflt ps, len)) (hx : -2147483648 ≤ x ∧ x < 2147483648) (hs : (ps.toList.zip (ps.toList.drop 1)).all (fun (a, next) => a.1 < next.1) = true) (ho : Op.lookupswitch.offset ps.toList dflt x = off) (ht : (pc : Int) + off = (tgt : Int)) (k : G E F t Q n σ h kc ks tgt L st) : G E F t Q n σ h kc ks pc L (.int (gi x) :: st) := by
  intro H locs ls a1 a3 a4 a5
  exact lv_lookup C.1 C.2.1 hd hs (by rw [gi_toInt hx]; exact ho) ht (k H locs ls a1 a3 a4 a5)
theorem g_getf {own : String} {index ci j q : Nat} {fs : List Value} {v : Value} (pc' : Nat) (C : gC E F t) (hd : decode (gCode t) pc = .ok (.getfield index, 3)) (fl : gFl own index ci j) (ho : t.1.cls = own) (hb : gB E ≤ q ∧ q < gB E + n) (hq : h q = gO ci fs) (hv : fs[j]? = some v) (hp : pc + 3 = pc') (k : G E F t Q n σ h kc ks pc' L (v :: st)) : G E F t Q n σ h kc ks pc L (.ref q :: st) := by
  subst hp
  subst ho
  intro H locs ls a1 a3 a4 a5
  obtain ⟨T1, T2, T3, f1, f2, f3, f4⟩ := fl
  exact va_get C.1 C.2.1 C.2.2.2.2.1 f3 C.2.2.2.1 C.2.2.2.2.2.1.1 a3 (q - gB E) (by rw [gws_get hb.1 hb.2, hq]; rfl) f1 j f2 (C.2.2.2.2.1 _ f4) (fun _ z => z) hv hd (k H locs ls a1 a3 a4 a5)
theorem g_putf {own : String} {index ci j q : Nat} {ty : FieldType} {fs : List Value} {v : Value} (pc' : Nat) (C : gC E F t) (hd : decode (gCode t) pc = .ok (.putfield index, 3)) (fl : gFp own index ci j ty false) (ho : t.1.cls = own) (hb : gB E ≤ q ∧ q < gB E + n) (hq : h q = gO ci fs) (hn : narrow ty v = v) (hf : fits ty v = true) (hj : j < fs.length) (hp : pc + 3 = pc') (k : G E F t Q n σ (va_up h q (gO ci (fs.set j v))) kc ks pc' L st) : G E F t Q n σ h kc ks pc L (v :: .ref q :: st) := by
  subst hp
  subst ho
  intro H locs ls a1 a3 a4 a5
  obtain ⟨T1, T2, T3, f1, f2, f3, f4, ⟨ty0, f5⟩, f6, f7, -, f8⟩ := fl
  have hK := C.2.2.2.2.2.1.1
  have he : (gws (gB E) n h)[q - gB E]? = some (q, .inr (ci, fs)) := by rw [gws_get hb.1 hb.2, hq]; rfl
  have hap := va_apart (own := t.1.cls) C.2.2.2.2.1 f3 ty0 f5 f6 hK f1
  obtain ⟨r, h1, cell, q1, q2, q3, q4⟩ := a3 (q - gB E) _ he
  have hr : r = (T1, T2, T3) := Option.some.inj (h1.symm.trans f1)
  subst hr
  obtain ⟨hS, hfc, kC, hkC, hkind⟩ := hK.1 ci _ f1
  obtain ⟨cf, kf, fi, f, hi, hsl⟩ := hS j f2
  have hlay := C.2.2.2.2.1 _ (f3 _ (u_in_lay f2))
  unfold u_lay at hlay
  rw [if_neg (by rw [f7]; decide)] at hlay
  have hst := (u_facts hfc hkC (u_lays C.2.2.2.2.1 f3 f2) hi).1
  have h6 := u_store hfc hkC hkind hlay hi f8 hn hf
  refine W.putK C.1 C.2.1 (f := f) ⟨C.2.2.2.1, C.2.2.2.2.1 _ f4, ⟨_, _, _, hi⟩, hst⟩ (by rw [q2]; exact h6) q1 q3 (by rw [hsl]; exact k2_hasslot (q4 j f2)) rfl rfl hd fun H' e1 e2 e3 => ?_
  rw [hsl] at e1 ⊢
  have hP' := va_P.set a3 gws_D he (e := .inr (ci, fs.set j v)) ⟨_, f1, t_OB.to (V := updV (vp_V fs) j v) ⟨_, e1, q2, q3, t_set q4 hap f2 v⟩ (fun z _ => vp_updV_set hj v z)⟩ e3
  rw [gws_set hb.1 hb.2] at hP'
  exact k H' _ ls (gS_eq a1 e2) hP' (a4.put e2 e3 hb.1) a5

theorem g_putF {own : String} {index ci j q : Nat} {ty : FieldType} {fs : List Value} {v : Value} (pc' : Nat) (C : gC E F t) (hd : decode (gCode t) pc = .ok (.putfield index, 3)) (fl : gFp own index ci j ty true) (ho : t.1.cls = own) (hnm : t.1.name = "<init>") (hb : gB E ≤ q ∧ q < gB E + n) (hq : h q = gO ci fs) (hn : narrow ty v = v) (hf : fits ty v = true) (hj : j < fs.length) (hp : pc + 3 = pc') (k : G E F t Q n σ (va_up h q (gO ci (fs.set j v))) kc ks pc' L st) : G E F t Q n σ h kc ks pc L (v :: .ref q :: st) := by
  subst hp
  subst ho
  intro H locs ls a1 a3 a4 a5
  obtain ⟨T1, T2, T3, f1, f2, f3, f4, ⟨ty0, f5⟩, f6, f7, f9, f8⟩ := fl
  have hK := C.2.2.2.2.2.1.1
  have he : (gws (gB E) n h)[q - gB E]? = some (q, .inr (ci, fs)) := by rw [gws_get hb.1 hb.2, hq]; rfl
  have hap := va_apart (own := t.1.cls) C.2.2.2.2.1 f3 ty0 f5 f6 hK f1
  obtain ⟨r, h1, cell, q1, q2, q3, q4⟩ := a3 (q - gB E) _ he
  have hr : r = (T1, T2, T3) := Option.some.inj (h1.symm.trans f1)
  subst hr
  obtain ⟨hS, hfc, kC, hkC, hkind⟩ := hK.1 ci _ f1
  obtain ⟨cf, kf, fi, f, hi, hsl⟩ := hS j f2
  have hlay := C.2.2.2.2.1 _ (f3 _ (u_in_lay f2))
  unfold u_lay at hlay
  rw [if_pos f7] at hlay
  have hst := (u_facts hfc hkC (u_lays C.2.2.2.2.1 f3 f2) hi).1
  have hcf : F.2.2.2.1.cls = cf := by
    obtain ⟨_, _, c', _, _, _, -, -, hf', -, -, -, hown2, -⟩ := Cond.laysFinal_spec hlay
    have e1 : c' = cf := by have := hi.symm.trans hf'; simp at this; exact this.1.symm
    rw [f9 rfl] at hown2
    rw [← e1]; exact Option.some.inj (C.2.2.2.1.symm.trans hown2)
  have h6 := u_fits hfc hkC hkind (Or.inr hlay) hi f8 hn hf
  refine W.putFinK C.1 C.2.1 C.2.2.2.1 (C.2.2.2.2.1 _ f4) hi hst hcf (C.2.2.2.2.2.2.2.2.2.2.trans hnm) (by rw [q2]; exact h6) q1 q3 (by rw [hsl]; exact k2_hasslot (q4 j f2)) rfl rfl hd fun H' e1 e2 e3 => ?_
  rw [hsl] at e1 ⊢
  have hP' := va_P.set a3 gws_D he (e := .inr (ci, fs.set j v)) ⟨_, f1, t_OB.to (V := updV (vp_V fs) j v) ⟨_, e1, q2, q3, t_set q4 hap f2 v⟩ (fun z _ => vp_updV_set hj v z)⟩ e3
  rw [gws_set hb.1 hb.2] at hP'
  exact k H' _ ls (gS_eq a1 e2) hP' (a4.put e2 e3 hb.1) a5
theorem g_iald {q m : Nat} {i : Int} {f : Int → Int} (pc' : Nat) (C : gC E F t) (hd : decode (gCode t) pc = .ok (.iaload, 1)) (hb : gB E ≤ q ∧ q < gB E + n) (hq : h q = gI E m f) (hi : 0 ≤ i ∧ i < (m : Int)) (hm : m < 2147483648) (hp : pc + 1 = pc') (k : G E F t Q n σ h kc ks pc' L (.int (gi (f i)) :: st)) : G E F t Q n σ h kc ks pc L (.int (gi i) :: .ref q :: st) := by
  subst hp
  intro H locs ls a1 a3 a4 a5
  refine va_iald (f := gIf m f) (n := m) C.1 C.2.1 C.2.2.2.2.2.1.1 a3 (q - gB E) 0 (by rw [gws_get hb.1 hb.2, hq]; rfl) rfl (gi_in hi hm) hd ?_
  rw [gi_clamp hi.1 (by omega), gIf_at hi.1 hi.2]
  exact k H locs ls a1 a3 a4 a5
theorem g_lald {q m : Nat} {i : Int} {f : Int → Int64} (pc' : Nat) (C : gC E F t) (hd : decode (gCode t) pc = .ok (.laload, 1)) (hb : gB E ≤ q ∧ q < gB E + n) (hq : h q = gJ E m f) (hi : 0 ≤ i ∧ i < (m : Int)) (hm : m < 2147483648) (hp : pc + 1 = pc') (k : G E F t Q n σ h kc ks pc' L (.long (f i) :: st)) : G E F t Q n σ h kc ks pc L (.int (gi i) :: .ref q :: st) := by
  subst hp
  intro H locs ls a1 a3 a4 a5
  refine va_lald (f := fun j => f (j : Int)) (n := m) C.1 C.2.1 C.2.2.2.2.2.1.1 a3 (q - gB E) 5 (by rw [gws_get hb.1 hb.2, hq]; rfl) rfl (gi_in hi hm) hd ?_
  rw [gi_clamp hi.1 (by omega), Int.toNat_of_nonneg hi.1]
  exact k H locs ls a1 a3 a4 a5
/-- a reference out of a row: c is the row's place among the arrays' classes -/
theorem g_aald {q m c a : Nat} {i : Int} {f : Int → Option Nat} {ty : FieldType} (pc' : Nat) (C : gC E F t) (hd : decode (gCode t) pc = .ok (.aaload, 1)) (hb : gB E ≤ q ∧ q < gB E + n) (hq : h q = gR E c m f) (hty : (gTys E)[c]? = some (E.2.2.1 c, ty)) (hr : ty.isReference = true) (hi : 0 ≤ i ∧ i < (m : Int)) (hm : m < 2147483648) (ha : f i = some a) (hp : pc + 1 = pc') (k : G E F t Q n σ h kc ks pc' L (.ref a :: st)) : G E F t Q n σ h kc ks pc L (.int (gi i) :: .ref q :: st) := by
  subst hp
  intro H locs ls a1 a3 a4 a5
  have hin := gi_in hi hm
  have hcl := gi_clamp hi.1 (show i < 2147483648 by omega)
  have hlt : (gi i).toNatClampNeg < m := by rw [hcl]; omega
  have hcell : H[q]? = some (vp_cell (E.2.2.1 c) (m, .inr (.inr (.inr (.inr (fun j => f (j : Int))))))) := a3 (q - gB E) (q, .inl (E.2.2.1 c, m, .inr (.inr (.inr (.inr (fun j => f (j : Int))))))) (by rw [gws_get hb.1 hb.2, hq]; rfl)
  refine W.aald (v := .ref a) (ty := ty) C.1 C.2.1 hcell ((C.2.2.2.2.2.1.1.2 c _ hty).1 m (fun j => va_rf (f (j : Int)))) hr (fun q => by cases q) (by show ¬ (gi i < 0 ∨ (arrV _ _ _).slots.size ≤ _); rw [arrV_size]; exact hin) (by show (arrV _ _ _).slots[_]? = _; rw [arrV_read _ _ hlt, hcl]; show some (va_rf (f ((i.toNat : Nat) : Int))) = _; rw [Int.toNat_of_nonneg hi.1, ha]; rfl) rfl rfl hd (k H locs ls a1 a3 a4 a5)
theorem g_alen {q m : Nat} {x : vp_A} {c : Nat} {ty : FieldType} (pc' : Nat) (C : gC E F t) (hd : decode (gCode t) pc = .ok (.arraylength, 1)) (hb : gB E ≤ q ∧ q < gB E + n) (hq : h q = .inl (E.2.2.1 c, x)) (hty : (gTys E)[c]? = some (E.2.2.1 c, ty)) (hx : x.1 = m) (hp : pc + 1 = pc') (k : G E F t Q n σ h kc ks pc' L (.int (gi (m : Int)) :: st)) : G E F t Q n σ h kc ks pc L (.ref q :: st) := by
  subst hp
  subst hx
  intro H locs ls a1 a3 a4 a5
  exact va_alen C.1 C.2.1 C.2.2.2.2.2.1.1 a3 (q - gB E) c (by rw [gws_get hb.1 hb.2, hq]) hty (v := gi (x.1 : Int)) (Int32.ofInt_eq_ofNat (n := x.1)).symm hd (k H locs ls a1 a3 a4 a5)
theorem gup_nat {m : Nat} {f : Int → Int} {i x : Int} (hi : 0 ≤ i) (hm : i < (m : Int)) : upd (gIf m f) i.toNat (gi x) = gIf m (gup f i x) := by
  funext j
  unfold upd gIf gup
  by_cases hj : j = i.toNat
  · rw [if_pos hj, if_pos (by omega), if_pos (by omega)]
  · rw [if_neg hj, if_neg (show ¬ (j : Int) = i by omega)]
theorem g_iast {q m : Nat} {i x : Int} {f : Int → Int} (pc' : Nat) (C : gC E F t) (hd : decode (gCode t) pc = .ok (.iastore, 1)) (hb : gB E ≤ q ∧ q < gB E + n) (hq : h q = gI E m f) (hi : 0 ≤ i ∧ i < (m : Int)) (hm : m < 2147483648) (hp : pc + 1 = pc') (k : G E F t Q n σ (va_up h q (gI E m (gup f i x))) kc ks pc' L st) : G E F t Q n σ h kc ks pc L (.int (gi x) :: .int (gi i) :: .ref q :: st) := by
  subst hp
  intro H locs ls a1 a3 a4 a5
  have he : (gws (gB E) n h)[q - gB E]? = some (q, .inl (E.2.2.1 0, m, .inl (gIf m f))) := by rw [gws_get hb.1 hb.2, hq]; rfl
  refine W.iast C.1 C.2.1 (a3 (q - gB E) _ he) ((C.2.2.2.2.2.1.1.2 0 _ rfl).1 m (fun j => .int (gIf m f j))) (fun q => by cases q) (by show ¬ (gi i < 0 ∨ (arrV _ _ _).slots.size ≤ _); rw [arrV_size]; exact gi_in hi hm) rfl rfl hd fun H1 e z oq => ?_
  have hP' := va_P.set a3 gws_D he (e := gI E m (gup f i x)) (by
    show H1[q]? = some (vp_cell _ _)
    rw [e]
    show some ((vp_cell _ (m, .inl (gIf m f))).setSlot _ _) = some (vp_cell _ (m, .inl (gIf m (gup f i x))))
    rw [← gup_nat hi.1 hi.2, vp_cell_i, vp_cell_i, arrV_store, gi_clamp hi.1 (by omega)]
    congr 2
    funext z9
    by_cases hz : z9 = i.toNat
    · subst hz
      simp [updV, upd]
    · simp [updV, upd, hz]) oq
  rw [gws_set hb.1 hb.2] at hP'
  exact k H1 _ ls (gS_eq a1 z) hP' (a4.put z oq hb.1) a5
theorem g_last {q m : Nat} {i : Int} {x : Int64} {f : Int → Int64} (pc' : Nat) (C : gC E F t) (hd : decode (gCode t) pc = .ok (.lastore, 1)) (hb : gB E ≤ q ∧ q < gB E + n) (hq : h q = gJ E m f) (hi : 0 ≤ i ∧ i < (m : Int)) (hm : m < 2147483648) (hp : pc + 1 = pc') (k : G E F t Q n σ (va_up h q (gJ E m (gup f i x))) kc ks pc' L st) : G E F t Q n σ h kc ks pc L (.long x :: .int (gi i) :: .ref q :: st) := by
  subst hp
  intro H locs ls a1 a3 a4 a5
  have he : (gws (gB E) n h)[q - gB E]? = some (q, .inl (E.2.2.1 5, m, .inr (.inl (fun j => f (j : Int))))) := by rw [gws_get hb.1 hb.2, hq]; rfl
  refine W.last C.1 C.2.1 (a3 (q - gB E) _ he) ((C.2.2.2.2.2.1.1.2 5 _ rfl).1 m (fun j => .long (f (j : Int)))) (fun q => by cases q) (by show ¬ (gi i < 0 ∨ (arrV _ _ _).slots.size ≤ _); rw [arrV_size]; exact gi_in hi hm) rfl rfl hd fun H1 e z oq => ?_
  have hP' := va_P.set a3 gws_D he (e := gJ E m (gup f i x)) (by
    show H1[q]? = some (arrV _ m (fun j : Nat => Value.long (gup f i x (j : Int))))
    rw [e]
    show some ((arrV _ m (fun j : Nat => Value.long (f (j : Int)))).setSlot _ _) = _
    rw [arrV_store, gi_clamp hi.1 (by omega)]
    congr 2
    funext z9
    unfold updV gup
    by_cases hz : z9 = i.toNat
    · rw [if_pos hz, if_pos (by omega)]
    · rw [if_neg hz, if_neg (by omega)]) oq
  rw [gws_set hb.1 hb.2] at hP'
  exact k H1 _ ls (gS_eq a1 z) hP' (a4.put z oq hb.1) a5

theorem g_aast {q m c a ci : Nat} {i : Int} {f : Int → Option Nat} {r : vw_C} {vs : List Value} (pc' : Nat) (C : gC E F t) (hd : decode (gCode t) pc = .ok (.aastore, 1)) (hb : gB E ≤ q ∧ q < gB E + n) (hq : h q = gR E c m f) (hty : (gTys E)[c]? = some (E.2.2.1 c, .object r.1)) (hba : gB E ≤ a ∧ a < gB E + n) (ha : h a = gO ci vs) (hc : vwCl[ci]? = some r) (hi : 0 ≤ i ∧ i < (m : Int)) (hm : m < 2147483648) (hp : pc + 1 = pc') (k : G E F t Q n σ (va_up h q (gR E c m (gup f i (some a)))) kc ks pc' L st) : G E F t Q n σ h kc ks pc L (.ref a :: .int (gi i) :: .ref q :: st) := by
  subst hp
  intro H locs ls a1 a3 a4 a5
  have hcl := gi_clamp hi.1 (show i < 2147483648 by omega)
  have he : (gws (gB E) n h)[q - gB E]? = some (q, .inl (E.2.2.1 c, m, .inr (.inr (.inr (.inr (fun j => f (j : Int))))))) := by rw [gws_get hb.1 hb.2, hq]; rfl
  obtain ⟨r', hr', cellV, g1, g2, g3, -⟩ := a3 (a - gB E) (a, .inr (ci, vs)) (by rw [gws_get hba.1 hba.2, ha]; rfl)
  have hcls := (C.2.2.2.2.2.1.1.1 ci r hc).2
  obtain ⟨kA, comp, k1, k2, k3, -⟩ := (C.2.2.2.2.2.1.1.2 c _ hty).2
  have hcomp : comp = E.2.1.1 ci := Option.some.inj (k3.symm.trans hcls.1)
  subst hcomp
  obtain ⟨kC, hkC, -⟩ := hcls.2
  have hin := gi_in hi hm
  have h0 : ¬ gi i < 0 := fun q => hin (Or.inl q)
  have hlt : (gi i).toNatClampNeg < m := Nat.not_le.mp fun q => hin (Or.inr q)
  refine W.aast C.1 C.2.1 (a3 (q - gB E) _ he) (fun q h => by cases h) (fun h => by cases h) k1 k2 rfl hkC ⟨h0, by show _ < (arrV _ _ _).slots.size; rw [arrV_size]; exact hlt⟩ g1 (fun q h => by rw [g3] at h; cases h) (by rw [g2]; exact hkC) (by rw [g2]; exact va_assign hcls) rfl rfl hd fun H1 e z oq => ?_
  have hP' := va_P.set a3 gws_D he (e := gR E c m (gup f i (some a))) (by
    show H1[q]? = some (arrV _ m (fun j : Nat => va_rf (gup f i (some a) (j : Int))))
    rw [e]
    show some ((arrV _ m (fun j : Nat => va_rf (f (j : Int)))).setSlot _ _) = _
    rw [arrV_store, hcl]
    congr 2
    funext z9
    unfold updV gup
    by_cases hz : z9 = i.toNat
    · rw [if_pos hz, if_pos (by omega)]
      rfl
    · rw [if_neg hz, if_neg (by omega)]) oq
  rw [gws_set hb.1 hb.2] at hP'
  exact k H1 _ ls (gS_eq a1 z) hP' (a4.put z oq hb.1) a5
theorem gP_push {H H1 : Heap} {e : va_E} (h1 : gP E n h H) (hz : H.size = gB E + n) (hk : ∀ x : Nat, x < H.size → H1[x]? = H[x]?) (he : va_at E.2.1 vwCl (gB E + n, e) H1) : gP E (n + 1) (va_up h (gB E + n) e) H1 := by
  intro k q hq
  obtain ⟨hk1, rfl⟩ := gws_of hq
  by_cases hkn : k = n
  · subst hkn
    simp only [va_up, if_true]
    exact he
  · have h2 := h1 (gB E + k - gB E) (gB E + k, h (gB E + k)) (gws_get (by omega) (by omega))
    rw [show va_up h (gB E + n) e (gB E + k) = h (gB E + k) by unfold va_up; rw [if_neg (by omega)]]
    exact h2.kept (hk _ (by omega))
theorem gS_push {H1 : Heap} (hz : H1.size = gB E + n + 1) : gS (some (gB E + (n + 1))) H1 := fun z hz' => by cases hz'; omega
theorem gK_arr {U : State} {c : Nat} {cA : ClassId} {ty : FieldType} (hK : va_K E.2.1 vwCl (gTys E) U) (hty : (gTys E)[c]? = some (E.2.2.1 c, ty)) (hf : U.vm.findClass ("[" ++ ty.toString) = some cA) : cA = E.2.2.1 c := by
  have h2 := (hK.2 c _ hty).2
  cases ty with
  | object C =>
    obtain ⟨kA, comp, h1, h3, h4, h5⟩ := h2
    exact Option.some.inj (hf.symm.trans h5)
  | _ => exact Option.some.inj (hf.symm.trans h2)
theorem g_new {own : String} {index ci N : Nat} {fs : List Value} (pc' : Nat) (C : gC E F t) (hd : decode (gCode t) pc = .ok (.new index, 3)) (hw : gNw own index ci N fs) (ho : t.1.cls = own) (hk1 : kc + 1 ≤ gMc t) (hk2 : ks + N ≤ gMs t) (hp : pc + 3 = pc') (k : G E F t Q (n + 1) (some (gB E + (n + 1))) (va_up h (gB E + n) (gO ci fs)) (kc + 1) (ks + N) pc' L (.ref (gB E + n) :: st)) : G E F t Q n (some (gB E + n)) h kc ks pc L st := by
  subst hp
  subst ho
  intro H locs ls a1 a3 a4 a5
  obtain ⟨C1, T1, ty, w1, w2, w3, w4, w5, w6, w7⟩ := hw
  have hz := a1 _ rfl
  have hKn := C.2.2.2.2.2.1.1.1 ci _ w1
  refine W.newcK C.1 C.2.1 C.2.2.2.1 (C.2.2.2.2.1 _ w4) (C.2.2.2.2.1 _ w5) (C.2.2.2.2.1 _ w6) rfl hd hk1 hk2 hKn.2.1 rfl fun H1 kC hkC e1 z1 o1 => ?_
  rw [hz] at e1 z1 ⊢
  exact k H1 _ ls (gS_push z1) (gP_push a3 hz o1 ⟨_, w1, (u_born ty C.2.2.2.2.1 w2 hKn hkC e1 w3).to w7⟩) ⟨Nat.le_trans a4.1 (by omega), fun x h1 h2 => (o1 x (Nat.lt_of_lt_of_le h1 a4.1)).trans (a4.2.1 x h1 h2), a4.2.2⟩ a5
theorem g_newai {m : Nat} {d : Int} (pc' : Nat) (C : gC E F t) (hd : decode (gCode t) pc = .ok (.newarray .int, 2)) (hm : d = (m : Int) ∧ m < 10000) (hk1 : kc + 1 ≤ gMc t) (hk2 : ks + m ≤ gMs t) (hp : pc + 2 = pc') (k : G E F t Q (n + 1) (some (gB E + (n + 1))) (va_up h (gB E + n) (gI E m (fun _ => 0))) (kc + 1) (ks + m) pc' L (.ref (gB E + n) :: st)) : G E F t Q n (some (gB E + n)) h kc ks pc L (.int (gi d) :: st) := by
  subst hp
  obtain ⟨rfl, hm⟩ := hm
  intro H locs ls a1 a3 a4 a5
  have hz := a1 _ rfl
  have e0 : gI E m (fun _ => 0) = .inl (E.2.2.1 0, m, .inl (fun _ => 0)) := by unfold gI; rw [gIf_0]
  rw [e0] at k
  refine va_newaK C.1 C.2.1 (atype := .int) (C.2.2.2.2.1 _ gw_ai) rfl hd rfl (by rw [gi_0, gi_lt (by omega) (by omega)]; omega) (N := m) (by rw [gi_clamp (by omega) (by omega)]; omega) (by show m * 4 ≤ _; omega) hk1 hk2 hz fun H1 cA e1 z1 o1 f1 f2 => ?_
  have hcA := gK_arr (c := 0) C.2.2.2.2.2.1.1 rfl f2
  subst hcA
  exact k H1 _ ls (gS_push z1) (gP_push a3 hz (by rw [hz]; exact o1) e1) ⟨Nat.le_trans a4.1 (by omega), fun x h1 h2 => (o1 x (by have := a4.1; omega)).trans (a4.2.1 x h1 h2), a4.2.2⟩ a5
theorem g_newal {m : Nat} {d : Int} (pc' : Nat) (C : gC E F t) (hd : decode (gCode t) pc = .ok (.newarray .long, 2)) (hm : d = (m : Int) ∧ m < 10000) (hk1 : kc + 1 ≤ gMc t) (hk2 : ks + m ≤ gMs t) (hp : pc + 2 = pc') (k : G E F t Q (n + 1) (some (gB E + (n + 1))) (va_up h (gB E + n) (gJ E m (fun _ => 0))) (kc + 1) (ks + m) pc' L (.ref (gB E + n) :: st)) : G E F t Q n (some (gB E + n)) h kc ks pc L (.int (gi d) :: st) := by
  subst hp
  obtain ⟨rfl, hm⟩ := hm
  intro H locs ls a1 a3 a4 a5
  have hz := a1 _ rfl
  refine va_newaK C.1 C.2.1 (atype := .long) (C.2.2.2.2.1 _ gw_al) rfl hd rfl (by rw [gi_0, gi_lt (by omega) (by omega)]; omega) (N := m) (by rw [gi_clamp (by omega) (by omega)]; omega) (by show m * 8 ≤ _; omega) hk1 hk2 hz fun H1 cA e1 z1 o1 f1 f2 => ?_
  have hcA := gK_arr (c := 5) C.2.2.2.2.2.1.1 rfl f2
  subst hcA
  exact k H1 _ ls (gS_push z1) (gP_push a3 hz (by rw [hz]; exact o1) e1) ⟨Nat.le_trans a4.1 (by omega), fun x h1 h2 => (o1 x (by have := a4.1; omega)).trans (a4.2.1 x h1 h2), a4.2.2⟩ a5
theorem g_anewa {own cn : String} {m c index : Nat} {d : Int} (pc' : Nat) (C : gC E F t) (hd : decode (gCode t) pc = .ok (.anewarray index, 3)) (ho : t.1.cls = own) (hw1 : Cond.classLink own index cn ∈ wsG) (hw2 : va_AO cn F.2.2.1) (hty : (gTys E)[c]? = some (E.2.2.1 c, .object cn)) (hm : d = (m : Int) ∧ m < 10000) (hk1 : kc + 1 ≤ gMc t) (hk2 : ks + m ≤ gMs t) (hp : pc + 3 = pc') (k : G E F t Q (n + 1) (some (gB E + (n + 1))) (va_up h (gB E + n) (gR E c m (fun _ => none))) (kc + 1) (ks + m) pc' L (.ref (gB E + n) :: st)) : G E F t Q n (some (gB E + n)) h kc ks pc L (.int (gi d) :: st) := by
  subst hp
  subst ho
  obtain ⟨rfl, hm⟩ := hm
  intro H locs ls a1 a3 a4 a5
  have hz := a1 _ rfl
  have hcl : (gi (m : Int)).toNatClampNeg = m := by rw [gi_clamp (by omega) (by omega)]; omega
  refine W.anew C.1 C.2.1 C.2.2.2.1 (C.2.2.2.2.1 _ hw1) (va_AO.use hw2) rfl hd rfl (by rw [gi_0, gi_lt (by omega) (by omega)]; omega) (by rw [hcl]; omega) hk1 (by rw [hcl]; exact hk2) fun cA kA comp f1 f2 f3 f4 => ?_
  have hcA := gK_arr C.2.2.2.2.2.1.1 hty f1
  subst hcA
  rw [hcl]
  generalize hH1 : H.push ({ cls := E.2.2.1 c, slots := Array.replicate m .null, vm := .none } : Cell) = H1
  have z1 : H1.size = H.size + 1 := by rw [← hH1, Array.size_push]
  have e1 : H1[H.size]? = some (arrV (E.2.2.1 c) m (fun _ => .null)) := by rw [← hH1, Array.getElem?_push_size, ← arrV_new]
  have o1 : ∀ q : Nat, q < H.size → H1[q]? = H[q]? := fun q hq => by rw [← hH1, Array.getElem?_push, if_neg (Nat.ne_of_lt hq)]
  rw [hz] at z1 e1 ⊢
  exact k H1 _ ls (gS_push z1) (gP_push a3 hz o1 e1) ⟨Nat.le_trans a4.1 (by omega), fun x h1 h2 => (o1 x (Nat.lt_of_lt_of_le h1 a4.1)).trans (a4.2.1 x h1 h2), a4.2.2⟩ a5
theorem g_objInit {own : String} {index q : Nat} (pc' : Nat) (C : gC E F t) (hd : decode (gCode t) pc = .ok (.invokespecial index, 3)) (ho : t.1.cls = own) (hw : Cond.methodLink own index objectInit ∈ wsG) (hfr : 1 ≤ gFrs t) (hlo : (st.map fun v => v.category).sum + 12 ≤ gLo t) (hp : pc + 3 = pc') (k : G E F t Q n σ h kc ks pc' L st) : G E F t Q n σ h kc ks pc L (.ref q :: st) := by
  subst hp
  subst ho
  intro H locs ls a1 a3 a4 a5
  exact W.objInit C.1 C.2.1 C.2.2.2.1 (C.2.2.2.2.1 _ hw) (C.2.2.2.2.1 _ gw_oi) (C.2.2.2.2.1 _ gw_oc) rfl (a5.1.trans C.2.2.1.symm) rfl hd hfr (by show 2 * 0 + (st.map fun v => v.category).sum + 12 ≤ gLo t; omega) (k H locs ls a1 a3 a4 a5)
theorem g_max {own : String} {index : Nat} {x y : Int} (pc' : Nat) (C : gC E F t) (hd : decode (gCode t) pc = .ok (.invokestatic index, 3)) (ho : t.1.cls = own) (hw : Cond.methodLink own index Lib.Math.max.name ∈ wsG) (hfr : 1 ≤ gFrs t) (hlo : (st.map fun v => v.category).sum + 13 ≤ gLo t) (hk1 : kc ≤ gMc t) (hk2 : ks ≤ gMs t) (hx : -2147483648 ≤ x ∧ x < 2147483648) (hy : -2147483648 ≤ y ∧ y < 2147483648) (hp : pc + 3 = pc') (k : G E F t Q n σ h kc ks pc' L (.int (gi (if x < y then y else x)) :: st)) : G E F t Q n σ h kc ks pc L (.int (gi y) :: .int (gi x) :: st) := by
  subst hp
  subst ho
  intro H locs ls a1 a3 a4 a5
  refine va_mmax C.1 C.2.1 (C.2.2.1.trans a5.1.symm) C.2.2.2.1 (C.2.2.2.2.1 _ hw) (C.2.2.2.2.1 _ gw_mx1) (C.2.2.2.2.1 _ gw_mx2) (C.2.2.2.2.1 _ gw_mx3) hfr hlo hk1 hk2 hd ?_
  have e : (if gi x < gi y then gi y else gi x) = gi (if x < y then y else x) := by
    by_cases hc : x < y
    · rw [if_pos hc, if_pos ((gi_lt hx hy).mpr hc)]
    · rw [if_neg hc, if_neg (fun z => hc ((gi_lt hx hy).mp z))]
  rw [e]
  exact k H locs ls a1 a3 a4 a5
theorem g_min {own : String} {index : Nat} {x y : Int} (pc' : Nat) (C : gC E F t) (hd : decode (gCode t) pc = .ok (.invokestatic index, 3)) (ho : t.1.cls = own) (hw : Cond.methodLink own index Lib.Math.min.name ∈ wsG) (hfr : 1 ≤ gFrs t) (hlo : (st.map fun v => v.category).sum + 13 ≤ gLo t) (hk1 : kc ≤ gMc t) (hk2 : ks ≤ gMs t) (hx : -2147483648 ≤ x ∧ x < 2147483648) (hy : -2147483648 ≤ y ∧ y < 2147483648) (hp : pc + 3 = pc') (k : G E F t Q n σ h kc ks pc' L (.int (gi (if y < x then y else x)) :: st)) : G E F t Q n σ h kc ks pc L (.int (gi y) :: .int (gi x) :: st) := by
  subst hp
  subst ho
  intro H locs ls a1 a3 a4 a5
  refine va_mmin C.1 C.2.1 (C.2.2.1.trans a5.1.symm) C.2.2.2.1 (C.2.2.2.2.1 _ hw) (C.2.2.2.2.1 _ gw_mn1) (C.2.2.2.2.1 _ gw_mx2) (C.2.2.2.2.1 _ gw_mn3) hfr hlo hk1 hk2 hd ?_
  have e : (if gi y < gi x then gi y else gi x) = gi (if y < x then y else x) := by
    by_cases hc : y < x
    · rw [if_pos hc, if_pos ((gi_lt hy hx).mpr hc)]
    · rw [if_neg hc, if_neg (fun z => hc ((gi_lt hy hx).mp z))]
  rw [e]
  exact k H locs ls a1 a3 a4 a5
/-- System.arraycopy of int rows -/
def gcpy (f g : Int → Int) (sp dp m : Int) : Int → Int := fun j => if dp ≤ j ∧ j < dp + m then f (sp + (j - dp)) else g j
theorem gcpy_in {f g : Int → Int} {sp dp m j : Int} (hj : dp ≤ j ∧ j < dp + m) : gcpy f g sp dp m j = f (sp + (j - dp)) := if_pos hj
theorem gcpy_out {f g : Int → Int} {sp dp m j : Int} (hj : ¬ (dp ≤ j ∧ j < dp + m)) : gcpy f g sp dp m j = g j := if_neg hj
theorem g_copy {own : String} {index q0 q1 m0 m1 : Nat} {f g : Int → Int} {sp dp m : Int} (pc' : Nat) (C : gC E F t) (hd : decode (gCode t) pc = .ok (.invokestatic index, 3)) (ho : t.1.cls = own) (hw : Cond.methodLink own index arraycopyName ∈ wsG) (hb0 : gB E ≤ q0 ∧ q0 < gB E + n) (hq0 : h q0 = gI E m0 f) (hb1 : gB E ≤ q1 ∧ q1 < gB E + n) (hq1 : h q1 = gI E m1 g) (h1 : 0 ≤ sp) (h2 : 0 ≤ dp) (h3 : 0 ≤ m) (h4 : sp + m ≤ (m0 : Int)) (h5 : dp + m ≤ (m1 : Int)) (hm : m0 < 2147483648 ∧ m1 < 2147483648) (hfr : 1 ≤ gFrs t) (hlo : (st.map fun v => v.category).sum + (nativeFrameWords "java/lang/System" "arraycopy" 5 + 11) ≤ gLo t) (hp : pc + 3 = pc') (k : G E F t Q n none (va_up h q1 (gI E m1 (gcpy f g sp dp m))) kc ks pc' L st) : G E F t Q n none h kc ks pc L (.int (gi m) :: .int (gi dp) :: .ref q1 :: .int (gi sp) :: .ref q0 :: st) := by
  subst hp
  subst ho
  intro H locs ls a1 a3 a4 a5
  have c1 := gi_clamp h1 (show sp < 2147483648 by omega)
  have c2 := gi_clamp h2 (show dp < 2147483648 by omega)
  have c3 := gi_clamp h3 (show m < 2147483648 by omega)
  refine va_copyi C.1 C.2.1 (C.2.2.1.trans a5.1.symm) C.2.2.2.1 (C.2.2.2.2.1 _ hw) (C.2.2.2.2.1 _ gw_cp1) (C.2.2.2.2.1 _ gw_cp2) (C.2.2.2.2.1 _ gw_cp3) C.2.2.2.2.2.1.1 a3 gws_D a4 (q0 - gB E) (q1 - gB E) 0 0 (f := gIf m0 f) (g := gIf m1 g) (n0 := m0) (n1 := m1) (ty := .int) (by rw [gws_get hb0.1 hb0.2, hq0]; rfl) (by rw [gws_get hb1.1 hb1.2, hq1]; rfl) rfl rfl rfl (by rw [gi_0, gi_lt (by omega) (by omega)]; omega) (by rw [gi_0, gi_lt (by omega) (by omega)]; omega) (by rw [gi_0, gi_lt (by omega) (by omega)]; omega) (by rw [c1, c3]; omega) (by rw [c2, c3]; omega) (fun _ _ => rfl) hfr hlo hd (fun H1 locs1 b1 b2 b3 => ?_)
  rw [gws_set hb1.1 hb1.2, c1, c2, c3] at b1
  have e : va_cpy (gIf m0 f) (gIf m1 g) sp.toNat dp.toNat m.toNat = gIf m1 (gcpy f g sp dp m) := by
    funext j
    unfold va_cpy gIf
    by_cases hj : dp ≤ (j : Int) ∧ (j : Int) < dp + m
    · rw [if_pos (show dp.toNat ≤ j ∧ j < dp.toNat + m.toNat by omega), if_pos (show sp.toNat + (j - dp.toNat) < m0 by omega), if_pos (show j < m1 by omega), gcpy_in hj]
      congr 2
      omega
    · rw [if_neg (show ¬ (dp.toNat ≤ j ∧ j < dp.toNat + m.toNat) by omega)]
      by_cases h9 : j < m1
      · rw [if_pos h9, if_pos h9, gcpy_out hj]
      · rw [if_neg h9, if_neg h9]
  rw [e] at b1
  exact k H1 locs1 ls (fun z hz => by cases hz) b1 b3 a5
theorem g_mnewa {own : String} {m c index : Nat} {d d2 : Int} {m2 : Nat} (pc' : Nat) (C : gC E F t) (hd : decode (gCode t) pc = .ok (.multianewarray index 2, 4)) (ho : t.1.cls = own) (hw1 : Cond.classLink own index "[[I" ∈ wsG) (hm : d = (m : Int) ∧ m < 10000) (hm2 : d2 = (m2 : Int) ∧ m2 < 10000) (hk1 : kc + (1 + m) ≤ gMc t) (hk2 : ks + (m + m * m2) ≤ gMs t) (hp : pc + 4 = pc')
    (k : ∀ h' : gH, h' (gB E + n) = gR E 1 m (fun j => if j < (m : Int) then some (gB E + n + 1 + j.toNat) else none) → (∀ j : Nat, j < m → h' (gB E + n + 1 + j) = gI E m2 (fun _ => 0)) → (∀ q, q < gB E + n → h' q = h q) → G E F t Q (n + 1 + m) (some (gB E + (n + 1 + m))) h' (kc + 1 + m) (ks + m + m * m2) pc' L (.ref (gB E + n) :: st)) : G E F t Q n (some (gB E + n)) h kc ks pc L (.int (gi d2) :: .int (gi d) :: st) := by
  subst hp
  subst ho
  obtain ⟨rfl, hm⟩ := hm
  obtain ⟨rfl, hm2⟩ := hm2
  intro H locs ls a1 a3 a4 a5
  have hz := a1 _ rfl
  have c1 : (gi (m : Int)).toNatClampNeg = m := by rw [gi_clamp (by omega) (by omega)]; omega
  have c2 : (gi (m2 : Int)).toNatClampNeg = m2 := by rw [gi_clamp (by omega) (by omega)]; omega
  intro T hT Xs
  have hb2 : (gi (m2 : Int)).toNatClampNeg * componentBytes .int ≤ 536870912 := by rw [c2]; show m2 * 4 ≤ _; omega
  obtain ⟨vm₁, cA, comp, -, fA, fC, hO, -, X', step⟩ := Xs.multianewarray2F C.1 C.2.2.2.1 (ty := .int) (C.2.2.2.2.1 _ hw1) C.2.2.2.2.2.1.2.2.2.2.2.2.2.2.2.2.2.1 (C.2.2.2.2.1 _ gw_ai) (g := F0 F.2.2.2.1 pc ls (.int (gi (m2 : Int)) :: .int (gi (m : Int)) :: st)) rfl (by rw [C.2.1]; exact hd) rfl (by rw [gi_0, gi_lt (by omega) (by omega)]; omega) (by rw [gi_0, gi_lt (by omega) (by omega)]; omega) (by rw [c1]; omega) hb2 (by rw [c2]; omega) rfl rfl (by rw [c1]; exact hk1) (by rw [c1, c2]; exact hk2)
  have e1 : cA = E.2.2.1 1 := gK_arr (c := 1) C.2.2.2.2.2.1.1 rfl fA
  have e2 : comp = E.2.2.1 0 := gK_arr (c := 0) C.2.2.2.2.2.1.1 rfl fC
  subst e1
  subst e2
  rw [c1, c2] at X' step
  generalize hF : Jvm.Free.Multi.fill (T.setVm vm₁) (E.2.2.1 1) (E.2.2.1 0) m m2 (defaultValue .int) m = F9 at X' step
  have hTh : (T.setVm vm₁).heap = H := hT
  obtain ⟨f1, f2, -, -⟩ := Jvm.Free.Multi.fill_facts (T.setVm vm₁) (E.2.2.1 1) (E.2.2.1 0) m m2 (defaultValue .int) m
  rw [hF, hTh] at f1 f2
  have hold : ∀ x : Nat, x < H.size → F9.heap[x]? = H[x]? := fun x hx => by
    have := Jvm.Free.Multi.fill_old (T.setVm vm₁) (E.2.2.1 1) (E.2.2.1 0) m m2 (defaultValue .int) (a := x) (by rw [hTh]; exact hx) m
    rw [hF, hTh] at this
    exact this
  have hrow : ∀ j : Nat, j < m → F9.heap[H.size + 1 + j]? = some (arrV (E.2.2.1 0) m2 (fun _ => .int 0)) := fun j hj => by
    have := Jvm.Free.Multi.fill_inner (T.setVm vm₁) (E.2.2.1 1) (E.2.2.1 0) m m2 (defaultValue .int) m j hj
    rw [hF, hTh] at this
    rw [this]
    exact congrArg some (arrV_new _ _ _)
  have hout : Jvm.Free.Multi.outerC (E.2.2.1 1) m H.size m = arrV (E.2.2.1 1) m (fun i => va_rf (if i < m then some (H.size + 1 + i) else none)) := vr_outer _ m H.size m
  rw [hout] at f2
  let h' : gH := fun q => if q < gB E + n then h q else if q = gB E + n then gR E 1 m (fun j => if j < (m : Int) then some (gB E + n + 1 + j.toNat) else none) else gI E m2 (fun _ => 0)
  have g1 : h' (gB E + n) = gR E 1 m (fun j => if j < (m : Int) then some (gB E + n + 1 + j.toNat) else none) := by
    show (if gB E + n < gB E + n then _ else _) = _
    rw [if_neg (by omega), if_pos rfl]
  have g2 : ∀ j : Nat, j < m → h' (gB E + n + 1 + j) = gI E m2 (fun _ => 0) := fun j hj => by
    show (if gB E + n + 1 + j < gB E + n then _ else _) = _
    rw [if_neg (by omega), if_neg (by omega)]
  have g3 : ∀ q, q < gB E + n → h' q = h q := fun q hq => if_pos hq
  have hP' : gP E (n + 1 + m) h' F9.heap := by
    intro i q hq
    obtain ⟨hi, rfl⟩ := gws_of hq
    by_cases hin : i < n
    · rw [g3 _ (by omega)]
      have h2 := a3 (gB E + i - gB E) (gB E + i, h (gB E + i)) (gws_get (by omega) (by omega))
      exact h2.kept (hold _ (by rw [hz]; omega))
    · by_cases hin2 : i = n
      · subst hin2
        rw [g1]
        show F9.heap[gB E + i]? = some (arrV (E.2.2.1 1) m (fun j : Nat => va_rf (if (j : Int) < (m : Int) then some (gB E + i + 1 + (j : Int).toNat) else none)))
        rw [← hz, f2, hz]
        congr 2
        funext j
        by_cases hj : j < m
        · rw [if_pos hj, if_pos (by omega)]
          simp
        · rw [if_neg hj, if_neg (by omega)]
      · obtain ⟨j, rfl⟩ : ∃ j, i = n + 1 + j := ⟨i - (n + 1), by omega⟩
        have e9 : gB E + (n + 1 + j) = gB E + n + 1 + j := by omega
        rw [e9, g2 j (by omega)]
        have e0 : gI E m2 (fun _ => 0) = .inl (E.2.2.1 0, m2, .inl (fun _ => 0)) := by unfold gI; rw [gIf_0]
        rw [e0]
        show F9.heap[gB E + n + 1 + j]? = some (arrV (E.2.2.1 0) m2 (fun _ => .int 0))
        rw [← hz]
        exact hrow j (by omega)
  have hsz : F9.heap.size = gB E + (n + 1 + m) := by rw [f1, hz]; omega
  obtain ⟨t2, b1, b2⟩ := k h' g1 g2 g3 F9.heap locs ls (fun z hz' => by cases hz'; exact hsz) hP' ⟨by rw [hsz]; have := a4.1; omega, fun x h1 h2 => (hold x (Nat.lt_of_lt_of_le h1 a4.1)).trans (a4.2.1 x h1 h2), a4.2.2⟩ a5 F9 rfl X'
  refine ⟨t2, step t2 ?_, b2⟩
  have e : T.heap.size = gB E + n := by rw [hT]; exact hz
  rw [e]
  exact b1


/-- a throw that goes on to the caller, where the frame's end allows it -/
def gThr (E : gEnv) (F : gFr) (t : gMt) (n : Nat) (Q : State → Prop) (X : String) (h' : gH) : Prop := ∃ (QR0 : gQt) (QX0 : String → gH → Prop), Q = gQ E F t n QR0 QX0 ∧ QX0 X h'
theorem gW_blind {av : List Value} : FrameBlind (va_Pc av (gW E n σ h)) := fun a U g mk q => by
  obtain ⟨q0, q1, q2, q3, q4⟩ := q
  exact ⟨q0, q1, q2, q3, gX_same q4 rfl rfl⟩
theorem gW_at {av : List Value} {H : Heap} {locs : List Loc} (C : gC E F t) (a1 : gS σ H) (a3 : gP E n h H) (a4 : va_S (gA E) F.2.2.1.heap H locs) : ∀ U : State, U.heap = H → F.2.2.1.WarmedH U.vm → va_Pc av (gW E n σ h) av.toArray U := fun U hU hW => ⟨rfl, by rw [hU]; exact a1, by rw [hU]; exact Nat.le_trans C.2.2.2.2.2.2.2.2.1 a4.1, by rw [hU]; exact a3, gX_go C.2.2.2.2.2.1 hW (locs := locs) (by rw [hU]; exact a4)⟩
theorem g_run {mc ms : Nat} {a : Array Value} {QR : gQt} {QX : String → gH → Prop} {st0 rest : List Value} {H : Heap} {locs : List Loc} {ls : Array Slot} (C : gC E F t) (a4 : va_S (gA E) F.2.2.1.heap H locs) (a5 : lv_has ls (gMax t) L)
    (hr : vx_Run F.1 E.1 F.2.1 (gRm t) F.2.2.1 F.2.2.2.1 F.2.2.2.2.1 F.2.2.2.2.2.1 F.2.2.2.2.2.2.1 F.2.2.2.2.2.2.2 H locs kc ks mc ms (F0 F.2.2.2.1 pc ls st0) rest (gQc E QR a) (gXC E n QX) (gA E)) (hk1 : kc + mc ≤ gMc t) (hk2 : ks + ms ≤ gMs t)
    (hx : ∀ (X : String) (h' : gH), QX X h' → gThr E F t n Q X h')
    (kk : ∀ (v : Option Value) (n' : Nat) (σ' : Option Nat) (h' : gH), QR v n' σ' h' → G E F t Q n' σ' h' (kc + mc) (ks + ms) (pc + 3) L (v.toList ++ rest)) :
    W F.1 E.1 F.2.1 (gRm t) F.2.2.1 F.2.2.2.1 F.2.2.2.2.1 F.2.2.2.2.2.1 F.2.2.2.2.2.2.1 F.2.2.2.2.2.2.2 H locs kc ks Q (F0 F.2.2.2.1 pc ls st0) := by
  intro T hT X
  rcases hr T hT X with ⟨v, st₀, t9, T', L9, h0, X', hL, e1, e2, ⟨⟨v', n', σ', h', hv, hq, z1, z3⟩, hF⟩, st⟩ | ⟨q, st₀, t9, T', L9, Ex, ce, h0, X', hL, e1, e2, ⟨⟨h', hq, z3⟩, hF⟩, hce, hcv, hcl, st⟩
  · cases hv
    obtain ⟨k1, k2, k3⟩ := vx_keep h0 e1 a4 (fun _ _ z => z) (fun _ z => z) hL hF
    obtain ⟨t2, b1, b2⟩ := kk v n' σ' h' hq T'.heap (locs ++ L9) ls (by rw [e1]; exact z1) (by rw [e1]; exact z3) k3 a5 T' rfl X'
    exact ⟨t2, st t2 b1, b2⟩
  · obtain ⟨k1, k2, k3⟩ := vx_keep h0 e1 a4 (fun _ _ z => z) (fun _ z => z) hL hF
    obtain ⟨QR0, QX0, rfl, hx0⟩ := hx Ex h' hq
    have hw := vx_out (rest := rest) (pc := pc) (ls := ls) (Qc := gQc E QR0) (XC := gXC E n QX0) (free := gA E) (mc := gMc t) (ms := gMs t) (locs := locs ++ L9) (H := T'.heap) (cells := kc + mc) (slots := ks + ms) (p := F.1) (l := E.1) (e := F.2.1) (R := gRm t) (s := F.2.2.1) (m := F.2.2.2.1) (args := F.2.2.2.2.1) (below := F.2.2.2.2.2.1) (meth := F.2.2.2.2.2.2.1) (c := F.2.2.2.2.2.2.2) (q := q) (fun x hx9 => (C.2.2.2.2.2.2.2.2.2.1 x hx9).elim) C.2.2.2.2.2.2.1 (by rw [e1]; exact hce) hcv hcl
      (fun t8 ht8 _ => ⟨⟨h', hx0, by rw [ht8, e1]; exact z3⟩, k3.F ht8⟩) k3.2.2 hk1 hk2
    obtain ⟨t2, b1, b2⟩ := hw T' rfl X'
    exact ⟨t2, st.trans b1, b2⟩
/-- a call's links -/
def gLk (own : String) (index : Nat) (tc : gMt) (np : Nat) : Prop := Cond.methodLink own index tc.1 ∈ wsG ∧ Cond.initialized tc.1.cls ∈ wsG ∧ Cond.code tc.1 (gCode tc) (gMax tc) (gRet tc) ∈ wsG ∧ tc.1.cls ≠ "java/lang/invoke/MethodHandle" ∧ tc.1.cls ≠ "java/lang/invoke/VarHandle" ∧ (parseMethodDescriptor tc.1.desc).map (fun d => d.parameters.length) = some np
def gLn (own : String) (index : Nat) (tc : gMt) (np : Nat) : Prop := (∃ host : String, Cond.methodLinkNest own index tc.1 host ∈ gNest) ∧ Cond.initialized tc.1.cls ∈ wsG ∧ Cond.code tc.1 (gCode tc) (gMax tc) (gRet tc) ∈ wsG ∧ tc.1.cls ≠ "java/lang/invoke/MethodHandle" ∧ tc.1.cls ≠ "java/lang/invoke/VarHandle" ∧ (parseMethodDescriptor tc.1.desc).map (fun d => d.parameters.length) = some np
/-- the callee's room fits -/
def gFit (tc t : gMt) (kc ks : Nat) : Prop := (gFrs tc + 1 ≤ gFrs t ∧ 8 + (gMax tc + 11) + gLo tc ≤ gLo t) ∧ kc + gMc tc ≤ gMc t ∧ ks + gMs tc ≤ gMs t
theorem gLk_B {tc : gMt} {own : String} {index np : Nat} (C : gC E F t) (ho : t.1.cls = own) (lk : gLk own index tc np) (ft : gFit tc t kc ks) : CallB (gRm t) F.2.2.1 F.2.2.2.2.1 own index tc.1 (gCode tc) (gMax tc) (gRet tc) (.code tc.1 (gCode tc) (gMax tc) (gRet tc) :: wsG) (gRm tc) (gMc tc) (gMs tc) np :=
  callB_of np C.2.2.2.2.1 (wsG_goodC lk.2.2.1) rfl rfl rfl (C.2.2.2.2.1 _ lk.2.1) (C.2.2.2.2.1 _ lk.1) lk.2.2.2 ft.1
theorem gLn_B {tc : gMt} {own host : String} {index np : Nat} (C : gC E F t) (lk : gLn own index tc np) (hh : Cond.methodLinkNest own index tc.1 host ∈ gNest) (ft : gFit tc t kc ks) : va_CN (gRm t) F.2.2.1 F.2.2.2.2.1 own index tc.1 host (gCode tc) (gMax tc) (gRet tc) (.code tc.1 (gCode tc) (gMax tc) (gRet tc) :: wsG) (gRm tc) (gMc tc) (gMs tc) np :=
  va_cnB np C.2.2.2.2.1 (wsG_goodC lk.2.2.1) rfl rfl rfl (C.2.2.2.2.2.1.2.1 _ hh) (C.2.2.2.2.1 _ lk.2.1) lk.2.2.2 ft.1
theorem g_callV {tc : gMt} {own Cl : String} {index np ci a : Nat} {fs As rest : List Value} {QR : gQt} {QX : String → gH → Prop} (pc' : Nat) (C : gC E F t) (hd : decode (gCode t) pc = .ok (.invokevirtual index, 3)) (ho : t.1.cls = own) (lk : gLk own index tc np) (hi : Cond.instanceMethod tc.1 ∈ wsG) (hs : Cond.selects Cl tc.1 tc.1 ∈ wsG) (hci : ∃ (T : u_T) (N : Nat), vwCl[ci]? = some (Cl, T, N)) (hb : gB E ≤ a ∧ a < gB E + n) (hq : h a = gO ci fs) (hn : As.length = np) (ft : gFit tc t kc ks) (hw : (rest.map fun v => v.category).sum ≤ 8) (hp : pc + 3 = pc')
    (hM : gM E tc (.ref a :: As) n σ h QR QX) (hx : ∀ (X : String) (h' : gH), QX X h' → gThr E F t n Q X h')
    (kk : ∀ (v : Option Value) (n' : Nat) (σ' : Option Nat) (h' : gH), QR v n' σ' h' → G E F t Q n' σ' h' (kc + gMc tc) (ks + gMs tc) pc' L (v.toList ++ rest)) : G E F t Q n σ h kc ks pc L (As.reverse ++ .ref a :: rest) := by
  subst hp
  intro H locs ls a1 a3 a4 a5
  obtain ⟨T9, N9, hci⟩ := hci
  have hrecv := va_recv C.2.2.2.2.2.1.1 a3 hci (show (gws (gB E) n h)[a - gB E]? = some (a, .inr (ci, fs)) by rw [gws_get hb.1 hb.2, hq]; rfl)
  exact g_run (F := F) C a4 a5 (vx_runV (As := As) (rest := rest) (own := own) (C := Cl) ⟨C.1, C.2.1, C.2.2.1, ho ▸ C.2.2.2.1, C.2.2.2.2.1⟩ hM ⟨gLk_B C ho lk ft, C.2.2.2.2.1 _ hi, C.2.2.2.2.1 _ hs⟩ ⟨gW_blind, hrecv, gW_at C a1 a3 a4⟩ rfl hn a5.1 rfl (lv_room hw) hd ft.2) ft.2.1 ft.2.2 hx kk
theorem g_callS {tc : gMt} {own : String} {index np : Nat} {As rest : List Value} {QR : gQt} {QX : String → gH → Prop} (pc' : Nat) (C : gC E F t) (hd : decode (gCode t) pc = .ok (.invokestatic index, 3)) (ho : t.1.cls = own) (lk : gLk own index tc np) (hs : Cond.static tc.1 ∈ wsG) (hn : As.length = np) (ft : gFit tc t kc ks) (hw : (rest.map fun v => v.category).sum ≤ 8) (hp : pc + 3 = pc')
    (hM : gM E tc As n σ h QR QX) (hx : ∀ (X : String) (h' : gH), QX X h' → gThr E F t n Q X h')
    (kk : ∀ (v : Option Value) (n' : Nat) (σ' : Option Nat) (h' : gH), QR v n' σ' h' → G E F t Q n' σ' h' (kc + gMc tc) (ks + gMs tc) pc' L (v.toList ++ rest)) : G E F t Q n σ h kc ks pc L (As.reverse ++ rest) := by
  subst hp
  intro H locs ls a1 a3 a4 a5
  exact g_run (F := F) C a4 a5 (vx_runS (As := As) (rest := rest) (own := own) ⟨C.1, C.2.1, C.2.2.1, ho ▸ C.2.2.2.1, C.2.2.2.2.1⟩ hM ⟨gLk_B C ho lk ft, C.2.2.2.2.1 _ hs⟩ ⟨gW_blind, gW_at C a1 a3 a4⟩ rfl hn a5.1 rfl (lv_room hw) hd ft.2) ft.2.1 ft.2.2 hx kk
theorem g_callSN {tc : gMt} {own : String} {index np : Nat} {As rest : List Value} {QR : gQt} {QX : String → gH → Prop} (pc' : Nat) (C : gC E F t) (hd : decode (gCode t) pc = .ok (.invokestatic index, 3)) (ho : t.1.cls = own) (lk : gLn own index tc np) (hs : Cond.static tc.1 ∈ wsG) (hn : As.length = np) (ft : gFit tc t kc ks) (hw : (rest.map fun v => v.category).sum ≤ 8) (hp : pc + 3 = pc')
    (hM : gM E tc As n σ h QR QX) (hx : ∀ (X : String) (h' : gH), QX X h' → gThr E F t n Q X h')
    (kk : ∀ (v : Option Value) (n' : Nat) (σ' : Option Nat) (h' : gH), QR v n' σ' h' → G E F t Q n' σ' h' (kc + gMc tc) (ks + gMs tc) pc' L (v.toList ++ rest)) : G E F t Q n σ h kc ks pc L (As.reverse ++ rest) := by
  subst hp
  intro H locs ls a1 a3 a4 a5
  obtain ⟨host, hh⟩ := lk.1
  exact g_run (F := F) C a4 a5 (vx_runSN (As := As) (rest := rest) (own := own) (host := host) ⟨C.1, C.2.1, C.2.2.1, ho ▸ C.2.2.2.1, C.2.2.2.2.1⟩ hM ⟨gLn_B C lk hh ft, C.2.2.2.2.1 _ hs, trivial⟩ ⟨gW_blind, gW_at C a1 a3 a4⟩ rfl hn a5.1 rfl (lv_room hw) hd ft.2) ft.2.1 ft.2.2 hx kk
theorem g_callI {tc : gMt} {own : String} {index np a : Nat} {As rest : List Value} {QR : gQt} {QX : String → gH → Prop} (pc' : Nat) (C : gC E F t) (hd : decode (gCode t) pc = .ok (.invokespecial index, 3)) (ho : t.1.cls = own) (lk : gLk own index tc np) (hi : Cond.instanceMethod tc.1 ∈ wsG) (hy : tc.1.name = "<init>") (hret : gRet tc = none) (hn : As.length = np) (ft : gFit tc t kc ks) (hw : (rest.map fun v => v.category).sum ≤ 8) (hp : pc + 3 = pc')
    (hM : gM E tc (.ref a :: As) n σ h QR QX) (hx : ∀ (X : String) (h' : gH), QX X h' → gThr E F t n Q X h')
    (kk : ∀ (v : Option Value) (n' : Nat) (σ' : Option Nat) (h' : gH), QR v n' σ' h' → G E F t Q n' σ' h' (kc + gMc tc) (ks + gMs tc) pc' L (v.toList ++ rest)) : G E F t Q n σ h kc ks pc L (As.reverse ++ .ref a :: rest) := by
  subst hp
  intro H locs ls a1 a3 a4 a5
  have hB := gLk_B C ho lk ft
  rw [hret] at hB
  exact g_run (F := F) C a4 a5 (vx_runI (As := As) (rest := rest) (own := own) ⟨C.1, C.2.1, C.2.2.1, ho ▸ C.2.2.2.1, C.2.2.2.2.1⟩ hM ⟨by rw [hret]; exact hB, hy, C.2.2.2.2.1 _ hi⟩ ⟨gW_blind, gW_at C a1 a3 a4⟩ rfl hn a5.1 rfl (lv_room hw) hd ft.2) ft.2.1 ft.2.2 hx kk
theorem g_callIN {tc : gMt} {own : String} {index np a : Nat} {As rest : List Value} {QR : gQt} {QX : String → gH → Prop} (pc' : Nat) (C : gC E F t) (hd : decode (gCode t) pc = .ok (.invokespecial index, 3)) (ho : t.1.cls = own) (lk : gLn own index tc np) (hi : Cond.instanceMethod tc.1 ∈ wsG) (hy : tc.1.name = "<init>") (hret : gRet tc = none) (hn : As.length = np) (ft : gFit tc t kc ks) (hw : (rest.map fun v => v.category).sum ≤ 8) (hp : pc + 3 = pc')
    (hM : gM E tc (.ref a :: As) n σ h QR QX) (hx : ∀ (X : String) (h' : gH), QX X h' → gThr E F t n Q X h')
    (kk : ∀ (v : Option Value) (n' : Nat) (σ' : Option Nat) (h' : gH), QR v n' σ' h' → G E F t Q n' σ' h' (kc + gMc tc) (ks + gMs tc) pc' L (v.toList ++ rest)) : G E F t Q n σ h kc ks pc L (As.reverse ++ .ref a :: rest) := by
  subst hp
  intro H locs ls a1 a3 a4 a5
  obtain ⟨host, hh⟩ := lk.1
  have hB := gLn_B C lk hh ft
  rw [hret] at hB
  exact g_run (F := F) C a4 a5 (vx_runIN (As := As) (rest := rest) (own := own) (host := host) ⟨C.1, C.2.1, C.2.2.1, ho ▸ C.2.2.2.1, C.2.2.2.2.1⟩ hM ⟨by rw [hret]; exact hB, hy, C.2.2.2.2.1 _ hi⟩ ⟨gW_blind, gW_at C a1 a3 a4⟩ rfl hn a5.1 rfl (lv_room hw) hd ft.2) ft.2.1 ft.2.2 hx kk
/-- the ends -/
theorem g_iret {n0 : Nat} {x : Int32} {QR : gQt} {QX : String → gH → Prop} (C : gC E F t) (hd : decode (gCode t) pc = .ok (.ireturn, 1)) (hr : gRet t = some .int) (hk : kc ≤ gMc t ∧ ks ≤ gMs t) (hq : QR (some (.int x)) n σ h) : G E F t (gQ E F t n0 QR QX) n σ h kc ks pc L [.int x] := by
  intro H locs ls a1 a3 a4 a5
  refine vx_ret (W.widen hk.1 hk.2 ?_)
  exact W.iret C.1 C.2.1 (C.2.2.2.2.2.2.2.1.trans hr) (fun t9 ht hW => ⟨⟨_, n, σ, h, rfl, hq, by rw [ht]; exact a1, by rw [ht]; exact a3⟩, a4.F ht⟩) a4.2.2 hd C.2.2.2.2.2.2.1
theorem g_zret {n0 : Nat} {x : Int32} {ty : FieldType} {QR : gQt} {QX : String → gH → Prop} (C : gC E F t) (hd : decode (gCode t) pc = .ok (.ireturn, 1)) (hr : gRet t = some ty) (hn : narrow ty (.int x) = .int x) (hk : kc ≤ gMc t ∧ ks ≤ gMs t) (hq : QR (some (.int x)) n σ h) : G E F t (gQ E F t n0 QR QX) n σ h kc ks pc L [.int x] := by
  intro H locs ls a1 a3 a4 a5
  refine vx_ret (W.widen hk.1 hk.2 ?_)
  exact W.zret C.1 C.2.1 (C.2.2.2.2.2.2.2.1.trans hr) hn (fun t9 ht hW => ⟨⟨_, n, σ, h, rfl, hq, by rw [ht]; exact a1, by rw [ht]; exact a3⟩, a4.F ht⟩) a4.2.2 hd C.2.2.2.2.2.2.1
theorem g_lret {n0 : Nat} {x : Int64} {QR : gQt} {QX : String → gH → Prop} (C : gC E F t) (hd : decode (gCode t) pc = .ok (.lreturn, 1)) (hr : gRet t = some .long) (hk : kc ≤ gMc t ∧ ks ≤ gMs t) (hq : QR (some (.long x)) n σ h) : G E F t (gQ E F t n0 QR QX) n σ h kc ks pc L [.long x] := by
  intro H locs ls a1 a3 a4 a5
  refine vx_ret (W.widen hk.1 hk.2 ?_)
  exact W.lret C.1 C.2.1 (C.2.2.2.2.2.2.2.1.trans hr) (fun t9 ht hW => ⟨⟨_, n, σ, h, rfl, hq, by rw [ht]; exact a1, by rw [ht]; exact a3⟩, a4.F ht⟩) a4.2.2 hd C.2.2.2.2.2.2.1
theorem g_dret {n0 : Nat} {x : UInt64} {QR : gQt} {QX : String → gH → Prop} (C : gC E F t) (hd : decode (gCode t) pc = .ok (.dreturn, 1)) (hr : gRet t = some .double) (hk : kc ≤ gMc t ∧ ks ≤ gMs t) (hq : QR (some (.double x)) n σ h) : G E F t (gQ E F t n0 QR QX) n σ h kc ks pc L [.double x] := by
  intro H locs ls a1 a3 a4 a5
  refine vx_ret (W.widen hk.1 hk.2 ?_)
  have hlocks := C.2.2.2.2.2.2.1
  exact W.dret C.1 C.2.1 (C.2.2.2.2.2.2.2.1.trans hr) (fun t9 ht hW => ⟨⟨_, n, σ, h, rfl, hq, by rw [ht]; exact a1, by rw [ht]; exact a3⟩, a4.F ht⟩) a4.2.2 hd hlocks
theorem g_aret {n0 : Nat} {x : Nat} {ty : FieldType} {QR : gQt} {QX : String → gH → Prop} (C : gC E F t) (hd : decode (gCode t) pc = .ok (.areturn, 1)) (hr : gRet t = some ty) (hty : (∃ n, ty = .object n) ∨ ∃ t, ty = .array t) (hk : kc ≤ gMc t ∧ ks ≤ gMs t) (hq : QR (some (.ref x)) n σ h) : G E F t (gQ E F t n0 QR QX) n σ h kc ks pc L [.ref x] := by
  intro H locs ls a1 a3 a4 a5
  refine vx_ret (W.widen hk.1 hk.2 ?_)
  exact W.aret C.1 C.2.1 (C.2.2.2.2.2.2.2.1.trans hr) hty (Or.inr ⟨x, rfl⟩) (fun t9 ht hW => ⟨⟨_, n, σ, h, rfl, hq, by rw [ht]; exact a1, by rw [ht]; exact a3⟩, a4.F ht⟩) a4.2.2 hd C.2.2.2.2.2.2.1
theorem g_vret {n0 : Nat} {QR : gQt} {QX : String → gH → Prop} (C : gC E F t) (hd : decode (gCode t) pc = .ok (.return_, 1)) (hr : gRet t = none) (hk : kc ≤ gMc t ∧ ks ≤ gMs t) (hq : QR none n σ h) : G E F t (gQ E F t n0 QR QX) n σ h kc ks pc L [] := by
  intro H locs ls a1 a3 a4 a5
  refine vx_ret (W.widen hk.1 hk.2 ?_)
  exact W.vret C.1 C.2.1 (C.2.2.2.2.2.2.2.1.trans hr) (fun t9 ht hW => ⟨⟨_, n, σ, h, rfl, hq, by rw [ht]; exact a1, by rw [ht]; exact a3⟩, a4.F ht⟩) a4.2.2 hd C.2.2.2.2.2.2.1

end GL
