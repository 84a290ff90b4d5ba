/-! THE LAYER. A run of a method over ONE heap function: h says what lies at each address from b to b + n; all that is written lies there. -/
abbrev gH : Type := Nat → va_E
/-- the launch, the classes' numbers, the arrays' classes, the first address, the texts' addresses, their bytes' addresses -/
abbrev gEnv : Type := Launch × va_G × (Nat → ClassId) × Nat × (Nat → Nat) × (Nat → Nat)
abbrev gFr : Type := Program × Env × State × MethodId × Array Value × List Frame × Method × Code
/-- a method: name, code, locals, what it returns; frames, words, cells, slots that it may take -/
abbrev gMt : Type := MethodName × ByteArray × Nat × Option FieldType × Nat × Nat × Nat × Nat
def gi (x : Int) : Int32 := Int32.ofInt x
def gB (E : gEnv) : Nat := E.2.2.2.1
def gA (E : gEnv) : Nat → Prop := fun q => gB E ≤ q
def gTys (E : gEnv) : List (ClassId × FieldType) := [(E.2.2.1 0, .int), (E.2.2.1 1, .array .int), (E.2.2.1 2, .object "SiblingJoins$Copy"), (E.2.2.1 3, .object "SiblingJoins$KeyState"), (E.2.2.1 4, .object "SiblingJoins$State"), (E.2.2.1 5, .long)]
def gNest : List Cond := [.methodLinkNest RX4 29 yX2_init "SiblingJoins", .methodLinkNest RX0 31 yX4_writerOf "SiblingJoins", .methodLinkNest RX0 35 yX4_covers "SiblingJoins", .methodLinkNest RX0 57 yX4_mergeInto "SiblingJoins", .methodLinkNest RX1 125 yX4_sameNumbers "SiblingJoins", .methodLinkNest RX1 26 yX0_init "SiblingJoins", .methodLinkNest RX1 40 yX4_mergeInto "SiblingJoins", .methodLinkNest RX1 81 yX4_writerOf "SiblingJoins", .methodLinkNest RX1 85 yX4_numberOf "SiblingJoins", .methodLinkNest RX1 97 yX4_covers "SiblingJoins", .castable "java/lang/IndexOutOfBoundsException" "java/lang/IndexOutOfBoundsException", .castable "java/lang/IllegalArgumentException" "java/lang/IllegalArgumentException", .castable "java/lang/IllegalStateException" "java/lang/IllegalStateException", .declares ⟨"java/lang/RuntimeException", "<init>", "(Ljava/lang/String;)V"⟩, .declares ⟨"java/lang/Exception", "<init>", "(Ljava/lang/String;)V"⟩, .declares ⟨"java/lang/Throwable", "<init>", "(Ljava/lang/String;)V"⟩]
def gStr : List (String × Nat × String) := [("SiblingJoins$Part", 46, "w4k2s2=9"), ("SiblingJoins$Part", 48, "r4k2s2"), ("SiblingJoins", 112, "the writer cannot be forgotten"), ("SiblingJoins", 134, "not a code from 33 to 126"), ("SiblingJoins", 140, "the buffer is full"), ("SiblingJoins", 149, "not complete writes as a text"), ("SiblingJoins", 157, "no saved state"), ("SiblingJoins", 201, "no such writer, key or store"), ("SiblingJoins", 204, "a number is out of range"), ("SiblingJoins", 206, "both stores are the same"), ("SiblingJoins", 70, "too many siblings, or too many writes"), ("SiblingJoins", 85, "too many siblings"), ("SiblingJoins", 94, "no siblings, or too many writes")]
def gLen : List Nat := [8, 6]
def gByt : List (List Int32) := [[119, 52, 107, 50, 115, 50, 61, 57], [114, 52, 107, 50, 115, 50]]
/-- the arrays' classes over their parts' -/
def gNc : List (String × String) := [("java/lang/IllegalArgumentException", "java/lang/IndexOutOfBoundsException"), ("java/lang/IllegalStateException", "java/lang/IndexOutOfBoundsException"), ("java/lang/IllegalStateException", "java/lang/IllegalArgumentException")]
def gOv (U : State) : Prop := va_AO "SiblingJoins$Copy" U ∧ va_AO "SiblingJoins$KeyState" U ∧ va_AO "SiblingJoins$State" U ∧ (Cond.arrayOver (.array .int)).before #[] U = true ∧ ∀ q ∈ gNc, va_Nc q.1 q.2 U
theorem gOv_moved {u U : State} (hvm : u.vm.Alike U.vm) (h : gOv u) : gOv U := ⟨h.1.moved hvm, h.2.1.moved hvm, h.2.2.1.moved hvm, Jvm.Stand.arrayOver_alikeB hvm h.2.2.2.1, fun q hq => (h.2.2.2.2 q hq).moved hvm⟩
/-- what stays true of the tables, the texts and the JDK's fields -/
def gY (E : gEnv) (U : State) (H : Heap) : Prop :=
  vk_S 2 gLen gByt E.2.2.2.2.1 E.2.2.2.2.2 (gA E) U H ∧ va_Z "java/lang/String" "COMPACT_STRINGS" "Z" (.int 1) (gA E) U H ∧ va_Zq "jdk/internal/util/Preconditions" "SIOOBE_FORMATTER" "Ljava/util/function/BiFunction;" (gA E) U H ∧ gOv U
def gX (E : gEnv) (U : State) (H : Heap) : Prop :=
  va_K E.2.1 vwCl (gTys E) U ∧ (∀ w ∈ gNest, va_Nw w U) ∧ (∀ (i : Nat) (q : String × Nat × String), gStr[i]? = some q → vk_R q.1 q.2.1 q.2.2 (E.2.2.2.2.1 i) U) ∧ vx_Zq Bundle.tN "UNASSIGNED_STACK" Bundle.steD (gA E) U H ∧ vx_Zq Bundle.tN "SUPPRESSED_SENTINEL" Bundle.listD (gA E) U H ∧ gY E U H
def gws (b n : Nat) (h : gH) : va_W := (List.range n).map (fun i => (b + i, h (b + i)))
def gP (E : gEnv) (n : Nat) (h : gH) (H : Heap) : Prop := va_P E.2.1 vwCl (gws (gB E) n h) H
theorem gws_get {b n q : Nat} {h : gH} (h1 : b ≤ q) (h2 : q < b + n) : (gws b n h)[q - b]? = some (q, h q) := by
  unfold gws
  rw [List.getElem?_map, List.getElem?_range (by omega)]
  simp only [Option.map_some]
  rw [show b + (q - b) = q by omega]
theorem gws_of {b n i : Nat} {h : gH} {q : Nat × va_E} (hi : (gws b n h)[i]? = some q) : i < n ∧ q = (b + i, h (b + i)) := by
  unfold gws at hi
  rw [List.getElem?_map] at hi
  by_cases hn : i < n
  · rw [List.getElem?_range hn] at hi
    simp only [Option.map_some] at hi
    exact ⟨hn, (Option.some.inj hi).symm⟩
  · rw [List.getElem?_eq_none (by rw [List.length_range]; omega)] at hi
    cases hi
theorem gws_D {E : gEnv} {n : Nat} {h : gH} : va_D (gA E) (gws (gB E) n h) := by
  refine ⟨fun i j p q hi hj hpq => ?_, fun k q hk => ?_⟩
  · obtain ⟨-, rfl⟩ := gws_of hi
    obtain ⟨-, rfl⟩ := gws_of hj
    have hpq : gB E + i = gB E + j := hpq
    omega
  · obtain ⟨-, rfl⟩ := gws_of hk
    show gB E ≤ gB E + k
    omega
theorem gws_set {b n q : Nat} {h : gH} {e : va_E} (h1 : b ≤ q) (h2 : q < b + n) : (gws b n h).set (q - b) (q, e) = gws b n (va_up h q e) := by
  apply List.ext_getElem?
  intro i
  by_cases hi : i = q - b
  · subst hi
    rw [gws_get h1 h2, List.getElem?_set_self (by unfold gws; rw [List.length_map, List.length_range]; omega)]
    simp [va_up]
  · rw [List.getElem?_set_ne (Ne.symm hi)]
    unfold gws
    rw [List.getElem?_map, List.getElem?_map]
    by_cases hn : i < n
    · rw [List.getElem?_range hn]
      simp only [Option.map_some]
      rw [show va_up h q e (b + i) = h (b + i) by unfold va_up; rw [if_neg (by omega)]]
    · rw [List.getElem?_eq_none (by rw [List.length_range]; omega)]
      rfl
theorem gws_push {b n : Nat} {h : gH} {e : va_E} : gws b n h ++ [(b + n, e)] = gws b (n + 1) (va_up h (b + n) e) := by
  unfold gws
  rw [List.range_succ, List.map_append]
  congr 1
  · apply List.map_congr_left
    intro i hi
    have hi := List.mem_range.mp hi
    rw [show va_up h (b + n) e (b + i) = h (b + i) by unfold va_up; rw [if_neg (by omega)]]
  · simp [va_up]
theorem gP_lt {E : gEnv} {n : Nat} {h : gH} {H : Heap} (hP : gP E n h H) : n = 0 ∨ gB E + n ≤ H.size := by
  rcases Nat.eq_zero_or_pos n with h0 | h0
  · exact Or.inl h0
  · have h1 := (hP (gB E + (n - 1) - gB E) _ (gws_get (by omega) (by omega))).lt
    have h1 : gB E + (n - 1) < H.size := h1
    exact Or.inr (by omega)
theorem gNest_warm {s U : State} (hW : s.WarmedH U.vm) (h : ∀ w ∈ gNest, va_Nw w s) : ∀ w ∈ gNest, va_Nw w U := by
  intro w hw
  have h1 := h w hw
  simp only [gNest, List.mem_cons, List.not_mem_nil, or_false] at hw
  rcases hw with rfl | rfl | rfl | rfl | rfl | rfl | rfl | rfl | rfl | rfl | rfl | rfl | rfl | rfl | rfl | rfl <;> first | exact va_Nw.warmM hW h1 | exact va_Nw.warmC hW h1 | exact va_Nw.warmD hW h1
theorem gNest_same {s U : State} (hv : s.vm = U.vm) (h : ∀ w ∈ gNest, va_Nw w s) : ∀ w ∈ gNest, va_Nw w U := by
  intro w hw
  have h1 := h w hw
  simp only [gNest, List.mem_cons, List.not_mem_nil, or_false] at hw
  rcases hw with rfl | rfl | rfl | rfl | rfl | rfl | rfl | rfl | rfl | rfl | rfl | rfl | rfl | rfl | rfl | rfl <;> exact va_Nw.same rfl hv h1
theorem gX_go {E : gEnv} {s U : State} {locs : List Loc} (h : gX E s s.heap) (hW : s.WarmedH U.vm) (hS : va_S (gA E) s.heap U.heap locs) : gX E U U.heap := by
  obtain ⟨h1, h2, h3, h4, h5, h6, h7, h8, h9⟩ := h
  have hq : ∀ a : Nat, a < s.heap.size → ¬ gA E a → U.heap[a]? = s.heap[a]? := hS.2.1
  exact ⟨va_K.moved hW.alike h1, gNest_warm hW h2, fun i q hi => vk_R.warm hW (h3 i q hi), (h4.kept hq).moved hW.alike, (h5.kept hq).moved hW.alike, (h6.kept hq).moved hW.alike, va_Z.moved hW.alike (va_Z.kept h7 hq), (h8.kept hq).moved hW.alike, gOv_moved hW.alike h9⟩
theorem gX_same {E : gEnv} {s U : State} (h : gX E s s.heap) (hv : s.vm = U.vm) (hh : U.heap = s.heap) : gX E U U.heap := by
  obtain ⟨h1, h2, h3, h4, h5, h6, h7, h8, h9⟩ := h
  have ha : s.vm.Alike U.vm := hv ▸ Vm.Alike.refl s.vm
  rw [hh]
  exact ⟨va_K.moved ha h1, gNest_same hv h2, fun i q hi => vk_R.same hv.symm (h3 i q hi), h4.moved ha, h5.moved ha, h6.moved ha, va_Z.moved ha h7, h8.moved ha, gOv_moved ha h9⟩
def gS (σ : Option Nat) (H : Heap) : Prop := ∀ z : Nat, σ = some z → H.size = z
theorem gS_eq {σ : Option Nat} {H H1 : Heap} (h : gS σ H) (e : H1.size = H.size) : gS σ H1 := fun z hz => e.trans (h z hz)
/-- the world that a method is begun in; σ: the heap's size, where it matters -/
def gW (E : gEnv) (n : Nat) (σ : Option Nat) (h : gH) (U : State) : Prop := gS σ U.heap ∧ gB E ≤ U.heap.size ∧ gP E n h U.heap ∧ gX E U U.heap
abbrev gQt : Type := Option Value → Nat → Option Nat → gH → Prop
def gQc (E : gEnv) (QR : gQt) : Array Value → State → Outcome → State → Prop := fun _ st o t => (∃ (v : Option Value) (n' : Nat) (σ' : Option Nat) (h' : gH), o = .returned v ∧ QR v n' σ' h' ∧ gS σ' t.heap ∧ gP E n' h' t.heap) ∧ va_F (gA E) st t
def gXC (E : gEnv) (n : Nat) (QX : String → gH → Prop) : String → State → State → Prop := fun X st t => (∃ h' : gH, QX X h' ∧ gP E n h' t.heap) ∧ va_F (gA E) st t
abbrev gCode (t : gMt) : ByteArray := t.2.1
abbrev gMax (t : gMt) : Nat := t.2.2.1
abbrev gRet (t : gMt) : Option FieldType := t.2.2.2.1
abbrev gFrs (t : gMt) : Nat := t.2.2.2.2.1
abbrev gLo (t : gMt) : Nat := t.2.2.2.2.2.1
abbrev gMc (t : gMt) : Nat := t.2.2.2.2.2.2.1
abbrev gMs (t : gMt) : Nat := t.2.2.2.2.2.2.2
def gRm (t : gMt) : Room := { frames := gFrs t, cells := gMc t, slots := gMs t, locals := gLo t }
/-- A CONTRACT: from the arguments av over the heap h, the method t returns with QR, or throws with QX -/
def gM (E : gEnv) (t : gMt) (av : List Value) (n : Nat) (σ : Option Nat) (h : gH) (QR : gQt) (QX : String → gH → Prop) : Prop :=
  vx_Met E.1 t.1 (.code t.1 (gCode t) (gMax t) (gRet t) :: wsG) (gRm t) (va_Pc av (gW E n σ h)) (gQc E QR) (gXC E n QX) (gMc t) (gMs t) (gA E)
/-- no throw -/
def gNo : String → gH → Prop := fun _ _ => False
/-- one answer, one size, a heap with Ph -/
def gD (v0 : Option Value) (n0 : Nat) (σ0 : Option Nat) (Ph : gH → Prop) : gQt := fun v n' σ' h' => v = v0 ∧ n' = n0 ∧ σ' = σ0 ∧ Ph h'
/-- what holds in a frame of the method t -/
def gC (E : gEnv) (F : gFr) (t : gMt) : Prop :=
  F.1.tables.exec = Jvm.exec ∧ F.2.2.2.2.2.2.2.code = gCode t ∧ F.2.2.2.2.2.2.2.maxLocals = gMax t ∧ F.2.2.1.vm.findClass t.1.cls = some F.2.2.2.1.cls ∧ (∀ w ∈ wsG, w.before F.2.2.2.2.1 F.2.2.1 = true) ∧ gX E F.2.2.1 F.2.2.1.heap ∧ F.2.2.2.2.2.2.1.locks = false ∧ F.2.2.2.2.2.2.1.sig.returnType = gRet t ∧ gB E ≤ F.2.2.1.heap.size ∧ (∀ x ∈ F.2.2.2.2.2.2.2.exceptionTable.toList, False) ∧ F.2.2.2.2.2.2.1.name = t.1.name
/-- what a frame of t owes at its end -/
def gQ (E : gEnv) (F : gFr) (t : gMt) (n0 : Nat) (QR : gQt) (QX : String → gH → Prop) : State → Prop := vx_MQ F.2.2.2.2.2.1 (gQc E QR) (gXC E n0 QX) F.2.2.2.2.1 F.2.2.1 (gMc t) (gMs t) (gA E)
/-- THE GOAL: at pc, with the locals L and the stack st, over the heap h, the run comes to Q -/
def G (E : gEnv) (F : gFr) (t : gMt) (Q : State → Prop) (n : Nat) (σ : Option Nat) (h : gH) (k sl pc : Nat) (L : List (Nat × Value)) (st : List Value) : Prop :=
  ∀ (H : Heap) (locs : List Loc) (ls : Array Slot), gS σ H → gP E n h H → va_S (gA E) F.2.2.1.heap H locs → lv_has ls (gMax t) L → W F.1 E.1 F.2.1 (gRm t) F.2.2.1 F.2.2.2.1 F.2.2.2.2.1 F.2.2.2.2.2.1 F.2.2.2.2.2.2.1 F.2.2.2.2.2.2.2 H locs k sl Q (F0 F.2.2.2.1 pc ls st)
theorem gl_mem {L : List (Nat × Value)} {i : Nat} {v : Value} : L.lookup i = some v → (i, v) ∈ L := by
  induction L with
  | nil => intro h; cases h
  | cons q L ih =>
    obtain ⟨a, b⟩ := q
    intro h
    rw [List.lookup_cons] at h
    by_cases e : i = a
    · subst e
      simp at h
      subst h
      exact List.mem_cons_self
    · have e2 : (i == a) = false := by simp [e]
      rw [e2] at h
      exact List.mem_cons_of_mem _ (ih h)
theorem gl_at {ls : Array Slot} {nL i : Nat} {v : Value} {L : List (Nat × Value)} (h : lv_has ls nL L) (hl : L.lookup i = some v) : ls[i]? = some (.val v) := h.2.2 (i, v) (gl_mem hl)
/-- L2 says no more than L -/
def gSub (L : List (Nat × Value)) : List (Nat × Value) → Prop
  | [] => True
  | q :: r => L.lookup q.1 = some q.2 ∧ gSub L r
theorem gSub_has {ls : Array Slot} {nL : Nat} {L : List (Nat × Value)} (h : lv_has ls nL L) : ∀ L2, gSub L L2 → lv_has ls nL L2 := by
  intro L2 h2
  refine ⟨h.1, h.2.1, ?_⟩
  induction L2 with
  | nil => intro q hq; cases hq
  | cons q r ih =>
    intro x hx
    rcases List.mem_cons.mp hx with rfl | hx
    · exact gl_at h h2.1
    · exact ih h2.2 x hx
theorem gM_of {E : gEnv} {t : gMt} {av : List Value} {n : Nat} {σ : Option Nat} {h : gH} {QR : gQt} {QX : String → gH → Prop} (hy : plainName t.1.cls = true) (hlen : (lg_sl av).length ≤ gMax t)
    (body : ∀ F : gFr, gC E F t → G E F t (gQ E F t n QR QX) n σ h 0 0 0 (lv_args 0 av) []) : gM E t av n σ h QR QX := by
  refine vx_ofW (cc := gCode t) (maxL := gMax t) (ret := gRet t) hy rfl ?_
  intro p e s m args below meth c s₁ B hml ht hv
  obtain ⟨rfl, hsz, hbn, hP, hX⟩ := hv
  have hts := atoms_spec (ws := .code t.1 (gCode t) (gMax t) (gRet t) :: wsG) B.pre
  have hl := lv_entry av (n := gMax t) hlen
  rw [lg_entry_eq]
  exact body (p, e, s, m, av.toArray, below, meth, c) ⟨B.exec, B.bytes, hml, findClass_of_methodNamed B.named, fun w hw => hts w (List.mem_cons_of_mem _ hw), hX, B.notSynchronized, B.returns, hbn, ht, (name_of_methodNamed B.named B.method).1⟩ s.heap [] _ hsz hP va_S.rf hl
