/-! what holds at the law's start -/
theorem gx_int {s : State} {args : Array Value} {ty : FieldType} (h : (Cond.arrayClass ty).before args s = true) : ∃ c : ClassId, ArrOfT s c ty ∧ s.vm.findClass ("[" ++ ty.toString) = some c := by
  obtain ⟨c, k, comp, h1, h2, h3⟩ := Cond.arrayClass_spec h
  exact ⟨c, fun n z => ⟨(fun k h => by cases h), k, h2, comp, h3⟩, h1⟩
theorem gx_obj {s : State} {args : Array Value} {C : String} (h : (Cond.arrayOver (.object C)).before args s = true) : ∃ c : ClassId, ArrOfT s c (.object C) ∧ va_RA s c (.object C) := by
  obtain ⟨comp, c, k, h1, h2, h3, h4, h5⟩ := Cond.arrayOver_spec h
  exact ⟨c, fun n z => ⟨(fun k h => by cases h), k, h3, comp, h4⟩, k, comp, h3, h4, h1, h5⟩
theorem gx_arr {s : State} {args : Array Value} {ty : FieldType} (h : (Cond.arrayOver (.array ty)).before args s = true) : ∃ c : ClassId, ArrOfT s c (.array ty) ∧ va_RA s c (.array ty) := by
  obtain ⟨comp, c, k, h1, h3, h4, h5⟩ := Cond.arrayOver_specA h
  exact ⟨c, fun n z => ⟨(fun k h => by cases h), k, h3, comp, h4⟩, h5⟩
theorem lw_mem {w : Cond} (i : Nat) (h : tables_1[i]? = some w) : w ∈ lw_tbl := List.mem_append_right _ (List.mem_of_getElem? h)
abbrev lwG : List Cond := flatC (Jvm.Cond.and given_1 narrow_1)
theorem ln_ex0 : (Cond.exactly (.string "SiblingJoins$Part" 46) "java/lang/String" : Cond) ∈ lwG := (List.mem_of_getElem? (i := 392) (by decide +kernel))
theorem ln_ex1 : (Cond.exactly (.string "SiblingJoins$Part" 48) "java/lang/String" : Cond) ∈ lwG := (List.mem_of_getElem? (i := 414) (by decide +kernel))
theorem ln_ex2 : (Cond.exactly (.string "SiblingJoins" 112) "java/lang/String" : Cond) ∈ lwG := (List.mem_of_getElem? (i := 283) (by decide +kernel))
theorem ln_ex3 : (Cond.exactly (.string "SiblingJoins" 134) "java/lang/String" : Cond) ∈ lwG := (List.mem_of_getElem? (i := 324) (by decide +kernel))
theorem ln_ex4 : (Cond.exactly (.string "SiblingJoins" 140) "java/lang/String" : Cond) ∈ lwG := (List.mem_of_getElem? (i := 361) (by decide +kernel))
theorem ln_ex5 : (Cond.exactly (.string "SiblingJoins" 149) "java/lang/String" : Cond) ∈ lwG := (List.mem_of_getElem? (i := 435) (by decide +kernel))
theorem ln_ex6 : (Cond.exactly (.string "SiblingJoins" 157) "java/lang/String" : Cond) ∈ lwG := (List.mem_of_getElem? (i := 91) (by decide +kernel))
theorem ln_ex7 : (Cond.exactly (.string "SiblingJoins" 201) "java/lang/String" : Cond) ∈ lwG := (List.mem_of_getElem? (i := 59) (by decide +kernel))
theorem ln_ex8 : (Cond.exactly (.string "SiblingJoins" 204) "java/lang/String" : Cond) ∈ lwG := (List.mem_of_getElem? (i := 110) (by decide +kernel))
theorem ln_ex9 : (Cond.exactly (.string "SiblingJoins" 206) "java/lang/String" : Cond) ∈ lwG := (List.mem_of_getElem? (i := 184) (by decide +kernel))
theorem ln_ex10 : (Cond.exactly (.string "SiblingJoins" 70) "java/lang/String" : Cond) ∈ lwG := (List.mem_of_getElem? (i := 140) (by decide +kernel))
theorem ln_ex11 : (Cond.exactly (.string "SiblingJoins" 85) "java/lang/String" : Cond) ∈ lwG := (List.mem_of_getElem? (i := 216) (by decide +kernel))
theorem ln_ex12 : (Cond.exactly (.string "SiblingJoins" 94) "java/lang/String" : Cond) ∈ lwG := (List.mem_of_getElem? (i := 242) (by decide +kernel))
theorem ln_co0 : (Cond.eq (.field (.string "SiblingJoins$Part" 46) "java/lang/String" "coder" "B") (.int 0) : Cond) ∈ lwG := (List.mem_of_getElem? (i := 393) (by decide +kernel))
theorem ln_ar0 : (Cond.arrayOf (.field (.string "SiblingJoins$Part" 46) "java/lang/String" "value" "[B") .byte : Cond) ∈ lwG := (List.mem_of_getElem? (i := 394) (by decide +kernel))
theorem ln_le0 : (Cond.eq (.length (.field (.string "SiblingJoins$Part" 46) "java/lang/String" "value" "[B")) (.int 8) : Cond) ∈ lwG := (List.mem_of_getElem? (i := 395) (by decide +kernel))
theorem ln_el0_0 : (Cond.eq (.elem (.field (.string "SiblingJoins$Part" 46) "java/lang/String" "value" "[B") (.int 0)) (.int 119) : Cond) ∈ lwG := (List.mem_of_getElem? (i := 396) (by decide +kernel))
theorem ln_el0_1 : (Cond.eq (.elem (.field (.string "SiblingJoins$Part" 46) "java/lang/String" "value" "[B") (.int 1)) (.int 52) : Cond) ∈ lwG := (List.mem_of_getElem? (i := 397) (by decide +kernel))
theorem ln_el0_2 : (Cond.eq (.elem (.field (.string "SiblingJoins$Part" 46) "java/lang/String" "value" "[B") (.int 2)) (.int 107) : Cond) ∈ lwG := (List.mem_of_getElem? (i := 398) (by decide +kernel))
theorem ln_el0_3 : (Cond.eq (.elem (.field (.string "SiblingJoins$Part" 46) "java/lang/String" "value" "[B") (.int 3)) (.int 50) : Cond) ∈ lwG := (List.mem_of_getElem? (i := 399) (by decide +kernel))
theorem ln_el0_4 : (Cond.eq (.elem (.field (.string "SiblingJoins$Part" 46) "java/lang/String" "value" "[B") (.int 4)) (.int 115) : Cond) ∈ lwG := (List.mem_of_getElem? (i := 400) (by decide +kernel))
theorem ln_el0_5 : (Cond.eq (.elem (.field (.string "SiblingJoins$Part" 46) "java/lang/String" "value" "[B") (.int 5)) (.int 50) : Cond) ∈ lwG := (List.mem_of_getElem? (i := 401) (by decide +kernel))
theorem ln_el0_6 : (Cond.eq (.elem (.field (.string "SiblingJoins$Part" 46) "java/lang/String" "value" "[B") (.int 6)) (.int 61) : Cond) ∈ lwG := (List.mem_of_getElem? (i := 402) (by decide +kernel))
theorem ln_el0_7 : (Cond.eq (.elem (.field (.string "SiblingJoins$Part" 46) "java/lang/String" "value" "[B") (.int 7)) (.int 57) : Cond) ∈ lwG := (List.mem_of_getElem? (i := 403) (by decide +kernel))
theorem ln_co1 : (Cond.eq (.field (.string "SiblingJoins$Part" 48) "java/lang/String" "coder" "B") (.int 0) : Cond) ∈ lwG := (List.mem_of_getElem? (i := 415) (by decide +kernel))
theorem ln_ar1 : (Cond.arrayOf (.field (.string "SiblingJoins$Part" 48) "java/lang/String" "value" "[B") .byte : Cond) ∈ lwG := (List.mem_of_getElem? (i := 416) (by decide +kernel))
theorem ln_le1 : (Cond.eq (.length (.field (.string "SiblingJoins$Part" 48) "java/lang/String" "value" "[B")) (.int 6) : Cond) ∈ lwG := (List.mem_of_getElem? (i := 417) (by decide +kernel))
theorem ln_el1_0 : (Cond.eq (.elem (.field (.string "SiblingJoins$Part" 48) "java/lang/String" "value" "[B") (.int 0)) (.int 114) : Cond) ∈ lwG := (List.mem_of_getElem? (i := 418) (by decide +kernel))
theorem ln_el1_1 : (Cond.eq (.elem (.field (.string "SiblingJoins$Part" 48) "java/lang/String" "value" "[B") (.int 1)) (.int 52) : Cond) ∈ lwG := (List.mem_of_getElem? (i := 419) (by decide +kernel))
theorem ln_el1_2 : (Cond.eq (.elem (.field (.string "SiblingJoins$Part" 48) "java/lang/String" "value" "[B") (.int 2)) (.int 107) : Cond) ∈ lwG := (List.mem_of_getElem? (i := 420) (by decide +kernel))
theorem ln_el1_3 : (Cond.eq (.elem (.field (.string "SiblingJoins$Part" 48) "java/lang/String" "value" "[B") (.int 3)) (.int 50) : Cond) ∈ lwG := (List.mem_of_getElem? (i := 421) (by decide +kernel))
theorem ln_el1_4 : (Cond.eq (.elem (.field (.string "SiblingJoins$Part" 48) "java/lang/String" "value" "[B") (.int 4)) (.int 115) : Cond) ∈ lwG := (List.mem_of_getElem? (i := 422) (by decide +kernel))
theorem ln_el1_5 : (Cond.eq (.elem (.field (.string "SiblingJoins$Part" 48) "java/lang/String" "value" "[B") (.int 5)) (.int 50) : Cond) ∈ lwG := (List.mem_of_getElem? (i := 423) (by decide +kernel))
theorem ln_ne : (Cond.not (.eq (.string "SiblingJoins$Part" 46) (.string "SiblingJoins$Part" 48)) : Cond) ∈ lwG := (List.mem_of_getElem? (i := 434) (by decide +kernel))
theorem ln_cs : (Cond.eq (.static "java/lang/String" "COMPACT_STRINGS" "Z") (.int 1) : Cond) ∈ lwG := (List.mem_of_getElem? (i := 6) (by decide +kernel))
theorem ln_pre : (Cond.isRef (.static "jdk/internal/util/Preconditions" "SIOOBE_FORMATTER" "Ljava/util/function/BiFunction;") : Cond) ∈ lwG := (List.mem_of_getElem? (i := 7) (by decide +kernel))
theorem ln_un : (Cond.isRef (.static "java/lang/Throwable" "UNASSIGNED_STACK" "[Ljava/lang/StackTraceElement;") : Cond) ∈ lwG := (List.mem_of_getElem? (i := 4) (by decide +kernel))
theorem ln_su : (Cond.isRef (.static "java/lang/Throwable" "SUPPRESSED_SENTINEL" "Ljava/util/List;") : Cond) ∈ lwG := (List.mem_of_getElem? (i := 5) (by decide +kernel))
theorem ln_nc0 : (Cond.not (.castable "java/lang/IllegalArgumentException" "java/lang/IndexOutOfBoundsException") : Cond) ∈ lwG := (List.mem_of_getElem? (i := 16) (by decide +kernel))
theorem ln_nc1 : (Cond.not (.castable "java/lang/IllegalStateException" "java/lang/IndexOutOfBoundsException") : Cond) ∈ lwG := (List.mem_of_getElem? (i := 17) (by decide +kernel))
theorem ln_nc2 : (Cond.not (.castable "java/lang/IllegalStateException" "java/lang/IllegalArgumentException") : Cond) ∈ lwG := (List.mem_of_getElem? (i := 24) (by decide +kernel))
theorem gNest_at {s : State} {args : Array Value} (hts : ∀ w ∈ lw_tbl, w.before args s = true) : ∀ w ∈ gNest, va_Nw w s := by
  intro w hw
  simp only [gNest, List.mem_cons, List.not_mem_nil, or_false] at hw
  rcases hw with rfl | rfl | rfl | rfl | rfl | rfl | rfl | rfl | rfl | rfl | rfl | rfl | rfl | rfl | rfl | rfl
  · exact va_Nw.of rfl (hts _ (lw_mem 111 (by decide +kernel)))
  · exact va_Nw.of rfl (hts _ (lw_mem 396 (by decide +kernel)))
  · exact va_Nw.of rfl (hts _ (lw_mem 429 (by decide +kernel)))
  · exact va_Nw.of rfl (hts _ (lw_mem 535 (by decide +kernel)))
  · exact va_Nw.of rfl (hts _ (lw_mem 381 (by decide +kernel)))
  · exact va_Nw.of rfl (hts _ (lw_mem 44 (by decide +kernel)))
  · exact va_Nw.of rfl (hts _ (lw_mem 267 (by decide +kernel)))
  · exact va_Nw.of rfl (hts _ (lw_mem 406 (by decide +kernel)))
  · exact va_Nw.of rfl (hts _ (lw_mem 407 (by decide +kernel)))
  · exact va_Nw.of rfl (hts _ (lw_mem 414 (by decide +kernel)))
  · exact va_Nw.of rfl (hts _ (lw_mem 173 (by decide +kernel)))
  · exact va_Nw.of rfl (hts _ (lw_mem 310 (by decide +kernel)))
  · exact va_Nw.of rfl (hts _ (lw_mem 287 (by decide +kernel)))
  · exact va_Nw.of rfl (hts _ (lw_mem 175 (by decide +kernel)))
  · exact va_Nw.of rfl (hts _ (lw_mem 177 (by decide +kernel)))
  · exact va_Nw.of rfl (hts _ (lw_mem 179 (by decide +kernel)))
theorem gStr_ad {s : State} {args : Array Value} (hs : ∀ w ∈ lwG, w.before args s = true) : ∃ ad : Nat → Nat, ∀ (i : Nat) (q : String × Nat × String), gStr[i]? = some q → (Term.string q.1 q.2.1).eval args s none [] s = some (.ref (ad i)) := by
  have h0 : ∀ i : Nat, ∃ a : Nat, ∀ q : String × Nat × String, gStr[i]? = some q → (Term.string q.1 q.2.1).eval args s none [] s = some (.ref a) := by
    have hx : ∀ (own : String) (k : Nat), (Cond.exactly (.string own k) "java/lang/String" : Cond) ∈ lwG → ∃ a : Nat, (Term.string own k).eval args s none [] s = some (.ref a) := fun own k hw => by
      obtain ⟨a, c, cA, kA, q1, -⟩ := Cond.exactly_spec (args := args) (first := s) (o := none) (s := s) (idx := []) (t := .string own k) (cls := "java/lang/String") (hs _ hw)
      exact ⟨a, q1⟩
    intro i
    match i with
    | 0 =>
      obtain ⟨a, ha⟩ := hx _ _ ln_ex0
      exact ⟨a, fun q hq => by cases hq; exact ha⟩
    | 1 =>
      obtain ⟨a, ha⟩ := hx _ _ ln_ex1
      exact ⟨a, fun q hq => by cases hq; exact ha⟩
    | 2 =>
      obtain ⟨a, ha⟩ := hx _ _ ln_ex2
      exact ⟨a, fun q hq => by cases hq; exact ha⟩
    | 3 =>
      obtain ⟨a, ha⟩ := hx _ _ ln_ex3
      exact ⟨a, fun q hq => by cases hq; exact ha⟩
    | 4 =>
      obtain ⟨a, ha⟩ := hx _ _ ln_ex4
      exact ⟨a, fun q hq => by cases hq; exact ha⟩
    | 5 =>
      obtain ⟨a, ha⟩ := hx _ _ ln_ex5
      exact ⟨a, fun q hq => by cases hq; exact ha⟩
    | 6 =>
      obtain ⟨a, ha⟩ := hx _ _ ln_ex6
      exact ⟨a, fun q hq => by cases hq; exact ha⟩
    | 7 =>
      obtain ⟨a, ha⟩ := hx _ _ ln_ex7
      exact ⟨a, fun q hq => by cases hq; exact ha⟩
    | 8 =>
      obtain ⟨a, ha⟩ := hx _ _ ln_ex8
      exact ⟨a, fun q hq => by cases hq; exact ha⟩
    | 9 =>
      obtain ⟨a, ha⟩ := hx _ _ ln_ex9
      exact ⟨a, fun q hq => by cases hq; exact ha⟩
    | 10 =>
      obtain ⟨a, ha⟩ := hx _ _ ln_ex10
      exact ⟨a, fun q hq => by cases hq; exact ha⟩
    | 11 =>
      obtain ⟨a, ha⟩ := hx _ _ ln_ex11
      exact ⟨a, fun q hq => by cases hq; exact ha⟩
    | 12 =>
      obtain ⟨a, ha⟩ := hx _ _ ln_ex12
      exact ⟨a, fun q hq => by cases hq; exact ha⟩
    | i + 13 => exact ⟨0, fun q hq => by simp [gStr] at hq⟩
  exact Classical.axiomOfChoice h0
theorem gStr_R {s : State} {args : Array Value} {ad : Nat → Nat} (hts : ∀ w ∈ lw_tbl, w.before args s = true) (had : ∀ (i : Nat) (q : String × Nat × String), gStr[i]? = some q → (Term.string q.1 q.2.1).eval args s none [] s = some (.ref (ad i))) : ∀ (i : Nat) (q : String × Nat × String), gStr[i]? = some q → vk_R q.1 q.2.1 q.2.2 (ad i) s := by
  intro i q hq
  refine vk_R.of (A := args) ?_ (had i q hq)
  match i, hq with
  | 0, hq => cases hq; exact hts _ (lw_mem 592 (by decide +kernel))
  | 1, hq => cases hq; exact hts _ (lw_mem 593 (by decide +kernel))
  | 2, hq => cases hq; exact hts _ (lw_mem 553 (by decide +kernel))
  | 3, hq => cases hq; exact hts _ (lw_mem 562 (by decide +kernel))
  | 4, hq => cases hq; exact hts _ (lw_mem 563 (by decide +kernel))
  | 5, hq => cases hq; exact hts _ (lw_mem 652 (by decide +kernel))
  | 6, hq => cases hq; exact hts _ (lw_mem 294 (by decide +kernel))
  | 7, hq => cases hq; exact hts _ (lw_mem 212 (by decide +kernel))
  | 8, hq => cases hq; exact hts _ (lw_mem 317 (by decide +kernel))
  | 9, hq => cases hq; exact hts _ (lw_mem 518 (by decide +kernel))
  | 10, hq => cases hq; exact hts _ (lw_mem 489 (by decide +kernel))
  | 11, hq => cases hq; exact hts _ (lw_mem 524 (by decide +kernel))
  | 12, hq => cases hq; exact hts _ (lw_mem 540 (by decide +kernel))
  | i + 13, hq => simp [gStr] at hq
theorem gStr_S {s : State} {args : Array Value} {ad : Nat → Nat} {A : Nat → Prop} (hs : ∀ w ∈ lwG, w.before args s = true) (had : ∀ (i : Nat) (q : String × Nat × String), gStr[i]? = some q → (Term.string q.1 q.2.1).eval args s none [] s = some (.ref (ad i))) (hA : ∀ a : Nat, a < s.heap.size → ¬ A a) : ∃ adV : Nat → Nat, vk_S 2 gLen gByt ad adV A s s.heap := by
  obtain ⟨adK, adV, h1, h2⟩ := vk_Sof (args := args) (s := s) (N := 2) (tm := (fun i : Nat => if i = 0 then Term.string "SiblingJoins$Part" 46 else Term.string "SiblingJoins$Part" 48)) (len := gLen) (byt := gByt) (A := A)
    (fun i hi => by
      rcases (show i = 0 ∨ i = 1 by omega) with rfl | rfl <;> decide)
    (fun i hi => by
      rcases (show i = 0 ∨ i = 1 by omega) with rfl | rfl
      · exact hs _ ln_ex0
      · exact hs _ ln_ex1)
    (fun i hi => by
      rcases (show i = 0 ∨ i = 1 by omega) with rfl | rfl
      · exact hs _ ln_co0
      · exact hs _ ln_co1)
    (fun i hi => by
      rcases (show i = 0 ∨ i = 1 by omega) with rfl | rfl
      · exact hs _ ln_ar0
      · exact hs _ ln_ar1)
    (fun i hi => by
      rcases (show i = 0 ∨ i = 1 by omega) with rfl | rfl
      · exact hs _ ln_le0
      · exact hs _ ln_le1)
    (fun i hi j hj => by
      rcases (show i = 0 ∨ i = 1 by omega) with rfl | rfl
      · have hj : j < 8 := hj
        rcases (show j = 0 ∨ j = 1 ∨ j = 2 ∨ j = 3 ∨ j = 4 ∨ j = 5 ∨ j = 6 ∨ j = 7 by omega) with rfl | rfl | rfl | rfl | rfl | rfl | rfl | rfl
        · exact hs _ ln_el0_0
        · exact hs _ ln_el0_1
        · exact hs _ ln_el0_2
        · exact hs _ ln_el0_3
        · exact hs _ ln_el0_4
        · exact hs _ ln_el0_5
        · exact hs _ ln_el0_6
        · exact hs _ ln_el0_7
      · have hj : j < 6 := hj
        rcases (show j = 0 ∨ j = 1 ∨ j = 2 ∨ j = 3 ∨ j = 4 ∨ j = 5 by omega) with rfl | rfl | rfl | rfl | rfl | rfl
        · exact hs _ ln_el1_0
        · exact hs _ ln_el1_1
        · exact hs _ ln_el1_2
        · exact hs _ ln_el1_3
        · exact hs _ ln_el1_4
        · exact hs _ ln_el1_5)
    (fun i j hi hj hij => by
      rcases (show i = 0 ∨ i = 1 by omega) with rfl | rfl
      · rcases (show j = 0 ∨ j = 1 by omega) with rfl | rfl
        · exact absurd rfl hij
        · exact Or.inl (hs _ ln_ne)
      · rcases (show j = 0 ∨ j = 1 by omega) with rfl | rfl
        · exact Or.inr (hs _ ln_ne)
        · exact absurd rfl hij) hA
  have e : ∀ i : Nat, i < 2 → adK i = ad i := by
    intro i hi
    rcases (show i = 0 ∨ i = 1 by omega) with rfl | rfl
    · have z1 := h2 0 (by decide)
      have z2 := had 0 _ rfl
      exact Value.ref.inj (Option.some.inj (z1.symm.trans z2))
    · have z1 := h2 1 (by decide)
      have z2 := had 1 _ rfl
      exact Value.ref.inj (Option.some.inj (z1.symm.trans z2))
  exact ⟨adV, fun i hi => by rw [← e i hi]; exact h1.1 i hi, fun i j hi hj hij => h1.2 i j hi hj (by rw [e i hi, e j hj]; exact hij)⟩
theorem gX_at (l : Launch) {s : State} {args : Array Value} (hts : ∀ w ∈ lw_tbl, w.before args s = true) (hs : ∀ w ∈ lwG, w.before args s = true) : ∃ E : gEnv, E.1 = l ∧ gB E = s.heap.size ∧ gX E s s.heap := by
  obtain ⟨c0, i0, k0⟩ := u_known (C := RX0) (T := TX0) (N := 4) (n := 4) (fun w hw => hts w (wsG_in w hw)) gly_RX0 (hts _ (wsG_in _ gin_RX0))
  obtain ⟨c1, i1, k1⟩ := u_known (C := RX1) (T := TX1) (N := 3) (n := 3) (fun w hw => hts w (wsG_in w hw)) gly_RX1 (hts _ (wsG_in _ gin_RX1))
  obtain ⟨c2, i2, k2⟩ := u_known (C := RX2) (T := TX2) (N := 6) (n := 6) (fun w hw => hts w (wsG_in w hw)) gly_RX2 (hts _ (wsG_in _ gin_RX2))
  obtain ⟨c3, i3, k3⟩ := u_known (C := RX3) (T := TX3) (N := 6) (n := 6) (fun w hw => hts w (wsG_in w hw)) gly_RX3 (hts _ (wsG_in _ gin_RX3))
  obtain ⟨c4, i4, k4⟩ := u_known (C := RX4) (T := TX4) (N := 7) (n := 7) (fun w hw => hts w (wsG_in w hw)) gly_RX4 (hts _ (wsG_in _ gin_RX4))
  obtain ⟨a0, a01, a02⟩ := gx_int (hts _ (wsG_in _ gw_ai))
  obtain ⟨a1, a11, a12⟩ := gx_arr (ty := .int) (hts _ (lw_mem 42 (by decide +kernel)))
  obtain ⟨a2, a21, a22⟩ := gx_obj (C := "SiblingJoins$Copy") (hts _ (lw_mem 40 (by decide +kernel)))
  obtain ⟨a3, a31, a32⟩ := gx_obj (C := "SiblingJoins$KeyState") (hts _ (lw_mem 33 (by decide +kernel)))
  obtain ⟨a4, a41, a42⟩ := gx_obj (C := "SiblingJoins$State") (hts _ (lw_mem 108 (by decide +kernel)))
  obtain ⟨a5, a51, a52⟩ := gx_int (hts _ (wsG_in _ gw_al))
  obtain ⟨ad, had⟩ := gStr_ad hs
  have hA : ∀ a : Nat, a < s.heap.size → ¬ s.heap.size ≤ a := fun a h => Nat.not_le.mpr h
  obtain ⟨adV, hS⟩ := gStr_S (A := fun q => s.heap.size ≤ q) hs had hA
  let dC : Nat → ClassId := fun k => if k = 0 then c0 else if k = 1 then c1 else if k = 2 then c2 else if k = 3 then c3 else c4
  let dI : Nat → Nat → Nat := fun k => if k = 0 then i0 else if k = 1 then i1 else if k = 2 then i2 else if k = 3 then i3 else i4
  let tC : Nat → ClassId := fun k => if k = 0 then a0 else if k = 1 then a1 else if k = 2 then a2 else if k = 3 then a3 else if k = 4 then a4 else a5
  refine ⟨(l, (dC, dI), tC, s.heap.size, ad, adV), rfl, rfl, ⟨?_, ?_⟩, gNest_at hts, gStr_R hts had, ?_, ?_, hS, ?_, ?_, ?_⟩
  · intro c q hq
    match c, hq with
    | 0, hq => cases hq; exact k0
    | 1, hq => cases hq; exact k1
    | 2, hq => cases hq; exact k2
    | 3, hq => cases hq; exact k3
    | 4, hq => cases hq; exact k4
    | c + 5, hq => simp [vwCl] at hq
  · intro k q hq
    match k, hq with
    | 0, hq => cases hq; exact ⟨a01, a02⟩
    | 1, hq => cases hq; exact ⟨a11, a12⟩
    | 2, hq => cases hq; exact ⟨a21, a22⟩
    | 3, hq => cases hq; exact ⟨a31, a32⟩
    | 4, hq => cases hq; exact ⟨a41, a42⟩
    | 5, hq => cases hq; exact ⟨a51, a52⟩
    | k + 6, hq => simp [gTys] at hq
  · exact vx_Zqof (hts _ (lw_mem 198 (by decide +kernel))) (hts _ (lw_mem 6 (by decide +kernel))) (hs _ ln_un) hA
  · exact vx_Zqof (hts _ (lw_mem 200 (by decide +kernel))) (hts _ (lw_mem 6 (by decide +kernel))) (hs _ ln_su) hA
  · exact va_Zof (hts _ (lw_mem 603 (by decide +kernel))) (hts _ (lw_mem 14 (by decide +kernel))) (va_eqt (hs _ ln_cs)) hA
  · exact va_Zqof (hts _ (lw_mem 624 (by decide +kernel))) (hts _ (lw_mem 16 (by decide +kernel))) (hs _ ln_pre) hA
  · refine ⟨va_AO.of (hts (.arrayOver (.object "SiblingJoins$Copy")) (lw_mem 40 (by decide +kernel))), va_AO.of (hts (.arrayOver (.object "SiblingJoins$KeyState")) (lw_mem 33 (by decide +kernel))), va_AO.of (hts (.arrayOver (.object "SiblingJoins$State")) (lw_mem 108 (by decide +kernel))), hts (.arrayOver (.array .int)) (lw_mem 42 (by decide +kernel)), fun q hq => ?_⟩
    simp only [gNc, List.mem_cons, List.not_mem_nil, or_false] at hq
    rcases hq with rfl | rfl | rfl
    · exact va_Nc.of (hs _ ln_nc0)
    · exact va_Nc.of (hs _ ln_nc1)
    · exact va_Nc.of (hs _ ln_nc2)
