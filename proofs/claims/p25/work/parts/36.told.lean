/-! the law's part, drawn, call, told -/
section GTO
variable {E : gEnv} {F : gFr} {t : gMt} {Q : State → Prop} {n : Nat} {σ : Option Nat} {h : gH} {kc ks pc pc' : Nat} {L : List (Nat × Value)} {st : List Value}
theorem g_ixor {x y v : Int32} (pc' : Nat) (C : gC E F t) (hd : decode (gCode t) pc = .ok (.ixor, 1)) (hv : x ^^^ y = v) (hp : pc + 1 = pc') (k : G E F t Q n σ h kc ks pc' L (.int v :: st)) : G E F t Q n σ h kc ks pc L (.int y :: .int x :: st) := by
  subst hp
  subst hv
  intro H locs ls a1 a3 a4 a5
  exact lv_ixor C.1 C.2.1 hd (k H locs ls a1 a3 a4 a5)
theorem g_ldci {v : Int32} {index : Nat} (pc' : Nat) (C : gC E F t) (hd : decode (gCode t) pc = .ok (.ldc index, 2)) (hc : Cond.constant t.1.cls index v ∈ wsG) (hp : pc + 2 = pc') (k : G E F t Q n σ h kc ks pc' L (.int v :: st)) : G E F t Q n σ h kc ks pc L st := by
  subst hp
  intro H locs ls a1 a3 a4 a5
  exact lv_ldc C.1 C.2.1 C.2.2.2.1 (C.2.2.2.2.1 _ hc) hd (k H locs ls a1 a3 a4 a5)
end GTO
theorem ldc_7 : Cond.constant RL 7 (2147483647 : Int32) ∈ wsG := wsG_of 466 (by decide +kernel) rfl
theorem ldc_8 : Cond.constant RL 8 (2654435 : Int32) ∈ wsG := wsG_of 470 (by decide +kernel) rfl
/-- a part of a drawn number -/
def prt (v : Int32) (m : Int) : Int := (v &&& 2147483647).toInt % m
theorem and_nn (v : Int32) : 0 ≤ (v &&& 2147483647).toInt := by
  have h : ((v &&& 2147483647).toBitVec).msb = false := by
    rw [Int32.toBitVec_and, BitVec.msb_and]
    have : (2147483647 : Int32).toBitVec.msb = false := by decide
    rw [this, Bool.and_false]
  show 0 ≤ (v &&& 2147483647).toBitVec.toInt
  rw [BitVec.toInt_eq_toNat_of_msb h]
  exact Int.natCast_nonneg _
theorem prt_r (v : Int32) {m : Int} (hm : 0 < m) : 0 ≤ prt v m ∧ prt v m < m := ⟨Int.emod_nonneg _ (by omega), Int.emod_lt_of_pos _ hm⟩
theorem c_L_part {E : gEnv} {n : Nat} {σ : Option Nat} {h : gH} (v : Int32) (m : Int) (hm : 0 < m ∧ m < 2147483648) : gM E mL_part [.int v, .int (gi m)] n σ h (gD (some (.int (gi (prt v m)))) n σ (fun h9 => h9 = h)) gNo := by
  refine gM_of (by decide) (Nat.le_of_ble_eq_true rfl) (fun F C => ?_)
  refine g_iload_n 1 C dL_part_0 rfl rfl ?_
  refine g_ldci 3 C dL_part_1 ldc_7 rfl ?_
  refine g_iand 4 C dL_part_3 (gi_asI (v &&& 2147483647)) rfl ?_
  refine g_iload_n 5 C dL_part_4 rfl rfl ?_
  refine g_irem 6 C dL_part_5 ⟨and_nn v, Int32.toInt_lt _⟩ hm rfl ?_
  exact g_iret C dL_part_6 rfl ⟨by decide, by decide⟩ ⟨rfl, rfl, rfl, rfl⟩
/-- a contract of a method that reads the script -/
def gMX (E : gEnv) (t : gMt) (b Ls : Nat) (xs : Nat → Int32) (av : List Value) (n : Nat) (σ : Option Nat) (h : gH) (QR : gQt) (QX : String → gH → Prop) : Prop :=
  vx_Met E.1 t.1 (.code t.1 (gCode t) (gMax t) (gRet t) :: wsG) (gRm t) (va_Pc av (fun U => gW E n σ h U ∧ va_X b Ls xs U U.heap ∧ b < gB E)) (gQc E QR) (gXC E n QX) (gMc t) (gMs t) (gA E)
theorem gMX_of {E : gEnv} {t : gMt} {b Ls : Nat} {xs : Nat → Int32} {av : List Value} {n : Nat} {σ : Option Nat} {h : gH} {QR : gQt} {QX : String → gH → Prop} (hy : plainName t.1.cls = true) (hlen : (lg_sl av).length ≤ gMax t)
    (body : ∀ F : gFr, gC E F t → va_X b Ls xs F.2.2.1 F.2.2.1.heap → b < gB E → G E F t (gQ E F t n QR QX) n σ h 0 0 0 (lv_args 0 av) []) : gMX E t b Ls xs av n σ h QR QX := by
  refine vx_ofW (cc := gCode t) (maxL := gMax t) (ret := gRet t) hy rfl ?_
  intro p e s m args below meth c s₁ B hml ht hv
  obtain ⟨rfl, ⟨hsz, hbn, hP, hX⟩, hS, hb⟩ := hv
  have hts := atoms_spec (ws := .code t.1 (gCode t) (gMax t) (gRet t) :: wsG) B.pre
  have hl := lv_entry av (n := gMax t) hlen
  rw [lg_entry_eq]
  exact body (p, e, s, m, av.toArray, below, meth, c) ⟨B.exec, B.bytes, hml, findClass_of_methodNamed B.named, fun w hw => hts w (List.mem_cons_of_mem _ hw), hX, B.notSynchronized, B.returns, hbn, ht, (name_of_methodNamed B.named B.method).1⟩ hS hb s.heap [] _ hsz hP va_S.rf hl
theorem c_L_drawn {E : gEnv} {n b Ls : Nat} {xs : Nat → Int32} {σ : Option Nat} {h : gH} (k : Int) (hk : 0 ≤ k ∧ k < 1000) (hL : Ls < 2147483648) : gMX E mL_drawn b Ls xs [.ref b, .int (gi k)] n σ h (fun v n' σ' h' => (∃ d : Int32, v = some (.int d)) ∧ n' = n ∧ σ' = σ ∧ h' = h) gNo := by
  refine gMX_of (by decide) (Nat.le_of_ble_eq_true rfl) (fun F C hX hb => ?_)
  have hbl : b < F.2.2.1.heap.size := Nat.lt_of_lt_of_le hb C.2.2.2.2.2.2.2.2.1
  have hbA : ¬ gA E b := Nat.not_le.mpr hb
  refine g_aload_n 1 C dL_drawn_0 rfl rfl ?_
  refine g_xlen 2 C hX hbl hbA dL_drawn_1 rfl ?_
  refine g_if_ne 15 5 C dL_drawn_2 rfl rfl (by omega) (fun c2 => ?_) (fun c2 => ?_)
  · refine g_aload_n 16 C dL_drawn_15 rfl rfl ?_
    refine g_iload_n 17 C dL_drawn_16 rfl rfl ?_
    refine g_aload_n 18 C dL_drawn_17 rfl rfl ?_
    refine g_xlen 19 C hX hbl hbA dL_drawn_18 rfl ?_
    refine g_irem 20 C dL_drawn_19 (by omega) (by omega) rfl ?_
    have hm : 0 ≤ k % (Ls : Int) ∧ k % (Ls : Int) < (Ls : Int) := ⟨Int.emod_nonneg _ (by omega), Int.emod_lt_of_pos _ (by omega)⟩
    refine g_xld 21 C hX hbl hbA dL_drawn_20 hm hL rfl ?_
    refine g_iload_n 22 C dL_drawn_21 rfl rfl ?_
    refine g_bipush 24 C dL_drawn_22 (by decide) rfl ?_
    refine g_irem 25 C dL_drawn_24 (by omega) (by omega) rfl ?_
    refine g_ishr 26 C dL_drawn_25 rfl rfl ?_
    refine g_iload_n 27 C dL_drawn_26 rfl rfl ?_
    refine g_aload_n 28 C dL_drawn_27 rfl rfl ?_
    refine g_xlen 29 C hX hbl hbA dL_drawn_28 rfl ?_
    refine g_idiv 30 C dL_drawn_29 (by omega) (by omega) rfl ?_
    refine g_bipush 32 C dL_drawn_30 (by decide) rfl ?_
    refine g_imul 33 C dL_drawn_32 rfl ?_
    refine g_ixor 34 C dL_drawn_33 rfl rfl ?_
    refine g_iload_n 35 C dL_drawn_34 rfl rfl ?_
    refine g_ldci (v := gi 2654435) 37 C dL_drawn_35 ldc_8 rfl ?_
    refine g_imul 38 C dL_drawn_37 rfl ?_
    refine g_ixor 39 C dL_drawn_38 rfl rfl ?_
    exact g_iret C dL_drawn_39 rfl ⟨by decide, by decide⟩ ⟨⟨_, rfl⟩, rfl, rfl, rfl⟩
  · refine g_sipush 8 C dL_drawn_5 (by decide) rfl ?_
    refine g_iload_n 9 C dL_drawn_8 rfl rfl ?_
    refine g_imul 10 C dL_drawn_9 rfl ?_
    refine g_iconst 11 C dL_drawn_10 rfl ?_
    refine g_iadd 12 C dL_drawn_11 rfl ?_
    refine g_goto 39 C dL_drawn_12 rfl ?_
    exact g_iret C dL_drawn_39 rfl ⟨by decide, by decide⟩ ⟨⟨_, rfl⟩, rfl, rfl, rfl⟩
/-- the law's codes of throws -/
def xOf (k : Int) : String := if k = -11 then xIO else if k = -12 then xIA else xIS
def cCd (p q r : Int) (O : gOut) : gOut := (if O.1 = 0 then 0 else if O.1 = 1 then p else if O.1 = 2 then q else r, O.2)
theorem cCd_x {E : gEnv} {h h9 : gH} {x : Nat} {X : String} {p q r : Int} {O R : gOut} {A B C : String} (e : R = cCd p q r O) (hp : xOf p = A ∧ p ≠ 0) (hq : xOf q = B ∧ q ≠ 0) (hr : xOf r = C ∧ r ≠ 0) (z : gXT E h x (exc A B C) O X h9) : gXT E h x xOf R X h9 := by
  subst e
  obtain ⟨z1, z2, z3, z4⟩ := z
  have e : X = xOf (cCd p q r O).1 ∧ (cCd p q r O).1 ≠ 0 := by
    unfold cCd
    simp only [if_neg z2]
    rw [z1]
    unfold exc
    by_cases h1 : O.1 = 1
    · simp only [if_pos h1]
      exact ⟨hp.1.symm, hp.2⟩
    · simp only [if_neg h1]
      by_cases h2 : O.1 = 2
      · simp only [if_pos h2]
        exact ⟨hq.1.symm, hq.2⟩
      · simp only [if_neg h2]
        exact ⟨hr.1.symm, hr.2⟩
  exact ⟨e.1, e.2, z3, z4⟩
theorem cCd_r {E : gEnv} {h h9 : gH} {x n : Nat} {p q r : Int} {O R : gOut} (e : R = cCd p q r O) (z : O.1 = 0 ∧ isJ E h9 x O.2.2 ∧ gKp x (x + 524) h h9) : gRT E h x n R (some (.int (gi O.2.1))) n none h9 := by
  subst e
  refine ⟨rfl, rfl, rfl, ?_, z.2⟩
  unfold cCd
  exact if_pos z.1
theorem cCd_c (p q r : Int) (O : gOut) : (cCd p q r O).1 = 0 ∨ (cCd p q r O).1 = p ∨ (cCd p q r O).1 = q ∨ (cCd p q r O).1 = r := by
  unfold cCd
  simp only
  split
  · exact Or.inl rfl
  · split
    · exact Or.inr (Or.inl rfl)
    · split
      · exact Or.inr (Or.inr (Or.inl rfl))
      · exact Or.inr (Or.inr (Or.inr rfl))

def oCall (T : gTt) (which a b c d : Int) : gOut := if which = 0 then cCd (-11) (-11) (-11) (oRead T a b c) else if which = 1 then cCd (-11) (-12) (-13) (oWrite T a b c d) else if which = 2 then cCd (-11) (-12) (-13) (oPull T a b c) else if which = 3 then cCd (-11) (-12) (-13) (oJoin T a b c d) else if which = 4 then cCd (-11) (-11) (-11) (oLose T a b) else if which = 5 then cCd (-11) (-13) (-13) (oForget T a b) else if which = 6 then cCd (-12) (-13) (-13) (oAppend T a) else if which = 7 then cCd (-12) (-12) (-12) (oRunAll T) else if which = 8 then cCd (-13) (-13) (-13) (oUndo T) else if which = 9 then cCd (-11) (-12) (-12) (oSibling T a b c d) else if which = 10 then cCd (-11) (-11) (-11) (oVector T a b c) else if which = 11 then cCd (-11) (-11) (-11) (oKnows T a b c) else if which = 12 then cCd (-11) (-12) (-12) (oKey T a b) else if which = 13 then cCd (-12) (-12) (-12) (oCount T a) else if which = 14 then cCd (-11) (-12) (-12) (oIfW T a b c d) else if which = 15 then cCd (-11) (-12) (-12) (oIfP T a b c d) else if which = 16 then cCd (-11) (-11) (-11) (oWhy T a b) else cCd (-13) (-13) (-13) (oPullAll T)
def cP (O : gOut) : Prop := O.1 = 0 ∨ O.1 = -11 ∨ O.1 = -12 ∨ O.1 = -13
def cQ (p : Int) : Prop := p = -11 ∨ p = -12 ∨ p = -13
theorem cCd_P {p q r : Int} {O : gOut} (hp : cQ p) (hq : cQ q) (hr : cQ r) : cP (cCd p q r O) := by
  unfold cQ at hp hq hr
  unfold cP
  rcases cCd_c p q r O with z | z | z | z
  · exact Or.inl z
  · exact Or.inr (by rw [z]; exact hp)
  · exact Or.inr (by rw [z]; exact hq)
  · exact Or.inr (by rw [z]; exact hr)
theorem cQ1 : cQ (-11) := Or.inl rfl
theorem cQ2 : cQ (-12) := Or.inr (Or.inl rfl)
theorem cQ3 : cQ (-13) := Or.inr (Or.inr rfl)
theorem oCall_c (T : gTt) (which a b c d : Int) : cP (oCall T which a b c d) := by
  unfold oCall
  by_cases h0 : which = 0
  · rw [if_pos h0]; exact cCd_P cQ1 cQ1 cQ1
  rw [if_neg h0]
  by_cases h1 : which = 1
  · rw [if_pos h1]; exact cCd_P cQ1 cQ2 cQ3
  rw [if_neg h1]
  by_cases h2 : which = 2
  · rw [if_pos h2]; exact cCd_P cQ1 cQ2 cQ3
  rw [if_neg h2]
  by_cases h3 : which = 3
  · rw [if_pos h3]; exact cCd_P cQ1 cQ2 cQ3
  rw [if_neg h3]
  by_cases h4 : which = 4
  · rw [if_pos h4]; exact cCd_P cQ1 cQ1 cQ1
  rw [if_neg h4]
  by_cases h5 : which = 5
  · rw [if_pos h5]; exact cCd_P cQ1 cQ3 cQ3
  rw [if_neg h5]
  by_cases h6 : which = 6
  · rw [if_pos h6]; exact cCd_P cQ2 cQ3 cQ3
  rw [if_neg h6]
  by_cases h7 : which = 7
  · rw [if_pos h7]; exact cCd_P cQ2 cQ2 cQ2
  rw [if_neg h7]
  by_cases h8 : which = 8
  · rw [if_pos h8]; exact cCd_P cQ3 cQ3 cQ3
  rw [if_neg h8]
  by_cases h9 : which = 9
  · rw [if_pos h9]; exact cCd_P cQ1 cQ2 cQ2
  rw [if_neg h9]
  by_cases h10 : which = 10
  · rw [if_pos h10]; exact cCd_P cQ1 cQ1 cQ1
  rw [if_neg h10]
  by_cases h11 : which = 11
  · rw [if_pos h11]; exact cCd_P cQ1 cQ1 cQ1
  rw [if_neg h11]
  by_cases h12 : which = 12
  · rw [if_pos h12]; exact cCd_P cQ1 cQ2 cQ2
  rw [if_neg h12]
  by_cases h13 : which = 13
  · rw [if_pos h13]; exact cCd_P cQ2 cQ2 cQ2
  rw [if_neg h13]
  by_cases h14 : which = 14
  · rw [if_pos h14]; exact cCd_P cQ1 cQ2 cQ2
  rw [if_neg h14]
  by_cases h15 : which = 15
  · rw [if_pos h15]; exact cCd_P cQ1 cQ2 cQ2
  rw [if_neg h15]
  by_cases h16 : which = 16
  · rw [if_pos h16]; exact cCd_P cQ1 cQ1 cQ1
  rw [if_neg h16]
  exact cCd_P cQ3 cQ3 cQ3
theorem oCall_0 (T : gTt) (a b c d : Int) : oCall T 0 a b c d = cCd (-11) (-11) (-11) (oRead T a b c) := rfl
theorem oCall_1 (T : gTt) (a b c d : Int) : oCall T 1 a b c d = cCd (-11) (-12) (-13) (oWrite T a b c d) := rfl
theorem oCall_2 (T : gTt) (a b c d : Int) : oCall T 2 a b c d = cCd (-11) (-12) (-13) (oPull T a b c) := rfl
theorem oCall_3 (T : gTt) (a b c d : Int) : oCall T 3 a b c d = cCd (-11) (-12) (-13) (oJoin T a b c d) := rfl
theorem oCall_4 (T : gTt) (a b c d : Int) : oCall T 4 a b c d = cCd (-11) (-11) (-11) (oLose T a b) := rfl
theorem oCall_5 (T : gTt) (a b c d : Int) : oCall T 5 a b c d = cCd (-11) (-13) (-13) (oForget T a b) := rfl
theorem oCall_6 (T : gTt) (a b c d : Int) : oCall T 6 a b c d = cCd (-12) (-13) (-13) (oAppend T a) := rfl
theorem oCall_7 (T : gTt) (a b c d : Int) : oCall T 7 a b c d = cCd (-12) (-12) (-12) (oRunAll T) := rfl
theorem oCall_8 (T : gTt) (a b c d : Int) : oCall T 8 a b c d = cCd (-13) (-13) (-13) (oUndo T) := rfl
theorem oCall_9 (T : gTt) (a b c d : Int) : oCall T 9 a b c d = cCd (-11) (-12) (-12) (oSibling T a b c d) := rfl
theorem oCall_10 (T : gTt) (a b c d : Int) : oCall T 10 a b c d = cCd (-11) (-11) (-11) (oVector T a b c) := rfl
theorem oCall_11 (T : gTt) (a b c d : Int) : oCall T 11 a b c d = cCd (-11) (-11) (-11) (oKnows T a b c) := rfl
theorem oCall_12 (T : gTt) (a b c d : Int) : oCall T 12 a b c d = cCd (-11) (-12) (-12) (oKey T a b) := rfl
theorem oCall_13 (T : gTt) (a b c d : Int) : oCall T 13 a b c d = cCd (-12) (-12) (-12) (oCount T a) := rfl
theorem oCall_14 (T : gTt) (a b c d : Int) : oCall T 14 a b c d = cCd (-11) (-12) (-12) (oIfW T a b c d) := rfl
theorem oCall_15 (T : gTt) (a b c d : Int) : oCall T 15 a b c d = cCd (-11) (-12) (-12) (oIfP T a b c d) := rfl
theorem oCall_16 (T : gTt) (a b c d : Int) : oCall T 16 a b c d = cCd (-11) (-11) (-11) (oWhy T a b) := rfl
theorem oCall_17 (T : gTt) (a b c d : Int) : oCall T 17 a b c d = cCd (-13) (-13) (-13) (oPullAll T) := rfl
set_option maxRecDepth 100000 in
set_option maxHeartbeats 4000000 in
theorem c_L_call {E : gEnv} {n : Nat} {σ : Option Nat} {h : gH} (x : Nat) (T : gTt) (which a b c d : Int) (hl : E.1.stackTraces = false) (hxb : gB E ≤ x ∧ x + 524 ≤ gB E + n) (hJ : isJ E h x T) (hok : okT T) (hwr : -2147483648 ≤ which ∧ which < 2147483648) (har : -2147483648 ≤ a ∧ a < 2147483648) (hbr : -2147483648 ≤ b ∧ b < 2147483648) (hcr : -2147483648 ≤ c ∧ c < 2147483648) (hdr : -2147483648 ≤ d ∧ d < 2147483648)  : gM E mL_call [.ref x, .int (gi which), .int (gi a), .int (gi b), .int (gi c), .int (gi d)] n none h (gRT E h x n (oCall T which a b c d)) (gXT E h x xOf (oCall T which a b c d)) := by
  have j1 := hJ.1
  unfold isJo at j1
  refine gM_of (by decide) (Nat.le_of_ble_eq_true rfl) (fun F C => ?_)
  refine g_iload_n 1 C dL_call_0 rfl rfl ?_
  have hwr9 := hwr
  by_cases z1_0 : which = 0
  · skip
    refine g_table 84 C dL_call_1 (by omega) (by omega) (by omega) (off := 83) (by rw [z1_0]; rfl) rfl ?_
    refine g_aload_n 85 C dL_call_84 rfl rfl ?_
    refine g_iload_n 86 C dL_call_85 rfl rfl ?_
    refine g_iload_n 87 C dL_call_86 rfl rfl ?_
    refine g_iload 89 C dL_call_87 rfl rfl ?_
    refine g_V3r 92 3 18 C dL_call_89 rfl lk_RL_9 gi_X4_read gv_X4_read ⟨_, _, rfl⟩ (by omega) j1 ⟨⟨by decide, by decide⟩, by decide, by decide⟩ (Nat.le_of_ble_eq_true rfl) rfl rfl rfl (c_X4_read (σ := none) x T a b c hl hxb hJ hok har hbr hcr) (g_thr (n0 := 0) (fun X h8 q8 => cCd_x (by rw [z1_0]; rfl) (by decide) (by decide) (by decide) q8)) (fun h9 e9 => ?_)
    skip
    exact g_iret C dL_call_92 rfl ⟨by decide, by decide⟩ (cCd_r (by rw [z1_0]; rfl) e9)
  by_cases z1_1 : which = 1
  · skip
    refine g_table 93 C dL_call_1 (by omega) (by omega) (by omega) (off := 92) (by rw [z1_1]; rfl) rfl ?_
    refine g_aload_n 94 C dL_call_93 rfl rfl ?_
    refine g_iload_n 95 C dL_call_94 rfl rfl ?_
    refine g_iload_n 96 C dL_call_95 rfl rfl ?_
    refine g_iload 98 C dL_call_96 rfl rfl ?_
    refine g_iload 100 C dL_call_98 rfl rfl ?_
    refine g_V4r 103 5 30 C dL_call_100 rfl lk_RL_15 gi_X4_write gv_X4_write ⟨_, _, rfl⟩ (by omega) j1 ⟨⟨by decide, by decide⟩, by decide, by decide⟩ (Nat.le_of_ble_eq_true rfl) rfl rfl rfl (c_X4_write (σ := none) x T a b c d hl hxb hJ hok har hbr hcr hdr) (g_thr (n0 := 0) (fun X h8 q8 => cCd_x (by rw [z1_1]; rfl) (by decide) (by decide) (by decide) q8)) (fun h9 e9 => ?_)
    skip
    exact g_iret C dL_call_103 rfl ⟨by decide, by decide⟩ (cCd_r (by rw [z1_1]; rfl) e9)
  by_cases z1_2 : which = 2
  · skip
    refine g_table 104 C dL_call_1 (by omega) (by omega) (by omega) (off := 103) (by rw [z1_2]; rfl) rfl ?_
    refine g_aload_n 105 C dL_call_104 rfl rfl ?_
    refine g_iload_n 106 C dL_call_105 rfl rfl ?_
    refine g_iload_n 107 C dL_call_106 rfl rfl ?_
    refine g_iload 109 C dL_call_107 rfl rfl ?_
    refine g_V3r 112 5 30 C dL_call_109 rfl lk_RL_19 gi_X4_pull gv_X4_pull ⟨_, _, rfl⟩ (by omega) j1 ⟨⟨by decide, by decide⟩, by decide, by decide⟩ (Nat.le_of_ble_eq_true rfl) rfl rfl rfl (c_X4_pull (σ := none) x T a b c hl hxb hJ hok har hbr hcr) (g_thr (n0 := 0) (fun X h8 q8 => cCd_x (by rw [z1_2]; rfl) (by decide) (by decide) (by decide) q8)) (fun h9 e9 => ?_)
    skip
    exact g_iret C dL_call_112 rfl ⟨by decide, by decide⟩ (cCd_r (by rw [z1_2]; rfl) e9)
  by_cases z1_3 : which = 3
  · skip
    refine g_table 113 C dL_call_1 (by omega) (by omega) (by omega) (off := 112) (by rw [z1_3]; rfl) rfl ?_
    refine g_aload_n 114 C dL_call_113 rfl rfl ?_
    refine g_iload_n 115 C dL_call_114 rfl rfl ?_
    refine g_iload_n 116 C dL_call_115 rfl rfl ?_
    refine g_iload 118 C dL_call_116 rfl rfl ?_
    refine g_iload 120 C dL_call_118 rfl rfl ?_
    refine g_V4r 123 5 30 C dL_call_120 rfl lk_RL_22 gi_X4_join gv_X4_join ⟨_, _, rfl⟩ (by omega) j1 ⟨⟨by decide, by decide⟩, by decide, by decide⟩ (Nat.le_of_ble_eq_true rfl) rfl rfl rfl (c_X4_join (σ := none) x T a b c d hl hxb hJ hok har hbr hcr hdr) (g_thr (n0 := 0) (fun X h8 q8 => cCd_x (by rw [z1_3]; rfl) (by decide) (by decide) (by decide) q8)) (fun h9 e9 => ?_)
    skip
    exact g_iret C dL_call_123 rfl ⟨by decide, by decide⟩ (cCd_r (by rw [z1_3]; rfl) e9)
  by_cases z1_4 : which = 4
  · skip
    refine g_table 124 C dL_call_1 (by omega) (by omega) (by omega) (off := 123) (by rw [z1_4]; rfl) rfl ?_
    refine g_aload_n 125 C dL_call_124 rfl rfl ?_
    refine g_iload_n 126 C dL_call_125 rfl rfl ?_
    refine g_iload_n 127 C dL_call_126 rfl rfl ?_
    refine g_V2r 130 2 12 C dL_call_127 rfl lk_RL_25 gi_X4_lose gv_X4_lose ⟨_, _, rfl⟩ (by omega) j1 ⟨⟨by decide, by decide⟩, by decide, by decide⟩ (Nat.le_of_ble_eq_true rfl) rfl rfl rfl (c_X4_lose (σ := none) x T a b hl hxb hJ hok har hbr) (g_thr (n0 := 0) (fun X h8 q8 => cCd_x (by rw [z1_4]; rfl) (by decide) (by decide) (by decide) q8)) (fun h9 e9 => ?_)
    skip
    exact g_iret C dL_call_130 rfl ⟨by decide, by decide⟩ (cCd_r (by rw [z1_4]; rfl) e9)
  by_cases z1_5 : which = 5
  · skip
    refine g_table 131 C dL_call_1 (by omega) (by omega) (by omega) (off := 130) (by rw [z1_5]; rfl) rfl ?_
    refine g_aload_n 132 C dL_call_131 rfl rfl ?_
    refine g_iload_n 133 C dL_call_132 rfl rfl ?_
    refine g_iload_n 134 C dL_call_133 rfl rfl ?_
    refine g_V2r 137 3 18 C dL_call_134 rfl lk_RL_29 gi_X4_forget gv_X4_forget ⟨_, _, rfl⟩ (by omega) j1 ⟨⟨by decide, by decide⟩, by decide, by decide⟩ (Nat.le_of_ble_eq_true rfl) rfl rfl rfl (c_X4_forget (σ := none) x T a b hl hxb hJ hok har hbr) (g_thr (n0 := 0) (fun X h8 q8 => cCd_x (by rw [z1_5]; rfl) (by decide) (by decide) (by decide) q8)) (fun h9 e9 => ?_)
    skip
    exact g_iret C dL_call_137 rfl ⟨by decide, by decide⟩ (cCd_r (by rw [z1_5]; rfl) e9)
  by_cases z1_6 : which = 6
  · skip
    refine g_table 138 C dL_call_1 (by omega) (by omega) (by omega) (off := 137) (by rw [z1_6]; rfl) rfl ?_
    refine g_aload_n 139 C dL_call_138 rfl rfl ?_
    refine g_iload_n 140 C dL_call_139 rfl rfl ?_
    refine g_V1r 143 2 12 C dL_call_140 rfl lk_RL_32 gi_X4_append gv_X4_append ⟨_, _, rfl⟩ (by omega) j1 ⟨⟨by decide, by decide⟩, by decide, by decide⟩ (Nat.le_of_ble_eq_true rfl) rfl rfl rfl (c_X4_append (σ := none) x T a hl hxb hJ hok har) (g_thr (n0 := 0) (fun X h8 q8 => cCd_x (by rw [z1_6]; rfl) (by decide) (by decide) (by decide) q8)) (fun h9 e9 => ?_)
    skip
    exact g_iret C dL_call_143 rfl ⟨by decide, by decide⟩ (cCd_r (by rw [z1_6]; rfl) e9)
  by_cases z1_7 : which = 7
  · skip
    refine g_table 144 C dL_call_1 (by omega) (by omega) (by omega) (off := 143) (by rw [z1_7]; rfl) rfl ?_
    refine g_aload_n 145 C dL_call_144 rfl rfl ?_
    refine g_V0r 148 1 6 C dL_call_145 rfl lk_RL_36 gi_X4_runAll gv_X4_runAll ⟨_, _, rfl⟩ (by omega) j1 ⟨⟨by decide, by decide⟩, by decide, by decide⟩ (Nat.le_of_ble_eq_true rfl) rfl rfl rfl (c_X4_runAll (σ := none) x T hl hxb hJ hok) (g_thr (n0 := 0) (fun X h8 q8 => cCd_x (by rw [z1_7]; rfl) (by decide) (by decide) (by decide) q8)) (fun h9 e9 => ?_)
    skip
    exact g_iret C dL_call_148 rfl ⟨by decide, by decide⟩ (cCd_r (by rw [z1_7]; rfl) e9)
  by_cases z1_8 : which = 8
  · skip
    refine g_table 149 C dL_call_1 (by omega) (by omega) (by omega) (off := 148) (by rw [z1_8]; rfl) rfl ?_
    refine g_aload_n 150 C dL_call_149 rfl rfl ?_
    refine g_V0r 153 1 6 C dL_call_150 rfl lk_RL_40 gi_X4_undo gv_X4_undo ⟨_, _, rfl⟩ (by omega) j1 ⟨⟨by decide, by decide⟩, by decide, by decide⟩ (Nat.le_of_ble_eq_true rfl) rfl rfl rfl (c_X4_undo (σ := none) x T hl hxb hJ hok) (g_thr (n0 := 0) (fun X h8 q8 => cCd_x (by rw [z1_8]; rfl) (by decide) (by decide) (by decide) q8)) (fun h9 e9 => ?_)
    skip
    exact g_iret C dL_call_153 rfl ⟨by decide, by decide⟩ (cCd_r (by rw [z1_8]; rfl) e9)
  by_cases z1_9 : which = 9
  · skip
    refine g_table 154 C dL_call_1 (by omega) (by omega) (by omega) (off := 153) (by rw [z1_9]; rfl) rfl ?_
    refine g_aload_n 155 C dL_call_154 rfl rfl ?_
    refine g_iload_n 156 C dL_call_155 rfl rfl ?_
    refine g_iload_n 157 C dL_call_156 rfl rfl ?_
    refine g_iload 159 C dL_call_157 rfl rfl ?_
    refine g_iload 161 C dL_call_159 rfl rfl ?_
    refine g_V4r 164 4 24 C dL_call_161 rfl lk_RL_43 gi_X4_sibling gv_X4_sibling ⟨_, _, rfl⟩ (by omega) j1 ⟨⟨by decide, by decide⟩, by decide, by decide⟩ (Nat.le_of_ble_eq_true rfl) rfl rfl rfl (c_X4_sibling (σ := none) x T a b c d hl hxb hJ hok har hbr hcr hdr) (g_thr (n0 := 0) (fun X h8 q8 => cCd_x (by rw [z1_9]; rfl) (by decide) (by decide) (by decide) q8)) (fun h9 e9 => ?_)
    skip
    exact g_iret C dL_call_164 rfl ⟨by decide, by decide⟩ (cCd_r (by rw [z1_9]; rfl) e9)
  by_cases z1_10 : which = 10
  · skip
    refine g_table 165 C dL_call_1 (by omega) (by omega) (by omega) (off := 164) (by rw [z1_10]; rfl) rfl ?_
    refine g_aload_n 166 C dL_call_165 rfl rfl ?_
    refine g_iload_n 167 C dL_call_166 rfl rfl ?_
    refine g_iload_n 168 C dL_call_167 rfl rfl ?_
    refine g_iload 170 C dL_call_168 rfl rfl ?_
    refine g_V3r 173 3 18 C dL_call_170 rfl lk_RL_46 gi_X4_vector gv_X4_vector ⟨_, _, rfl⟩ (by omega) j1 ⟨⟨by decide, by decide⟩, by decide, by decide⟩ (Nat.le_of_ble_eq_true rfl) rfl rfl rfl (c_X4_vector (σ := none) x T a b c hl hxb hJ hok har hbr hcr) (g_thr (n0 := 0) (fun X h8 q8 => cCd_x (by rw [z1_10]; rfl) (by decide) (by decide) (by decide) q8)) (fun h9 e9 => ?_)
    skip
    exact g_iret C dL_call_173 rfl ⟨by decide, by decide⟩ (cCd_r (by rw [z1_10]; rfl) e9)
  by_cases z1_11 : which = 11
  · skip
    refine g_table 174 C dL_call_1 (by omega) (by omega) (by omega) (off := 173) (by rw [z1_11]; rfl) rfl ?_
    refine g_aload_n 175 C dL_call_174 rfl rfl ?_
    refine g_iload_n 176 C dL_call_175 rfl rfl ?_
    refine g_iload_n 177 C dL_call_176 rfl rfl ?_
    refine g_iload 179 C dL_call_177 rfl rfl ?_
    refine g_V3r 182 3 18 C dL_call_179 rfl lk_RL_49 gi_X4_knows gv_X4_knows ⟨_, _, rfl⟩ (by omega) j1 ⟨⟨by decide, by decide⟩, by decide, by decide⟩ (Nat.le_of_ble_eq_true rfl) rfl rfl rfl (c_X4_knows (σ := none) x T a b c hl hxb hJ hok har hbr hcr) (g_thr (n0 := 0) (fun X h8 q8 => cCd_x (by rw [z1_11]; rfl) (by decide) (by decide) (by decide) q8)) (fun h9 e9 => ?_)
    skip
    exact g_iret C dL_call_182 rfl ⟨by decide, by decide⟩ (cCd_r (by rw [z1_11]; rfl) e9)
  by_cases z1_12 : which = 12
  · skip
    refine g_table 183 C dL_call_1 (by omega) (by omega) (by omega) (off := 182) (by rw [z1_12]; rfl) rfl ?_
    refine g_aload_n 184 C dL_call_183 rfl rfl ?_
    refine g_iload_n 185 C dL_call_184 rfl rfl ?_
    refine g_iload_n 186 C dL_call_185 rfl rfl ?_
    refine g_V2r 189 2 12 C dL_call_186 rfl lk_RL_52 gi_X4_key gv_X4_key ⟨_, _, rfl⟩ (by omega) j1 ⟨⟨by decide, by decide⟩, by decide, by decide⟩ (Nat.le_of_ble_eq_true rfl) rfl rfl rfl (c_X4_key (σ := none) x T a b hl hxb hJ hok har hbr) (g_thr (n0 := 0) (fun X h8 q8 => cCd_x (by rw [z1_12]; rfl) (by decide) (by decide) (by decide) q8)) (fun h9 e9 => ?_)
    skip
    exact g_iret C dL_call_189 rfl ⟨by decide, by decide⟩ (cCd_r (by rw [z1_12]; rfl) e9)
  by_cases z1_13 : which = 13
  · skip
    refine g_table 190 C dL_call_1 (by omega) (by omega) (by omega) (off := 189) (by rw [z1_13]; rfl) rfl ?_
    refine g_aload_n 191 C dL_call_190 rfl rfl ?_
    refine g_iload_n 192 C dL_call_191 rfl rfl ?_
    refine g_V1r 195 1 6 C dL_call_192 rfl lk_RL_55 gi_X4_count gv_X4_count ⟨_, _, rfl⟩ (by omega) j1 ⟨⟨by decide, by decide⟩, by decide, by decide⟩ (Nat.le_of_ble_eq_true rfl) rfl rfl rfl (c_X4_count (σ := none) x T a hl hxb hJ hok har) (g_thr (n0 := 0) (fun X h8 q8 => cCd_x (by rw [z1_13]; rfl) (by decide) (by decide) (by decide) q8)) (fun h9 e9 => ?_)
    skip
    exact g_iret C dL_call_195 rfl ⟨by decide, by decide⟩ (cCd_r (by rw [z1_13]; rfl) e9)
  by_cases z1_14 : which = 14
  · skip
    refine g_table 196 C dL_call_1 (by omega) (by omega) (by omega) (off := 195) (by rw [z1_14]; rfl) rfl ?_
    refine g_aload_n 197 C dL_call_196 rfl rfl ?_
    refine g_iload_n 198 C dL_call_197 rfl rfl ?_
    refine g_iload_n 199 C dL_call_198 rfl rfl ?_
    refine g_iload 201 C dL_call_199 rfl rfl ?_
    refine g_iload 203 C dL_call_201 rfl rfl ?_
    refine g_V4r 206 4 24 C dL_call_203 rfl lk_RL_58 gi_X4_ifWritten gv_X4_ifWritten ⟨_, _, rfl⟩ (by omega) j1 ⟨⟨by decide, by decide⟩, by decide, by decide⟩ (Nat.le_of_ble_eq_true rfl) rfl rfl rfl (c_X4_ifWritten (σ := none) x T a b c d hl hxb hJ hok har hbr hcr hdr) (g_thr (n0 := 0) (fun X h8 q8 => cCd_x (by rw [z1_14]; rfl) (by decide) (by decide) (by decide) q8)) (fun h9 e9 => ?_)
    skip
    exact g_iret C dL_call_206 rfl ⟨by decide, by decide⟩ (cCd_r (by rw [z1_14]; rfl) e9)
  by_cases z1_15 : which = 15
  · skip
    refine g_table 207 C dL_call_1 (by omega) (by omega) (by omega) (off := 206) (by rw [z1_15]; rfl) rfl ?_
    refine g_aload_n 208 C dL_call_207 rfl rfl ?_
    refine g_iload_n 209 C dL_call_208 rfl rfl ?_
    refine g_iload_n 210 C dL_call_209 rfl rfl ?_
    refine g_iload 212 C dL_call_210 rfl rfl ?_
    refine g_iload 214 C dL_call_212 rfl rfl ?_
    refine g_V4r 217 5 30 C dL_call_214 rfl lk_RL_61 gi_X4_ifPulled gv_X4_ifPulled ⟨_, _, rfl⟩ (by omega) j1 ⟨⟨by decide, by decide⟩, by decide, by decide⟩ (Nat.le_of_ble_eq_true rfl) rfl rfl rfl (c_X4_ifPulled (σ := none) x T a b c d hl hxb hJ hok har hbr hcr hdr) (g_thr (n0 := 0) (fun X h8 q8 => cCd_x (by rw [z1_15]; rfl) (by decide) (by decide) (by decide) q8)) (fun h9 e9 => ?_)
    skip
    exact g_iret C dL_call_217 rfl ⟨by decide, by decide⟩ (cCd_r (by rw [z1_15]; rfl) e9)
  by_cases z1_16 : which = 16
  · skip
    refine g_table 218 C dL_call_1 (by omega) (by omega) (by omega) (off := 217) (by rw [z1_16]; rfl) rfl ?_
    refine g_aload_n 219 C dL_call_218 rfl rfl ?_
    refine g_iload_n 220 C dL_call_219 rfl rfl ?_
    refine g_iload_n 221 C dL_call_220 rfl rfl ?_
    refine g_V2r 224 2 12 C dL_call_221 rfl lk_RL_64 gi_X4_whyNot gv_X4_whyNot ⟨_, _, rfl⟩ (by omega) j1 ⟨⟨by decide, by decide⟩, by decide, by decide⟩ (Nat.le_of_ble_eq_true rfl) rfl rfl rfl (c_X4_whyNot (σ := none) x T a b hl hxb hJ hok har hbr) (g_thr (n0 := 0) (fun X h8 q8 => cCd_x (by rw [z1_16]; rfl) (by decide) (by decide) (by decide) q8)) (fun h9 e9 => ?_)
    skip
    exact g_iret C dL_call_224 rfl ⟨by decide, by decide⟩ (cCd_r (by rw [z1_16]; rfl) e9)
  refine g_tableD 225 C dL_call_1 (by omega) (by omega) rfl ?_
  refine g_aload_n 226 C dL_call_225 rfl rfl ?_
  refine g_V0r 229 1 6 C dL_call_226 rfl lk_RL_67 gi_X4_pullAll gv_X4_pullAll ⟨_, _, rfl⟩ (by omega) j1 ⟨⟨by decide, by decide⟩, by decide, by decide⟩ (Nat.le_of_ble_eq_true rfl) rfl rfl rfl (c_X4_pullAll (σ := none) x T hl hxb hJ hok) (g_thr (n0 := 0) (fun X h8 q8 => cCd_x (by unfold oCall; rw [if_neg z1_0]; rw [if_neg z1_1]; rw [if_neg z1_2]; rw [if_neg z1_3]; rw [if_neg z1_4]; rw [if_neg z1_5]; rw [if_neg z1_6]; rw [if_neg z1_7]; rw [if_neg z1_8]; rw [if_neg z1_9]; rw [if_neg z1_10]; rw [if_neg z1_11]; rw [if_neg z1_12]; rw [if_neg z1_13]; rw [if_neg z1_14]; rw [if_neg z1_15]; rw [if_neg z1_16];) (by decide) (by decide) (by decide) q8)) (fun h9 e9 => ?_)
  skip
  exact g_iret C dL_call_229 rfl ⟨by decide, by decide⟩ (cCd_r (by unfold oCall; rw [if_neg z1_0]; rw [if_neg z1_1]; rw [if_neg z1_2]; rw [if_neg z1_3]; rw [if_neg z1_4]; rw [if_neg z1_5]; rw [if_neg z1_6]; rw [if_neg z1_7]; rw [if_neg z1_8]; rw [if_neg z1_9]; rw [if_neg z1_10]; rw [if_neg z1_11]; rw [if_neg z1_12]; rw [if_neg z1_13]; rw [if_neg z1_14]; rw [if_neg z1_15]; rw [if_neg z1_16];) e9)
theorem gcl_76 : Cond.classLink RL 76 xIO ∈ wsG := wsG_of 474 (by decide +kernel) rfl
theorem gcl_78 : Cond.classLink RL 78 xIA ∈ wsG := wsG_of 475 (by decide +kernel) rfl
theorem gcl_80 : Cond.classLink RL 80 xIS ∈ wsG := wsG_of 476 (by decide +kernel) rfl
/-- what told answers -/
def tO (O : gOut) : Int := if O.1 = 0 then O.2.1 else O.1
abbrev gTo (E : gEnv) (h : gH) (x n : Nat) (O : gOut) : gQt := gD (some (.int (gi (tO O)))) n none (fun h9 => isJ E h9 x O.2.2 ∧ gKp x (x + 524) h h9)
abbrev hhT : List (Nat × Nat × Nat × Nat) := [(0, 11, 12, 76), (0, 11, 17, 78), (0, 11, 22, 80)]
set_option maxRecDepth 100000 in
set_option maxHeartbeats 4000000 in
theorem c_L_told {E : gEnv} {n : Nat} {h : gH} (x : Nat) (T : gTt) (which a b c d : Int) (hl : E.1.stackTraces = false) (hxb : gB E ≤ x ∧ x + 524 ≤ gB E + n) (hJ : isJ E h x T) (hok : okT T) (hwr : -2147483648 ≤ which ∧ which < 2147483648) (har : -2147483648 ≤ a ∧ a < 2147483648) (hbr : -2147483648 ≤ b ∧ b < 2147483648) (hcr : -2147483648 ≤ c ∧ c < 2147483648) (hdr : -2147483648 ≤ d ∧ d < 2147483648) : gMH E mL_told hhT [.ref x, .int (gi which), .int (gi a), .int (gi b), .int (gi c), .int (gi d)] n none h (gTo E h x n (oCall T which a b c d)) gNo := by
  refine gMH_of (by decide) (Nat.le_of_ble_eq_true rfl) (fun F C => ?_)
  refine k_aload_n 1 C dL_told_0 rfl rfl ?_
  refine k_iload_n 2 C dL_told_1 rfl rfl ?_
  refine k_iload_n 3 C dL_told_2 rfl rfl ?_
  refine k_iload_n 4 C dL_told_3 rfl rfl ?_
  refine k_iload 6 C dL_told_4 rfl rfl ?_
  refine k_iload 8 C dL_told_6 rfl rfl ?_
  refine k_callS (As := [.ref x, .int (gi which), .int (gi a), .int (gi b), .int (gi c), .int (gi d)]) (rest := []) 11 C dL_told_8 rfl lk_RL_70 gs_L_call rfl ⟨⟨by decide, by decide⟩, by decide, by decide⟩ (Nat.le_of_ble_eq_true rfl) rfl (c_L_call (σ := none) x T which a b c d hl hxb hJ hok hwr har hbr hcr hdr) (fun X h8 hq8 => ?_) (fun v8 n8 σ8 h8 hq8 => ?_)
  · obtain ⟨eX, eN, eJ, eK⟩ := hq8
    rcases oCall_c T which a b c d with eO | eO | eO | eO
    · exact absurd eO eN
    · rw [eO] at eX
      have eX : X = xIO := eX
      subst eX
      refine kCat_1 ⟨by decide, by decide⟩ (by decide) gcl_76 (by simp [gNest]) (fun r => ?_)
      refine k_astore 14 [(6, _), (0, _), (1, _), (2, _), (3, _), (4, _), (5, _)] C dL_told_12 (by decide) rfl rfl ?_
      refine k_bipush 16 C dL_told_14 (by decide) rfl ?_
      exact k_iret C dL_told_16 rfl ⟨by decide, by decide⟩ ⟨by unfold tO; rw [if_neg eN, eO], rfl, rfl, eJ, eK⟩
    · rw [eO] at eX
      have eX : X = xIA := eX
      subst eX
      refine kCat_s (by decide) gcl_76 (by decide) ?_
      refine kCat_1 ⟨by decide, by decide⟩ (by decide) gcl_78 (by simp [gNest]) (fun r => ?_)
      refine k_astore 19 [(6, _), (0, _), (1, _), (2, _), (3, _), (4, _), (5, _)] C dL_told_17 (by decide) rfl rfl ?_
      refine k_bipush 21 C dL_told_19 (by decide) rfl ?_
      exact k_iret C dL_told_21 rfl ⟨by decide, by decide⟩ ⟨by unfold tO; rw [if_neg eN, eO], rfl, rfl, eJ, eK⟩
    · rw [eO] at eX
      have eX : X = xIS := eX
      subst eX
      refine kCat_s (by decide) gcl_76 (by decide) ?_
      refine kCat_s (by decide) gcl_78 (by decide) ?_
      refine kCat_1 ⟨by decide, by decide⟩ (by decide) gcl_80 (by simp [gNest]) (fun r => ?_)
      refine k_astore 24 [(6, _), (0, _), (1, _), (2, _), (3, _), (4, _), (5, _)] C dL_told_22 (by decide) rfl rfl ?_
      refine k_bipush 26 C dL_told_24 (by decide) rfl ?_
      exact k_iret C dL_told_26 rfl ⟨by decide, by decide⟩ ⟨by unfold tO; rw [if_neg eN, eO], rfl, rfl, eJ, eK⟩
  · obtain ⟨rfl, rfl, rfl, e0, eJ, eK⟩ := hq8
    exact k_iret C dL_told_11 rfl ⟨by decide, by decide⟩ ⟨by unfold tO; rw [if_pos e0], rfl, rfl, eJ, eK⟩
