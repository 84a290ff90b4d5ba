/-! SiblingJoins: shares, their bits, the mixing of numbers -/
section GDB
variable {E : gEnv} {F : gFr} {t : gMt} {Q : State → Prop} {n : Nat} {σ : Option Nat} {h : gH} {kc ks pc : Nat} {L : List (Nat × Value)} {st : List Value}
theorem g_i2d {x : Int32} (pc' : Nat) (C : gC E F t) (hd : decode (gCode t) pc = .ok (.i2d, 1)) (hp : pc + 1 = pc') (k : G E F t Q n σ h kc ks pc' L (.double (FP.i2d x) :: st)) : G E F t Q n σ h kc ks pc L (.int x :: st) := by
  subst hp
  intro H locs ls a1 a3 a4 a5
  exact lv_i2d C.1 C.2.1 hd (k H locs ls a1 a3 a4 a5)
theorem g_l2d {x : Int64} (pc' : Nat) (C : gC E F t) (hd : decode (gCode t) pc = .ok (.l2d, 1)) (hp : pc + 1 = pc') (k : G E F t Q n σ h kc ks pc' L (.double (FP.l2d x) :: st)) : G E F t Q n σ h kc ks pc L (.long x :: st) := by
  subst hp
  intro H locs ls a1 a3 a4 a5
  exact lv_l2d C.1 C.2.1 hd (k H locs ls a1 a3 a4 a5)
theorem g_d2l {x : UInt64} (pc' : Nat) (C : gC E F t) (hd : decode (gCode t) pc = .ok (.d2l, 1)) (hp : pc + 1 = pc') (k : G E F t Q n σ h kc ks pc' L (.long (FP.d2l x) :: st)) : G E F t Q n σ h kc ks pc L (.double x :: st) := by
  subst hp
  intro H locs ls a1 a3 a4 a5
  exact lv_d2l C.1 C.2.1 hd (k H locs ls a1 a3 a4 a5)
theorem g_ddiv {x y : UInt64} (pc' : Nat) (C : gC E F t) (hd : decode (gCode t) pc = .ok (.ddiv, 1)) (hn : vf_n64 (FP.ddiv x y)) (hp : pc + 1 = pc') (k : G E F t Q n σ h kc ks pc' L (.double (FP.ddiv x y) :: st)) : G E F t Q n σ h kc ks pc L (.double y :: .double x :: st) := by
  subst hp
  intro H locs ls a1 a3 a4 a5
  exact lv_ddiv C.1 C.2.1 hd hn (k H locs ls a1 a3 a4 a5)
theorem g_dmul {x y : UInt64} (pc' : Nat) (C : gC E F t) (hd : decode (gCode t) pc = .ok (.dmul, 1)) (hn : vf_n64 (FP.dmul x y)) (hp : pc + 1 = pc') (k : G E F t Q n σ h kc ks pc' L (.double (FP.dmul x y) :: st)) : G E F t Q n σ h kc ks pc L (.double y :: .double x :: st) := by
  subst hp
  intro H locs ls a1 a3 a4 a5
  exact lv_dmul C.1 C.2.1 hd hn (k H locs ls a1 a3 a4 a5)
theorem g_dcmp {x y : UInt64} {op : CmpOp} {c : Int} (pc' : Nat) (C : gC E F t) (hd : decode (gCode t) pc = .ok (.dcmp op, 1)) (hv : Op.cmpValue (FP.dcmp x y) op = gi c) (hp : pc + 1 = pc') (k : G E F t Q n σ h kc ks pc' L (.int (gi c) :: st)) : G E F t Q n σ h kc ks pc L (.double y :: .double x :: st) := by
  subst hp
  rw [← hv] at k
  intro H locs ls a1 a3 a4 a5
  exact lv_dcmp C.1 C.2.1 hd (k H locs ls a1 a3 a4 a5)
theorem g_dconst0 (pc' : Nat) (C : gC E F t) (hd : decode (gCode t) pc = .ok (.dconst 0, 1)) (hp : pc + 1 = pc') (k : G E F t Q n σ h kc ks pc' L (.double FP.dconst0 :: st)) : G E F t Q n σ h kc ks pc L st := by
  subst hp
  intro H locs ls a1 a3 a4 a5
  exact lv_dconst0 C.1 C.2.1 hd (k H locs ls a1 a3 a4 a5)
theorem g_dconst1 (pc' : Nat) (C : gC E F t) (hd : decode (gCode t) pc = .ok (.dconst 1, 1)) (hp : pc + 1 = pc') (k : G E F t Q n σ h kc ks pc' L (.double FP.dconst1 :: st)) : G E F t Q n σ h kc ks pc L st := by
  subst hp
  intro H locs ls a1 a3 a4 a5
  exact lv_dconst1 C.1 C.2.1 hd (k H locs ls a1 a3 a4 a5)
theorem g_lshl {x v : Int64} {y : Int32} (pc' : Nat) (C : gC E F t) (hd : decode (gCode t) pc = .ok (.lshl, 1)) (hv : x <<< (y.toInt64 &&& 63) = v) (hp : pc + 1 = pc') (k : G E F t Q n σ h kc ks pc' L (.long v :: st)) : G E F t Q n σ h kc ks pc L (.int y :: .long x :: st) := by
  subst hp
  intro H locs ls a1 a3 a4 a5
  exact lv_lshl C.1 C.2.1 hd hv (k H locs ls a1 a3 a4 a5)
end GDB
/-- the share of n of nine -/
def gShr (n : Int) : UInt64 := FP.ddiv (FP.i2d (gi n)) 4621256167635550208
/-- doubled i times -/
def shIt (d : UInt64) : Nat → UInt64
  | 0 => d
  | i + 1 => FP.dmul (shIt d i) 4611686018427387904
def shE : Nat → Int64
  | 0 => 1023
  | i + 1 => shE i - 1
def shBit (d : UInt64) (m : Nat) : Int64 := shE m <<< ((gi 52).toInt64 &&& 63) + (FP.d2l (FP.dmul (shIt d m) (FP.l2d 4503599627370496)) - 4503599627370496)
def shM (n : Int) : Nat := if n = 1 then 4 else if n = 2 then 3 else if n = 3 then 2 else if n = 4 then 2 else if n = 9 then 0 else 1
def gShB (n : Int) : Int64 := if n = 0 then 0 else shBit (gShr n) (shM n)
theorem gShr_ok : ∀ i : Nat, i < 10 → vf_n64 (gShr (i : Int)) := by unfold vf_n64; decide +kernel
theorem gShr_0 : Op.cmpValue (FP.dcmp (gShr 0) FP.dconst0) .g = gi 0 := by decide +kernel
theorem gShr_p : ∀ i : Nat, i < 10 → 1 ≤ i → Op.cmpValue (FP.dcmp (gShr (i : Int)) FP.dconst0) .g = gi 1 := by decide +kernel
theorem gShr_lo : ∀ i : Nat, i < 10 → 1 ≤ i → ∀ j : Nat, j < shM (i : Int) → Op.cmpValue (FP.dcmp (shIt (gShr (i : Int)) j) FP.dconst1) .g = gi (-1) ∧ vf_n64 (FP.dmul (shIt (gShr (i : Int)) j) 4611686018427387904) := by unfold vf_n64; decide +kernel
theorem gShr_hi : ∀ i : Nat, i < 10 → 1 ≤ i → Op.cmpValue (FP.dcmp (shIt (gShr (i : Int)) (shM (i : Int))) FP.dconst1) .g = gi (if i = 9 then 0 else 1) ∧ vf_n64 (FP.dmul (shIt (gShr (i : Int)) (shM (i : Int))) (FP.l2d 4503599627370496)) := by unfold vf_n64; decide +kernel
theorem shM_r (n : Int) : shM n ≤ 4 := by unfold shM; split <;> (try decide); split <;> (try decide); split <;> (try decide); split <;> (try decide); split <;> decide
def mxi (h : Int64) (v : Int) : Int64 := 31 * h + (gi v).toInt64
def fldN (f : Int → Int) (h : Int64) : Nat → Int64
  | 0 => h
  | i + 1 => mxi (fldN f h i) (f (i : Int))

set_option maxRecDepth 100000 in
set_option maxHeartbeats 4000000 in
theorem c_X4_shareOfAgreement {E : gEnv} {n : Nat} {σ : Option Nat} {h : gH} (x : Nat) (T : gTt) (hxb : gB E ≤ x ∧ x + 524 ≤ gB E + n) (hJ : isJ E h x T) (hok : okT T)  : gM E mX4_shareOfAgreement [.ref x] n σ h (gD (some (.double (gShr (0 + agrP (T.1.1 0) + agrP (T.1.1 1) + agrP (T.1.1 2))))) n σ (fun h9 => h9 = h)) (gNo) := by
  have hJ9 := hJ
  obtain ⟨j1, j2, j3, j4, j5, j6⟩ := hJ
  obtain ⟨o1, o2, o3, o4, o5⟩ := hok
  unfold isJo at j1
  have j29 := j2
  obtain ⟨-, ⟨jkk, jk, jkf⟩, jK⟩ := j2
  have j2 := j29
  have ha0 := agrP_r (T.1.1 0)
  have ha1 := agrP_r (T.1.1 1)
  have ha2 := agrP_r (T.1.1 2)
  have hv := gShr_ok (0 + agrP (T.1.1 0) + agrP (T.1.1 1) + agrP (T.1.1 2)).toNat (by omega)
  rw [Int.toNat_of_nonneg (show 0 ≤ 0 + agrP (T.1.1 0) + agrP (T.1.1 1) + agrP (T.1.1 2) by omega)] at hv
  refine gM_of (by decide) (Nat.le_of_ble_eq_true rfl) (fun F C => ?_)
  refine g_iconst 1 C dX4_shareOfAgreement_0 rfl ?_
  refine g_istore_n 2 [(1, _), (0, _)] C dX4_shareOfAgreement_1 (by decide) rfl rfl ?_
  refine g_iconst 3 C dX4_shareOfAgreement_2 rfl ?_
  refine g_istore_n 4 [(2, _), (1, _), (0, _)] C dX4_shareOfAgreement_3 (by decide) rfl rfl ?_
  refine g_iload_n 5 C dX4_shareOfAgreement_4 rfl rfl ?_
  refine g_iconst 6 C dX4_shareOfAgreement_5 rfl ?_
  refine g_icmp_ge 30 9 C dX4_shareOfAgreement_6 rfl rfl (by omega) (by omega) (fun c6 => ?_) (fun c6 => ?_)
  · skip
    exact absurd c6 (by omega)
  · skip
    refine g_iload_n 10 C dX4_shareOfAgreement_9 rfl rfl ?_
    refine g_aload_n 11 C dX4_shareOfAgreement_10 rfl rfl ?_
    refine g_getf 14 C dX4_shareOfAgreement_11 fl_RX4_10 rfl (by omega) j1 rfl rfl ?_
    refine g_getf 17 C dX4_shareOfAgreement_14 fl_RX4_41 rfl (by omega) j2.1 rfl rfl ?_
    refine g_iload_n 18 C dX4_shareOfAgreement_17 rfl rfl ?_
    refine g_aald 19 C dX4_shareOfAgreement_18 (by omega) jk rfl rfl (by omega) (by decide) (jkf (0) (by omega) (by omega)) rfl ?_
    refine g_V0r 22 0 0 C dX4_shareOfAgreement_19 rfl lk_RX4_249 gi_X1_agreeingPairs gv_X1_agreeingPairs ⟨_, _, rfl⟩ (by omega) (jK (0) (by omega) (by omega)).1 ⟨⟨by decide, by decide⟩, by decide, by decide⟩ (Nat.le_of_ble_eq_true rfl) rfl rfl rfl (c_X1_agreeingPairs (x + 1 + 2 + 21 * (0 : Int).toNat) (T.1.1 0) (by omega) (jK 0 (by omega) (by omega)) (o1 0 (by omega) (by omega))) g_no (fun h9 e19 => ?_)
    subst e19
    refine g_iadd 23 C dX4_shareOfAgreement_22 rfl ?_
    refine g_istore_n 24 [(1, _), (2, _), (0, _)] C dX4_shareOfAgreement_23 (by decide) rfl rfl ?_
    refine g_iinc 27 [(2, _), (1, _), (0, _)] C dX4_shareOfAgreement_24 rfl (by decide) rfl rfl ?_
    refine g_goto 4 C dX4_shareOfAgreement_27 rfl ?_
    refine g_iload_n 5 C dX4_shareOfAgreement_4 rfl rfl ?_
    refine g_iconst 6 C dX4_shareOfAgreement_5 rfl ?_
    refine g_icmp_ge 30 9 C dX4_shareOfAgreement_6 rfl rfl (by omega) (by omega) (fun c6 => ?_) (fun c6 => ?_)
    · skip
      exact absurd c6 (by omega)
    · skip
      refine g_iload_n 10 C dX4_shareOfAgreement_9 rfl rfl ?_
      refine g_aload_n 11 C dX4_shareOfAgreement_10 rfl rfl ?_
      refine g_getf 14 C dX4_shareOfAgreement_11 fl_RX4_10 rfl (by omega) j1 rfl rfl ?_
      refine g_getf 17 C dX4_shareOfAgreement_14 fl_RX4_41 rfl (by omega) j2.1 rfl rfl ?_
      refine g_iload_n 18 C dX4_shareOfAgreement_17 rfl rfl ?_
      refine g_aald 19 C dX4_shareOfAgreement_18 (by omega) jk rfl rfl (by omega) (by decide) (jkf (1) (by omega) (by omega)) rfl ?_
      refine g_V0r 22 0 0 C dX4_shareOfAgreement_19 rfl lk_RX4_249 gi_X1_agreeingPairs gv_X1_agreeingPairs ⟨_, _, rfl⟩ (by omega) (jK (1) (by omega) (by omega)).1 ⟨⟨by decide, by decide⟩, by decide, by decide⟩ (Nat.le_of_ble_eq_true rfl) rfl rfl rfl (c_X1_agreeingPairs (x + 1 + 2 + 21 * (1 : Int).toNat) (T.1.1 1) (by omega) (jK 1 (by omega) (by omega)) (o1 1 (by omega) (by omega))) g_no (fun h9 e19 => ?_)
      subst e19
      refine g_iadd 23 C dX4_shareOfAgreement_22 rfl ?_
      refine g_istore_n 24 [(1, _), (2, _), (0, _)] C dX4_shareOfAgreement_23 (by decide) rfl rfl ?_
      refine g_iinc 27 [(2, _), (1, _), (0, _)] C dX4_shareOfAgreement_24 rfl (by decide) rfl rfl ?_
      refine g_goto 4 C dX4_shareOfAgreement_27 rfl ?_
      refine g_iload_n 5 C dX4_shareOfAgreement_4 rfl rfl ?_
      refine g_iconst 6 C dX4_shareOfAgreement_5 rfl ?_
      refine g_icmp_ge 30 9 C dX4_shareOfAgreement_6 rfl rfl (by omega) (by omega) (fun c6 => ?_) (fun c6 => ?_)
      · skip
        exact absurd c6 (by omega)
      · skip
        refine g_iload_n 10 C dX4_shareOfAgreement_9 rfl rfl ?_
        refine g_aload_n 11 C dX4_shareOfAgreement_10 rfl rfl ?_
        refine g_getf 14 C dX4_shareOfAgreement_11 fl_RX4_10 rfl (by omega) j1 rfl rfl ?_
        refine g_getf 17 C dX4_shareOfAgreement_14 fl_RX4_41 rfl (by omega) j2.1 rfl rfl ?_
        refine g_iload_n 18 C dX4_shareOfAgreement_17 rfl rfl ?_
        refine g_aald 19 C dX4_shareOfAgreement_18 (by omega) jk rfl rfl (by omega) (by decide) (jkf (2) (by omega) (by omega)) rfl ?_
        refine g_V0r 22 0 0 C dX4_shareOfAgreement_19 rfl lk_RX4_249 gi_X1_agreeingPairs gv_X1_agreeingPairs ⟨_, _, rfl⟩ (by omega) (jK (2) (by omega) (by omega)).1 ⟨⟨by decide, by decide⟩, by decide, by decide⟩ (Nat.le_of_ble_eq_true rfl) rfl rfl rfl (c_X1_agreeingPairs (x + 1 + 2 + 21 * (2 : Int).toNat) (T.1.1 2) (by omega) (jK 2 (by omega) (by omega)) (o1 2 (by omega) (by omega))) g_no (fun h9 e19 => ?_)
        subst e19
        refine g_iadd 23 C dX4_shareOfAgreement_22 rfl ?_
        refine g_istore_n 24 [(1, _), (2, _), (0, _)] C dX4_shareOfAgreement_23 (by decide) rfl rfl ?_
        refine g_iinc 27 [(2, _), (1, _), (0, _)] C dX4_shareOfAgreement_24 rfl (by decide) rfl rfl ?_
        refine g_goto 4 C dX4_shareOfAgreement_27 rfl ?_
        refine g_iload_n 5 C dX4_shareOfAgreement_4 rfl rfl ?_
        refine g_iconst 6 C dX4_shareOfAgreement_5 rfl ?_
        refine g_icmp_ge 30 9 C dX4_shareOfAgreement_6 rfl rfl (by omega) (by omega) (fun c6 => ?_) (fun c6 => ?_)
        · skip
          refine g_iload_n 31 C dX4_shareOfAgreement_30 rfl rfl ?_
          refine g_i2d 32 C dX4_shareOfAgreement_31 rfl ?_
          refine g_ldc2d 35 C dX4_shareOfAgreement_32 ld_RX4_252 rfl ?_
          refine g_ddiv 36 C dX4_shareOfAgreement_35 hv rfl ?_
          exact g_dret C dX4_shareOfAgreement_36 rfl ⟨by decide, by decide⟩ (⟨rfl, rfl, rfl, rfl⟩)
        · skip
          exact absurd c6 (by omega)

set_option maxRecDepth 100000 in
set_option maxHeartbeats 4000000 in
theorem c_bits0 {E : gEnv} {n : Nat} {σ : Option Nat} {h : gH} (d : UInt64) (h0 : Op.cmpValue (FP.dcmp d FP.dconst0) .g = gi 0) : gM E mX4_bitsOfShare [.double d] n σ h (gD (some (.long 0)) n σ (fun h9 => h9 = h)) (gNo) := by
  refine gM_of (by decide) (Nat.le_of_ble_eq_true rfl) (fun F C => ?_)
  refine g_dload_n 1 C dX4_bitsOfShare_0 rfl rfl ?_
  refine g_dconst0 2 C dX4_bitsOfShare_1 rfl ?_
  refine g_dcmp 3 C dX4_bitsOfShare_2 h0 rfl ?_
  refine g_if_gt 8 6 C dX4_bitsOfShare_3 rfl rfl (by omega) (fun c3 => ?_) (fun c3 => ?_)
  · skip
    exact absurd c3 (by omega)
  · skip
    refine g_lconst 7 C dX4_bitsOfShare_6 rfl ?_
    exact g_lret C dX4_bitsOfShare_7 rfl ⟨by decide, by decide⟩ (⟨rfl, rfl, rfl, rfl⟩)
set_option maxRecDepth 100000 in
set_option maxHeartbeats 4000000 in
theorem c_X4_bitsOfShare {E : gEnv} {n : Nat} {σ : Option Nat} {h : gH} (d : UInt64) (q : Nat) (cm : Int) (h0 : Op.cmpValue (FP.dcmp d FP.dconst0) .g = gi 1) (hq : q ≤ 4) (hlo : ∀ j : Nat, j < q → Op.cmpValue (FP.dcmp (shIt d j) FP.dconst1) .g = gi (-1) ∧ vf_n64 (FP.dmul (shIt d j) 4611686018427387904)) (hcm : 0 ≤ cm ∧ cm ≤ 1) (hhi : Op.cmpValue (FP.dcmp (shIt d q) FP.dconst1) .g = gi cm ∧ vf_n64 (FP.dmul (shIt d q) (FP.l2d 4503599627370496))) : gM E mX4_bitsOfShare [.double d] n σ h (gD (some (.long (shBit d q))) n σ (fun h9 => h9 = h)) (gNo) := by
  refine gM_of (by decide) (Nat.le_of_ble_eq_true rfl) (fun F C => ?_)
  refine g_dload_n 1 C dX4_bitsOfShare_0 rfl rfl ?_
  refine g_dconst0 2 C dX4_bitsOfShare_1 rfl ?_
  refine g_dcmp 3 C dX4_bitsOfShare_2 h0 rfl ?_
  refine g_if_gt 8 6 C dX4_bitsOfShare_3 rfl rfl (by omega) (fun c3 => ?_) (fun c3 => ?_)
  · skip
    refine g_dload_n 9 C dX4_bitsOfShare_8 rfl rfl ?_
    refine g_dstore_n 10 [(2, _), (0, _)] C dX4_bitsOfShare_9 (by decide) rfl rfl ?_
    refine g_ldc2l 13 C dX4_bitsOfShare_10 ld_RX4_264 rfl ?_
    refine g_lstore 15 [(4, _), (2, _), (0, _)] C dX4_bitsOfShare_13 (by decide) rfl rfl ?_
    refine g_iconst 16 C dX4_bitsOfShare_15 rfl ?_
    refine g_istore 18 [(6, _), (4, _), (2, _), (0, _)] C dX4_bitsOfShare_16 (by decide) rfl rfl ?_
    have lp18 : ∀ (k9 : Nat) (i : Nat), (i ≤ q) → q - i < k9 → G E F mX4_bitsOfShare (gQ E F mX4_bitsOfShare n (gD (some (.long (shBit d q))) n σ (fun h9 => h9 = h)) (gNo)) n σ h 0 0 18 [(6, .int (gi ((i : Int) + 1))), (4, .long (shE i)), (2, .double (shIt d i)), (0, .double d)] [] := by
      intro k9
      induction k9 with
      | zero => intro i hi h0; exact absurd h0 (Nat.not_lt_zero _)
      | succ k9 ih18 =>
        intro i hi hk18
        refine g_iload 20 C dX4_bitsOfShare_18 rfl rfl ?_
        refine g_sipush 23 C dX4_bitsOfShare_20 (by decide) rfl ?_
        refine g_icmp_ge 50 26 C dX4_bitsOfShare_23 rfl rfl (by omega) (by omega) (fun c23 => ?_) (fun c23 => ?_)
        · skip
          exact absurd c23 (by omega)
        · skip
          refine g_dload_n 27 C dX4_bitsOfShare_26 rfl rfl ?_
          refine g_dconst1 28 C dX4_bitsOfShare_27 rfl ?_
          have hcv : ∃ cv : Int, Op.cmpValue (FP.dcmp (shIt d i) FP.dconst1) .g = gi cv ∧ (-1 ≤ cv ∧ cv ≤ 1) ∧ (0 ≤ cv ↔ i = q) := by
            by_cases e : i = q
            · subst e; exact ⟨cm, hhi.1, by omega, by omega⟩
            · exact ⟨-1, (hlo i (by omega)).1, by omega, by omega⟩
          obtain ⟨cv, hcv1, hcv2, hcv3⟩ := hcv
          refine g_dcmp 29 C dX4_bitsOfShare_28 hcv1 rfl ?_
          refine g_if_ge 50 32 C dX4_bitsOfShare_29 rfl rfl (by omega) (fun c29 => ?_) (fun c29 => ?_)
          · skip
            have hiq := hcv3.mp (by omega)
            subst hiq
            refine g_ldc2l 53 C dX4_bitsOfShare_50 ld_RX4_268 rfl ?_
            refine g_lstore 55 [(6, _), (4, _), (2, _), (0, _)] C dX4_bitsOfShare_53 (by decide) rfl rfl ?_
            refine g_dload_n 56 C dX4_bitsOfShare_55 rfl rfl ?_
            refine g_lload 58 C dX4_bitsOfShare_56 rfl rfl ?_
            refine g_l2d 59 C dX4_bitsOfShare_58 rfl ?_
            refine g_dmul 60 C dX4_bitsOfShare_59 hhi.2 rfl ?_
            refine g_d2l 61 C dX4_bitsOfShare_60 rfl ?_
            refine g_lload 63 C dX4_bitsOfShare_61 rfl rfl ?_
            refine g_lsub 64 C dX4_bitsOfShare_63 rfl ?_
            refine g_lstore 66 [(8, _), (6, _), (4, _), (2, _), (0, _)] C dX4_bitsOfShare_64 (by decide) rfl rfl ?_
            refine g_lload 68 C dX4_bitsOfShare_66 rfl rfl ?_
            refine g_bipush 70 C dX4_bitsOfShare_68 (by decide) rfl ?_
            refine g_lshl 71 C dX4_bitsOfShare_70 rfl rfl ?_
            refine g_lload 73 C dX4_bitsOfShare_71 rfl rfl ?_
            refine g_ladd 74 C dX4_bitsOfShare_73 rfl ?_
            exact g_lret C dX4_bitsOfShare_74 rfl ⟨by decide, by decide⟩ (⟨rfl, rfl, rfl, rfl⟩)
          · skip
            have hiq : i < q := by omega
            refine g_dload_n 33 C dX4_bitsOfShare_32 rfl rfl ?_
            refine g_ldc2d 36 C dX4_bitsOfShare_33 ld_RX4_266 rfl ?_
            refine g_dmul 37 C dX4_bitsOfShare_36 (hlo i hiq).2 rfl ?_
            refine g_dstore_n 38 [(2, _), (6, _), (4, _), (0, _)] C dX4_bitsOfShare_37 (by decide) rfl rfl ?_
            refine g_lload 40 C dX4_bitsOfShare_38 rfl rfl ?_
            refine g_lconst 41 C dX4_bitsOfShare_40 rfl ?_
            refine g_lsub 42 C dX4_bitsOfShare_41 rfl ?_
            refine g_lstore 44 [(4, _), (2, _), (6, _), (0, _)] C dX4_bitsOfShare_42 (by decide) rfl rfl ?_
            refine g_iinc 47 [(6, _), (4, _), (2, _), (0, _)] C dX4_bitsOfShare_44 rfl (by decide) rfl rfl ?_
            refine g_goto 18 C dX4_bitsOfShare_47 rfl ?_
            refine g_loc [(6, .int (gi (((i + 1 : Nat) : Int) + 1))), (4, .long (shE (i + 1))), (2, .double (shIt d (i + 1))), (0, _)] ⟨rfl, rfl, rfl, rfl, trivial⟩ ?_
            exact ih18 (i + 1) (by omega) (by omega)
    refine g_loc [(6, _), (4, _), (2, _), (0, _)] ⟨rfl, rfl, rfl, rfl, trivial⟩ ?_
    exact lp18 _ 0 (Nat.zero_le _) (Nat.lt_succ_self _)
  · skip
    exact absurd c3 (by omega)
theorem c_bits {E : gEnv} {n : Nat} {σ : Option Nat} {h : gH} (a : Int) (ha : 0 ≤ a ∧ a < 10) : gM E mX4_bitsOfShare [.double (gShr a)] n σ h (gD (some (.long (gShB a))) n σ (fun h9 => h9 = h)) gNo := by
  obtain ⟨i, rfl⟩ : ∃ i : Nat, a = (i : Int) := ⟨a.toNat, by omega⟩
  unfold gShB
  by_cases e : (i : Int) = 0
  · rw [if_pos e, e]
    exact c_bits0 _ gShr_0
  · rw [if_neg e]
    exact c_X4_bitsOfShare _ _ (if i = 9 then 0 else 1) (gShr_p i (by omega) (by omega)) (shM_r _) (gShr_lo i (by omega) (by omega)) (by split <;> omega) (gShr_hi i (by omega) (by omega))
set_option maxRecDepth 100000 in
set_option maxHeartbeats 4000000 in
theorem c_X4_mix {E : gEnv} {n : Nat} {σ : Option Nat} {h : gH} (a b : Int64) : gM E mX4_mix [.long a, .long b] n σ h (gD (some (.long (31 * a + b))) n σ (fun h9 => h9 = h)) (gNo) := by
  refine gM_of (by decide) (Nat.le_of_ble_eq_true rfl) (fun F C => ?_)
  refine g_ldc2l 3 C dX4_mix_0 ld_RX4_254 rfl ?_
  refine g_lload_n 4 C dX4_mix_3 rfl rfl ?_
  refine g_lmul 5 C dX4_mix_4 rfl ?_
  refine g_lload_n 6 C dX4_mix_5 rfl rfl ?_
  refine g_ladd 7 C dX4_mix_6 rfl ?_
  exact g_lret C dX4_mix_7 rfl ⟨by decide, by decide⟩ (⟨rfl, rfl, rfl, rfl⟩)
set_option maxRecDepth 100000 in
set_option maxHeartbeats 4000000 in
theorem c_X4_mixRow {E : gEnv} {n : Nat} {σ : Option Nat} {h : gH} (a : Int64) (r : Nat) (f : Int → Int) (hrb : gB E ≤ r ∧ r < gB E + n) (hr : h r = gI E 5 f) : gM E mX4_mixRow [.long a, .ref r] n σ h (gD (some (.long (fldN f a 5))) n σ (fun h9 => h9 = h)) (gNo) := by
  refine gM_of (by decide) (Nat.le_of_ble_eq_true rfl) (fun F C => ?_)
  refine g_lload_n 1 C dX4_mixRow_0 rfl rfl ?_
  refine g_lstore_n 2 [(3, _), (0, _), (2, _)] C dX4_mixRow_1 (by decide) rfl rfl ?_
  refine g_iconst 3 C dX4_mixRow_2 rfl ?_
  refine g_istore 5 [(5, _), (3, _), (0, _), (2, _)] C dX4_mixRow_3 (by decide) rfl rfl ?_
  have lp5 : ∀ (k9 : Nat) (i : Nat), (i ≤ 5) → 5 - i < k9 → G E F mX4_mixRow (gQ E F mX4_mixRow n (gD (some (.long (fldN f a 5))) n σ (fun h9 => h9 = h)) (gNo)) n σ h 0 0 5 [(5, .int (gi (i : Int))), (3, .long (fldN f a i)), (2, .ref r), (0, .long a)] [] := by
    intro k9
    induction k9 with
    | zero => intro i hi h0; exact absurd h0 (Nat.not_lt_zero _)
    | succ k9 ih5 =>
      intro i hi hk5
      refine g_iload 7 C dX4_mixRow_5 rfl rfl ?_
      refine g_aload_n 8 C dX4_mixRow_7 rfl rfl ?_
      refine g_alen 9 C dX4_mixRow_8 (by omega) hr rfl rfl rfl ?_
      refine g_icmp_ge 28 12 C dX4_mixRow_9 rfl rfl (by omega) (by omega) (fun c9 => ?_) (fun c9 => ?_)
      · skip
        refine g_lload_n 29 C dX4_mixRow_28 rfl rfl ?_
        exact g_lret C dX4_mixRow_29 rfl ⟨by decide, by decide⟩ (by rw [show i = 5 by omega]; exact ⟨rfl, rfl, rfl, rfl⟩)
      · skip
        refine g_lload_n 13 C dX4_mixRow_12 rfl rfl ?_
        refine g_aload_n 14 C dX4_mixRow_13 rfl rfl ?_
        refine g_iload 16 C dX4_mixRow_14 rfl rfl ?_
        refine g_iald 17 C dX4_mixRow_16 (by omega) hr (by omega) (by decide) rfl ?_
        refine g_i2l 18 C dX4_mixRow_17 rfl ?_
        refine g_S2r 21 0 0 C dX4_mixRow_18 rfl lk_RX4_187 gs_X4_mix ⟨⟨by decide, by decide⟩, by decide, by decide⟩ (Nat.le_of_ble_eq_true rfl) rfl rfl rfl (c_X4_mix (fldN f a i) (gi (f (i : Int))).toInt64) g_no (fun h9 e18 => ?_)
        subst e18
        refine g_lstore_n 22 [(3, _), (5, _), (2, _), (0, _)] C dX4_mixRow_21 (by decide) rfl rfl ?_
        refine g_iinc 25 [(5, _), (3, _), (2, _), (0, _)] C dX4_mixRow_22 rfl (by decide) rfl rfl ?_
        refine g_goto 5 C dX4_mixRow_25 rfl ?_
        refine g_loc [(5, _), (3, .long (fldN f a (i + 1))), (2, _), (0, _)] ⟨rfl, rfl, rfl, rfl, trivial⟩ ?_
        exact ih5 (i + 1) (by omega) (by omega)
  refine g_loc [(5, _), (3, _), (2, _), (0, _)] ⟨rfl, rfl, rfl, rfl, trivial⟩ ?_
  exact lp5 _ 0 (Nat.zero_le _) (Nat.lt_succ_self _)
