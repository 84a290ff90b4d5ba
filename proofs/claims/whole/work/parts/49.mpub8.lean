/-! SiblingJoinsModel: the digest as a whole -/
theorem gs_d2lb : Cond.static mJxe99ae_doubleToLongBits_ccdee.1 ∈ wsG := (wsG_of 1090 (by decide +kernel) rfl)
theorem lk_D122 : gLk "java/lang/Double" 122 mJxe99ae_isNaN_b9ae7 1 := ⟨(wsG_of 1092 (by decide +kernel) rfl), (wsG_of 19 (by decide +kernel) rfl), gcd_Jxe99ae_isNaN_b9ae7, by decide, by decide, by decide +kernel⟩
theorem gs_isNaN : Cond.static mJxe99ae_isNaN_b9ae7.1 ∈ wsG := (wsG_of 1093 (by decide +kernel) rfl)
theorem gw_r1 : Cond.methodLink "java/lang/Double" 134 ⟨"java/lang/Double", "doubleToRawLongBits", "(D)J"⟩ ∈ wsG := (wsG_of 1095 (by decide +kernel) rfl)
theorem gw_r2 : Cond.static ⟨"java/lang/Double", "doubleToRawLongBits", "(D)J"⟩ ∈ wsG := (wsG_of 1096 (by decide +kernel) rfl)
theorem gw_r3 : Cond.native ⟨"java/lang/Double", "doubleToRawLongBits", "(D)J"⟩ ∈ wsG := (wsG_of 1097 (by decide +kernel) rfl)
theorem gw_r4 : Cond.initialized "java/lang/Double" ∈ wsG := (wsG_of 19 (by decide +kernel) rfl)
theorem g_raw {E : gEnv} {F : gFr} {t : gMt} {Q : State → Prop} {n : Nat} {σ : Option Nat} {h : gH} {kc ks pc : Nat} {L : List (Nat × Value)} {st : List Value} {own : String} {b : UInt64} (pc' : Nat) (C : gC E F t) (hd : decode (gCode t) pc = .ok (.invokestatic 134, 3)) (ho : t.1.cls = own) (hw : Cond.methodLink own 134 ⟨"java/lang/Double", "doubleToRawLongBits", "(D)J"⟩ ∈ wsG) (hfr : 1 ≤ gFrs t) (hlo : (st.map fun v => v.category).sum + 15 ≤ gLo t) (hp : pc + 3 = pc') (k : G E F t Q n σ h kc ks pc' L (.long b.toInt64 :: st)) : G E F t Q n σ h kc ks pc L (.double b :: st) := by
  subst hp
  subst ho
  intro H locs ls a1 a3 a4 a5
  exact vn_d2l C.1 C.2.1 (C.2.2.1.trans a5.1.symm) C.2.2.2.1 (C.2.2.2.2.1 _ hw) (C.2.2.2.2.1 _ gw_r3) (C.2.2.2.2.1 _ gw_r2) (C.2.2.2.2.1 _ gw_r4) hfr hlo hd (k H locs ls a1 a3 a4 a5)
theorem gShr_nn : ∀ i : Nat, i < 10 → Op.cmpValue (FP.dcmp (gShr (i : Int)) (gShr (i : Int))) .l = gi 0 := by decide +kernel
theorem gShB_e : ∀ i : Nat, i < 10 → (gShr (i : Int)).toInt64 = gShB (i : Int) := by decide +kernel
/-- the hash after i of the nine looks ahead -/
def dcN (T : gTt) (h : Int64) : Nat → Int64
  | 0 => h
  | i + 1 => mxi (dcN T h i) (pOut (T.1.1 ((i / 3 : Nat) : Int)) 1 0 ((i % 3 : Nat) : Int))
theorem dcN_e (T : gTt) (h : Int64) : ∀ p : Nat, dcN T h (3 * p) = dgC T h p := by
  intro p
  induction p with
  | zero => rfl
  | succ p ih =>
    have e : ∀ j : Nat, j ≤ 3 → dcN T h (3 * p + j) = fldN (fun what => pOut (T.1.1 (p : Int)) 1 0 what) (dgC T h p) j := by
      intro j
      induction j with
      | zero => intro _; exact ih
      | succ j ihj =>
        intro hj
        show mxi (dcN T h (3 * p + j)) (pOut (T.1.1 (((3 * p + j) / 3 : Nat) : Int)) 1 0 (((3 * p + j) % 3 : Nat) : Int)) = _
        rw [ihj (by omega), show (3 * p + j) / 3 = p by omega, show (3 * p + j) % 3 = j by omega]
        rfl
    rw [show 3 * (p + 1) = 3 * p + 3 by omega]
    exact e 3 (Nat.le_refl _)
set_option maxRecDepth 100000 in
set_option maxHeartbeats 4000000 in
theorem c_Jxe99ae_isNaN_b9ae7 {E : gEnv} {n : Nat} {σ : Option Nat} {h : gH} (d : UInt64) (hd : Op.cmpValue (FP.dcmp d d) .l = gi 0) : gM E mJxe99ae_isNaN_b9ae7 [.double d] n σ h (gD (some (.int (gi (0)))) n σ (fun h9 => h9 = h)) (gNo) := by
  refine gM_of (by decide) (Nat.le_of_ble_eq_true rfl) (fun F C => ?_)
  refine g_dload_n 1 C dJxe99ae_isNaN_b9ae7_0 rfl rfl ?_
  refine g_dload_n 2 C dJxe99ae_isNaN_b9ae7_1 rfl rfl ?_
  refine g_dcmp 3 C dJxe99ae_isNaN_b9ae7_2 hd rfl ?_
  refine g_if_eq 10 6 C dJxe99ae_isNaN_b9ae7_3 rfl rfl (by omega) (fun c3 => ?_) (fun c3 => ?_)
  · skip
    refine g_iconst 11 C dJxe99ae_isNaN_b9ae7_10 rfl ?_
    exact g_zret C dJxe99ae_isNaN_b9ae7_11 rfl rfl ⟨by decide, by decide⟩ (⟨rfl, rfl, rfl, rfl⟩)
  · skip
    exact absurd c3 (by omega)
set_option maxRecDepth 100000 in
set_option maxHeartbeats 4000000 in
theorem c_Jxe99ae_doubleToLongBits_ccdee {E : gEnv} {n : Nat} {σ : Option Nat} {h : gH} (d : UInt64) (hd : Op.cmpValue (FP.dcmp d d) .l = gi 0) : gM E mJxe99ae_doubleToLongBits_ccdee [.double d] n σ h (gD (some (.long d.toInt64)) n σ (fun h9 => h9 = h)) (gNo) := by
  refine gM_of (by decide) (Nat.le_of_ble_eq_true rfl) (fun F C => ?_)
  refine g_dload_n 1 C dJxe99ae_doubleToLongBits_ccdee_0 rfl rfl ?_
  refine g_S1r 4 0 0 C dJxe99ae_doubleToLongBits_ccdee_1 rfl lk_D122 gs_isNaN ⟨⟨by decide, by decide⟩, by decide, by decide⟩ (Nat.le_of_ble_eq_true rfl) rfl rfl rfl (c_Jxe99ae_isNaN_b9ae7 d hd) g_no (fun h9 e1 => ?_)
  replace e1 := e1.symm
  subst e1
  refine g_if_ne 12 7 C dJxe99ae_doubleToLongBits_ccdee_4 rfl rfl (by omega) (fun c4 => ?_) (fun c4 => ?_)
  · skip
    exact absurd c4 (by omega)
  · skip
    refine g_dload_n 8 C dJxe99ae_doubleToLongBits_ccdee_7 rfl rfl ?_
    refine g_raw 11 C dJxe99ae_doubleToLongBits_ccdee_8 rfl gw_r1 (by decide) (by decide) rfl ?_
    exact g_lret C dJxe99ae_doubleToLongBits_ccdee_11 rfl ⟨by decide, by decide⟩ (⟨rfl, rfl, rfl, rfl⟩)
set_option maxRecDepth 100000 in
set_option maxHeartbeats 4000000 in
theorem c_X5_digest {E : gEnv} {n : Nat} {σ : Option Nat} {h : gH} (m : Nat) (T : gTt) (c0 : Int) (hmb : gB E ≤ m ∧ m + 7 ≤ gB E + n) (hM : isM E h m T c0) (hok : okT T) (hI : gIv T.1) : gM E mX5_digest [.ref m] n σ h (gD (some (.long (tDig T))) n σ (fun h9 => isM E h9 m T 0 ∧ gKp m (m + 7) h h9)) (gNo) := by
  obtain ⟨g, hs, f, fp, X0, -⟩ := hM
  have m0 := X0.1
  unfold isMo at m0
  have hokS := hok.1
  have ha0 := agrP_r (T.1.1 0)
  have ha1 := agrP_r (T.1.1 1)
  have ha2 := agrP_r (T.1.1 2)
  have hta : tAgN T = 0 + agrP (T.1.1 0) + agrP (T.1.1 1) + agrP (T.1.1 2) := rfl
  have hnn := gShr_nn (tAgN T).toNat (by omega)
  have hBe := gShB_e (tAgN T).toNat (by omega)
  rw [Int.toNat_of_nonneg (show 0 ≤ tAgN T by omega)] at hnn hBe
  have hbl := hok.2.2.2.1
  refine gM_of (by decide) (Nat.le_of_ble_eq_true rfl) (fun F C => ?_)
  refine g_aload_n 1 C dX5_digest_0 rfl rfl ?_
  refine g_iconst 2 C dX5_digest_1 rfl ?_
  refine g_putf 5 C dX5_digest_2 fp_RX5_32 rfl (by omega) m0 rfl rfl (Nat.le_of_ble_eq_true rfl) rfl ?_
  refine g_ab (fun z => isMx E z m T (gup g 6 0) hs f fp ∧ gKp m (m + 7) h z) ⟨X0.obj up_s (gKp_up (by omega)) (gup_ne (by decide)) (gup_ne (by decide)), gKp_up (by omega)⟩ (fun h1 q1 => ?_)
  obtain ⟨X1, K1⟩ := q1
  obtain ⟨x1, z1, x3, ⟨fs, x4⟩, x5, x6, x7, ⟨ft, x8, x8e⟩, x9, ⟨fm, x10⟩, ⟨fo, x11⟩⟩ := id X1
  have m1 := x1
  unfold isMo at m1
  have g6 : gup g 6 0 6 = 0 := gup_at
  refine g_aload_n 6 C dX5_digest_5 rfl rfl ?_
  refine g_ldc2l 9 C dX5_digest_6 ld_RX5_225 rfl ?_
  refine g_putf 12 C dX5_digest_9 fp_RX5_217 rfl (by omega) m1 rfl rfl (Nat.le_of_ble_eq_true rfl) rfl ?_
  refine g_ab (fun z => isMx E z m T (gup g 6 0) 2719 f fp ∧ gKp m (m + 7) h z) ⟨X1.obj up_s (gKp_up (by omega)) rfl rfl, gKp_tr K1 (gKp_up (by omega))⟩ (fun h2 q2 => ?_)
  obtain ⟨X2, K2⟩ := q2
  refine g_iconst 13 C dX5_digest_12 rfl ?_
  refine g_istore_n 14 [(1, _), (0, _)] C dX5_digest_13 (by decide) rfl rfl ?_
  have lp14 : ∀ (k9 : Nat) (i : Nat) (h1 : gH) (g1 : Int → Int), (i ≤ 8) → (isMx E h1 m T g1 (fldN (tTal T) 2719 i) f fp) → (g1 6 = 0) → (gKp m (m + 7) h h1) → 8 - i < k9 → G E F mX5_digest (gQ E F mX5_digest n (gD (some (.long (tDig T))) n σ (fun h9 => isM E h9 m T 0 ∧ gKp m (m + 7) h h9)) (gNo)) n σ h1 0 0 14 [(1, .int (gi (i : Int))), (0, .ref m)] [] := by
    intro k9
    induction k9 with
    | zero => intro i h1 g1 hi X1 g6 K1 h0; exact absurd h0 (Nat.not_lt_zero _)
    | succ k9 ih14 =>
      intro i h1 g1 hi X1 g6 K1 hk14
      obtain ⟨x1, z1, x3, ⟨fs, x4⟩, x5, x6, x7, ⟨ft, x8, x8e⟩, x9, ⟨fm, x10⟩, ⟨fo, x11⟩⟩ := id X1
      have m1 := x1
      unfold isMo at m1
      refine g_iload_n 15 C dX5_digest_14 rfl rfl ?_
      refine g_bipush 17 C dX5_digest_15 (by decide) rfl ?_
      refine g_icmp_ge 36 20 C dX5_digest_17 rfl rfl (by omega) (by omega) (fun c17 => ?_) (fun c17 => ?_)
      · skip
        have hi8 : i = 8 := by omega
        subst hi8
        refine g_iconst 37 C dX5_digest_36 rfl ?_
        refine g_istore_n 38 [(1, _), (0, _)] C dX5_digest_37 (by decide) rfl rfl ?_
        have lp38 : ∀ (k9 : Nat) (i : Nat) (h1 : gH) (g1 : Int → Int), (i ≤ 3) → (isMx E h1 m T g1 (dgB T (fldN (tTal T) 2719 8) i) f fp) → (g1 6 = 0) → (gKp m (m + 7) h h1) → 3 - i < k9 → G E F mX5_digest (gQ E F mX5_digest n (gD (some (.long (tDig T))) n σ (fun h9 => isM E h9 m T 0 ∧ gKp m (m + 7) h h9)) (gNo)) n σ h1 0 0 38 [(1, .int (gi (i : Int))), (0, .ref m)] [] := by
          intro k9
          induction k9 with
          | zero => intro i h1 g1 hi X1 g6 K1 h0; exact absurd h0 (Nat.not_lt_zero _)
          | succ k9 ih38 =>
            intro i h1 g1 hi X1 g6 K1 hk38
            obtain ⟨x1, z1, x3, ⟨fs, x4⟩, x5, x6, x7, ⟨ft, x8, x8e⟩, x9, ⟨fm, x10⟩, ⟨fo, x11⟩⟩ := id X1
            have m1 := x1
            unfold isMo at m1
            refine g_iload_n 39 C dX5_digest_38 rfl rfl ?_
            refine g_iconst 40 C dX5_digest_39 rfl ?_
            refine g_icmp_ge 54 43 C dX5_digest_40 rfl rfl (by omega) (by omega) (fun c40 => ?_) (fun c40 => ?_)
            · skip
              have hi3 : i = 3 := by omega
              subst hi3
              refine g_iconst 55 C dX5_digest_54 rfl ?_
              refine g_istore_n 56 [(1, _), (0, _)] C dX5_digest_55 (by decide) rfl rfl ?_
              have lp56 : ∀ (k9 : Nat) (i : Nat) (h1 : gH) (g1 : Int → Int), (i ≤ 9) → (isMx E h1 m T g1 (dcN T (dgB T (fldN (tTal T) 2719 8) 3) i) f fp) → (g1 6 = 0) → (gKp m (m + 7) h h1) → 9 - i < k9 → G E F mX5_digest (gQ E F mX5_digest n (gD (some (.long (tDig T))) n σ (fun h9 => isM E h9 m T 0 ∧ gKp m (m + 7) h h9)) (gNo)) n σ h1 0 0 56 [(1, .int (gi (i : Int))), (0, .ref m)] [] := by
                intro k9
                induction k9 with
                | zero => intro i h1 g1 hi X1 g6 K1 h0; exact absurd h0 (Nat.not_lt_zero _)
                | succ k9 ih56 =>
                  intro i h1 g1 hi X1 g6 K1 hk56
                  obtain ⟨x1, z1, x3, ⟨fs, x4⟩, x5, x6, x7, ⟨ft, x8, x8e⟩, x9, ⟨fm, x10⟩, ⟨fo, x11⟩⟩ := id X1
                  have m1 := x1
                  unfold isMo at m1
                  refine g_iload_n 57 C dX5_digest_56 rfl rfl ?_
                  refine g_bipush 59 C dX5_digest_57 (by decide) rfl ?_
                  refine g_icmp_ge 85 62 C dX5_digest_59 rfl rfl (by omega) (by omega) (fun c59 => ?_) (fun c59 => ?_)
                  · skip
                    have hi9 : i = 9 := by omega
                    rw [hi9, show dcN T (dgB T (fldN (tTal T) 2719 8) 3) 9 = (dgC T (dgB T (fldN (tTal T) 2719 8) 3) 3) from dcN_e T (dgB T (fldN (tTal T) 2719 8) 3) 3] at X1
                    obtain ⟨x1, z1, x3, ⟨fs, x4⟩, x5, x6, x7, ⟨ft, x8, x8e⟩, x9, ⟨fm, x10⟩, ⟨fo, x11⟩⟩ := id X1
                    have m1 := x1
                    unfold isMo at m1
                    refine g_aload_n 86 C dX5_digest_85 rfl rfl ?_
                    refine g_aload_n 87 C dX5_digest_86 rfl rfl ?_
                    refine g_V0r 90 0 0 C dX5_digest_87 rfl lk_RX5_211 gi_X5_agrees gv_X5_agrees ⟨_, _, rfl⟩ (by omega) m1 ⟨⟨by decide, by decide⟩, by decide, by decide⟩ (Nat.le_of_ble_eq_true rfl) rfl rfl rfl (c_X5_agrees m g1 (dgC T (dgB T (fldN (tTal T) 2719 8) 3) 3) f T hmb x1 z1 x3 hokS hI.X) g_no (fun h9 e87 => ?_)
                    replace e87 := e87.symm
                    subst e87
                    refine g_S1r 93 0 0 C dX5_digest_90 rfl lk_RX5_230 gs_d2lb ⟨⟨by decide, by decide⟩, by decide, by decide⟩ (Nat.le_of_ble_eq_true rfl) rfl rfl rfl (c_Jxe99ae_doubleToLongBits_ccdee (gShr (tAgN T)) hnn) g_no (fun h9 e90 => ?_)
                    replace e90 := e90.symm
                    subst e90
                    rw [hBe]
                    refine g_V1v 96 0 0 C dX5_digest_93 rfl lk_RX5_221 gi_X5_mixes gv_X5_mixes ⟨_, _, rfl⟩ (by omega) m1 ⟨⟨by decide, by decide⟩, by decide, by decide⟩ (Nat.le_of_ble_eq_true rfl) rfl rfl rfl (c_X5_mixes m g1 (dgC T (dgB T (fldN (tTal T) 2719 8) 3) 3) (gShB (tAgN T)) (by omega) x1) g_no (fun h2 e93 => ?_)
                    obtain ⟨n1, n2⟩ := e93
                    have X1 := X1.obj n1 n2 rfl rfl
                    have K1 := gKp_tr K1 (gKp_wd n2 (by omega) (by omega))
                    obtain ⟨x1, z1, x3, ⟨fs, x4⟩, x5, x6, x7, ⟨ft, x8, x8e⟩, x9, ⟨fm, x10⟩, ⟨fo, x11⟩⟩ := id X1
                    have m1 := x1
                    unfold isMo at m1
                    refine g_aload_n 97 C dX5_digest_96 rfl rfl ?_
                    refine g_aload_n 98 C dX5_digest_97 rfl rfl ?_
                    refine g_getf 101 C dX5_digest_98 fl_RX5_135 rfl (by omega) m1 rfl rfl ?_
                    rw [x9]
                    refine g_i2l 102 C dX5_digest_101 rfl ?_
                    refine g_V1v 105 0 0 C dX5_digest_102 rfl lk_RX5_221 gi_X5_mixes gv_X5_mixes ⟨_, _, rfl⟩ (by omega) m1 ⟨⟨by decide, by decide⟩, by decide, by decide⟩ (Nat.le_of_ble_eq_true rfl) rfl rfl rfl (c_X5_mixes m g1 (31 * (dgC T (dgB T (fldN (tTal T) 2719 8) 3) 3) + gShB (tAgN T)) (gi (T.2.2.1 : Int)).toInt64 (by omega) x1) g_no (fun h1 e102 => ?_)
                    obtain ⟨n1, n2⟩ := e102
                    have X1 := X1.obj n1 n2 rfl rfl
                    have K1 := gKp_tr K1 (gKp_wd n2 (by omega) (by omega))
                    refine g_iconst 106 C dX5_digest_105 rfl ?_
                    refine g_istore_n 107 [(1, _), (0, _)] C dX5_digest_106 (by decide) rfl rfl ?_
                    have lp107 : ∀ (k9 : Nat) (i : Nat) (h1 : gH) (g1 : Int → Int), (i ≤ T.2.2.1) → (isMx E h1 m T g1 (fldN T.2.2.2 (mxi (31 * (dgC T (dgB T (fldN (tTal T) 2719 8) 3) 3) + gShB (tAgN T)) (T.2.2.1 : Int)) i) f fp) → (g1 6 = 0) → (gKp m (m + 7) h h1) → T.2.2.1 - i < k9 → G E F mX5_digest (gQ E F mX5_digest n (gD (some (.long (tDig T))) n σ (fun h9 => isM E h9 m T 0 ∧ gKp m (m + 7) h h9)) (gNo)) n σ h1 0 0 107 [(1, .int (gi (i : Int))), (0, .ref m)] [] := by
                      intro k9
                      induction k9 with
                      | zero => intro i h1 g1 hi X1 g6 K1 h0; exact absurd h0 (Nat.not_lt_zero _)
                      | succ k9 ih107 =>
                        intro i h1 g1 hi X1 g6 K1 hk107
                        obtain ⟨x1, z1, x3, ⟨fs, x4⟩, x5, x6, x7, ⟨ft, x8, x8e⟩, x9, ⟨fm, x10⟩, ⟨fo, x11⟩⟩ := id X1
                        have m1 := x1
                        unfold isMo at m1
                        refine g_iload_n 108 C dX5_digest_107 rfl rfl ?_
                        refine g_aload_n 109 C dX5_digest_108 rfl rfl ?_
                        refine g_getf 112 C dX5_digest_109 fl_RX5_135 rfl (by omega) m1 rfl rfl ?_
                        rw [x9]
                        refine g_icmp_ge 132 115 C dX5_digest_112 rfl rfl (by omega) (by omega) (fun c112 => ?_) (fun c112 => ?_)
                        · skip
                          refine g_aload_n 133 C dX5_digest_132 rfl rfl ?_
                          refine g_getf 136 C dX5_digest_133 fl_RX5_217 rfl (by omega) m1 rfl rfl ?_
                          exact g_lret C dX5_digest_136 rfl ⟨by decide, by decide⟩ (by rw [show i = T.2.2.1 by omega] at X1 ⊢; exact ⟨rfl, rfl, rfl, ⟨_, _, _, _, X1, g6⟩, K1⟩)
                        · skip
                          refine g_aload_n 116 C dX5_digest_115 rfl rfl ?_
                          refine g_aload_n 117 C dX5_digest_116 rfl rfl ?_
                          refine g_getf 120 C dX5_digest_117 fl_RX5_19 rfl (by omega) m1 rfl rfl ?_
                          refine g_iload_n 121 C dX5_digest_120 rfl rfl ?_
                          refine g_iald 122 C dX5_digest_121 (by omega) x8 (by omega) (by decide) rfl ?_
                          rw [x8e (i : Int) (by omega) (by omega)]
                          refine g_i2l 123 C dX5_digest_122 rfl ?_
                          refine g_V1v 126 0 0 C dX5_digest_123 rfl lk_RX5_221 gi_X5_mixes gv_X5_mixes ⟨_, _, rfl⟩ (by omega) m1 ⟨⟨by decide, by decide⟩, by decide, by decide⟩ (Nat.le_of_ble_eq_true rfl) rfl rfl rfl (c_X5_mixes m g1 (fldN T.2.2.2 (mxi (31 * (dgC T (dgB T (fldN (tTal T) 2719 8) 3) 3) + gShB (tAgN T)) (T.2.2.1 : Int)) i) (gi (T.2.2.2 (i : Int))).toInt64 (by omega) x1) g_no (fun h2 e123 => ?_)
                          obtain ⟨n1, n2⟩ := e123
                          have X2 := X1.obj n1 n2 rfl rfl
                          have K2 := gKp_tr K1 (gKp_wd n2 (by omega) (by omega))
                          refine g_iinc 129 [(1, _), (0, _)] C dX5_digest_126 rfl (by decide) rfl rfl ?_
                          refine g_goto 107 C dX5_digest_129 rfl ?_
                          refine g_loc [(1, _), (0, _)] ⟨rfl, rfl, trivial⟩ ?_
                          exact ih107 (i + 1) _ _ (by omega) X2 g6 K2 (by omega)
                    refine g_loc [(1, _), (0, _)] ⟨rfl, rfl, trivial⟩ ?_
                    exact lp107 _ 0 h1 _ (by omega) X1 g6 K1 (Nat.lt_succ_self _)
                  · skip
                    refine g_aload_n 63 C dX5_digest_62 rfl rfl ?_
                    refine g_aload_n 64 C dX5_digest_63 rfl rfl ?_
                    refine g_iconst 65 C dX5_digest_64 rfl ?_
                    refine g_iconst 66 C dX5_digest_65 rfl ?_
                    refine g_iload_n 67 C dX5_digest_66 rfl rfl ?_
                    refine g_iconst 68 C dX5_digest_67 rfl ?_
                    refine g_idiv 69 C dX5_digest_68 (by omega) (by omega) rfl ?_
                    refine g_iload_n 70 C dX5_digest_69 rfl rfl ?_
                    refine g_iconst 71 C dX5_digest_70 rfl ?_
                    refine g_irem 72 C dX5_digest_71 (by omega) (by omega) rfl ?_
                    rw [show (i : Int) / 3 = ((i / 3 : Nat) : Int) from rfl, show (i : Int) % 3 = ((i % 3 : Nat) : Int) from rfl]
                    refine g_V4r 75 0 0 C dX5_digest_72 rfl lk_RX5_206 gi_X5_pulled gv_X5_pulled ⟨_, _, rfl⟩ (by omega) m1 ⟨⟨by decide, by decide⟩, by decide, by decide⟩ (Nat.le_of_ble_eq_true rfl) rfl rfl rfl (c_X5_pulled m T g1 (dcN T (dgB T (fldN (tTal T) 2719 8) 3) i) f fp 1 0 ((i / 3 : Nat) : Int) ((i % 3 : Nat) : Int) hmb X1 hokS hI (by omega) (by omega) (by omega) (by omega)) g_no (fun h2 e72 => ?_)
                    obtain ⟨⟨g2, X2, g26⟩, k2⟩ := e72
                    have K2 := gKp_tr K1 k2
                    have m2 := X2.1
                    unfold isMo at m2
                    have g36 := g26.trans g6
                    refine g_i2l 76 C dX5_digest_75 rfl ?_
                    refine g_V1v 79 0 0 C dX5_digest_76 rfl lk_RX5_221 gi_X5_mixes gv_X5_mixes ⟨_, _, rfl⟩ (by omega) m2 ⟨⟨by decide, by decide⟩, by decide, by decide⟩ (Nat.le_of_ble_eq_true rfl) rfl rfl rfl (c_X5_mixes m g2 (dcN T (dgB T (fldN (tTal T) 2719 8) 3) i) (gi (pOut (T.1.1 ((i / 3 : Nat) : Int)) 1 0 ((i % 3 : Nat) : Int))).toInt64 (by omega) X2.1) g_no (fun h3 e76 => ?_)
                    obtain ⟨n1, n2⟩ := e76
                    have X3 := X2.obj n1 n2 rfl rfl
                    have K3 := gKp_tr K2 (gKp_wd n2 (by omega) (by omega))
                    refine g_iinc 82 [(1, _), (0, _)] C dX5_digest_79 rfl (by decide) rfl rfl ?_
                    refine g_goto 56 C dX5_digest_82 rfl ?_
                    refine g_loc [(1, _), (0, _)] ⟨rfl, rfl, trivial⟩ ?_
                    exact ih56 (i + 1) _ _ (by omega) X3 g36 K3 (by omega)
              refine g_loc [(1, _), (0, _)] ⟨rfl, rfl, trivial⟩ ?_
              exact lp56 _ 0 h1 _ (by omega) X1 g6 K1 (Nat.lt_succ_self _)
            · skip
              refine g_aload_n 44 C dX5_digest_43 rfl rfl ?_
              refine g_iload_n 45 C dX5_digest_44 rfl rfl ?_
              refine g_V1v 48 0 0 C dX5_digest_45 rfl lk_RX5_227 gi_X5_mixesKey gv_X5_mixesKey ⟨_, _, rfl⟩ (by omega) m1 ⟨⟨by decide, by decide⟩, by decide, by decide⟩ (Nat.le_of_ble_eq_true rfl) rfl rfl rfl (c_X5_mixesKey m g1 (dgB T (fldN (tTal T) 2719 8) i) f (i : Int) (T.1.1 (i : Int)) hmb x1 z1 (by omega) (x3.1 (i : Int) (by omega) (by omega)) (hokS (i : Int) (by omega) (by omega)) (hI (i : Int) (by omega) (by omega)).1) g_no (fun h2 e45 => ?_)
              obtain ⟨n1, n2⟩ := e45
              have X2 := X1.obj n1 n2 rfl rfl
              have K2 := gKp_tr K1 (gKp_wd n2 (by omega) (by omega))
              refine g_iinc 51 [(1, _), (0, _)] C dX5_digest_48 rfl (by decide) rfl rfl ?_
              refine g_goto 38 C dX5_digest_51 rfl ?_
              refine g_loc [(1, _), (0, _)] ⟨rfl, rfl, trivial⟩ ?_
              exact ih38 (i + 1) _ _ (by omega) X2 g6 K2 (by omega)
        refine g_loc [(1, _), (0, _)] ⟨rfl, rfl, trivial⟩ ?_
        exact lp38 _ 0 h1 _ (by omega) X1 g6 K1 (Nat.lt_succ_self _)
      · skip
        refine g_aload_n 21 C dX5_digest_20 rfl rfl ?_
        refine g_aload_n 22 C dX5_digest_21 rfl rfl ?_
        refine g_iload_n 23 C dX5_digest_22 rfl rfl ?_
        refine g_V1r 26 0 0 C dX5_digest_23 rfl lk_RX5_200 gi_X5_counted gv_X5_counted ⟨_, _, rfl⟩ (by omega) m1 ⟨⟨by decide, by decide⟩, by decide, by decide⟩ (Nat.le_of_ble_eq_true rfl) rfl rfl rfl (c_X5_counted m g1 (fldN (tTal T) 2719 i) f T (i : Int) hmb x1 z1 x3 hokS x6 (by omega)) g_no (fun h9 e23 => ?_)
        replace e23 := e23.symm
        subst e23
        refine g_i2l 27 C dX5_digest_26 rfl ?_
        refine g_V1v 30 0 0 C dX5_digest_27 rfl lk_RX5_221 gi_X5_mixes gv_X5_mixes ⟨_, _, rfl⟩ (by omega) m1 ⟨⟨by decide, by decide⟩, by decide, by decide⟩ (Nat.le_of_ble_eq_true rfl) rfl rfl rfl (c_X5_mixes m g1 (fldN (tTal T) 2719 i) (gi (tTal T (i : Int))).toInt64 (by omega) x1) g_no (fun h2 e27 => ?_)
        obtain ⟨n1, n2⟩ := e27
        have X2 := X1.obj n1 n2 rfl rfl
        have K2 := gKp_tr K1 (gKp_wd n2 (by omega) (by omega))
        refine g_iinc 33 [(1, _), (0, _)] C dX5_digest_30 rfl (by decide) rfl rfl ?_
        refine g_goto 14 C dX5_digest_33 rfl ?_
        refine g_loc [(1, _), (0, _)] ⟨rfl, rfl, trivial⟩ ?_
        exact ih14 (i + 1) _ _ (by omega) X2 g6 K2 (by omega)
  refine g_loc [(1, _), (0, _)] ⟨rfl, rfl, trivial⟩ ?_
  exact lp14 _ 0 h2 _ (by omega) X2 g6 K2 (Nat.lt_succ_self _)
