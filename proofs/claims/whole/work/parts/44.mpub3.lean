/-! SiblingJoinsModel: its public looks, texts -/
set_option maxRecDepth 100000 in
set_option maxHeartbeats 4000000 in
theorem c_X5_whyNot {E : gEnv} {n : Nat} {σ : Option Nat} {h : gH} (m : Nat) (T : gTt) (c0 : Int) (w k : Int) (hmb : gB E ≤ m ∧ m + 7 ≤ gB E + n) (hM : isM E h m T c0) (hok : okT T) (hI : gIv T.1) (hwr : -2147483648 ≤ w ∧ w < 2147483648) (hkr : -2147483648 ≤ k ∧ k < 2147483648) : gM E mX5_whyNot [.ref m, .int (gi w), .int (gi k)] n σ h (gRM E h m n σ (oWhy T w k)) (gNo) := by
  obtain ⟨g, hs, f, fp, X0, -⟩ := hM
  have m0 := X0.1
  unfold isMo at m0
  have hokS := hok.1
  refine gM_of (by decide) (Nat.le_of_ble_eq_true rfl) (fun F C => ?_)
  refine g_aload_n 1 C dX5_whyNot_0 rfl rfl ?_
  refine g_iconst 2 C dX5_whyNot_1 rfl ?_
  refine g_putf 5 C dX5_whyNot_2 fp_RX5_32 rfl (by omega) m0 rfl rfl (Nat.le_of_ble_eq_true rfl) rfl ?_
  refine g_ab (fun z => isMx E z m T (gup g 6 0) hs f fp ∧ gKp m (m + 7) h z) ⟨X0.obj up_s (gKp_up (by omega)) (gup_ne (by decide)) (gup_ne (by decide)), gKp_up (by omega)⟩ (fun h1 q1 => ?_)
  obtain ⟨X1, K1⟩ := q1
  obtain ⟨x1, z1, x3, ⟨fs, x4⟩, x5, x6, x7, ⟨ft, x8, x8e⟩, x9, ⟨fm, x10⟩, ⟨fo, x11⟩⟩ := id X1
  have m1 := x1
  unfold isMo at m1
  have g6 : gup g 6 0 6 = 0 := gup_at
  refine g_iload_n 6 C dX5_whyNot_5 rfl rfl ?_
  refine g_S1r 9 0 0 C dX5_whyNot_6 rfl lk_RX5_82 gs_X5_isWriter ⟨⟨by decide, by decide⟩, by decide, by decide⟩ (Nat.le_of_ble_eq_true rfl) rfl rfl rfl (c_X5_isWriter w hwr) g_no (fun h9 e6 => ?_)
  replace e6 := e6.symm
  subst e6
  refine g_if_eq 28 12 C dX5_whyNot_9 rfl rfl (gbi_r _) (fun c9 => ?_) (fun c9 => ?_)
  · skip
    have w9 := of_decide_eq_false (gbi_0 c9)
    refine g_aload_n 29 C dX5_whyNot_28 rfl rfl ?_
    refine g_iconst 30 C dX5_whyNot_29 rfl ?_
    refine g_V1r 33 0 0 C dX5_whyNot_30 rfl lk_RX5_39 gi_X5_fails gv_X5_fails ⟨_, _, rfl⟩ (by omega) m1 ⟨⟨by decide, by decide⟩, by decide, by decide⟩ (Nat.le_of_ble_eq_true rfl) rfl rfl rfl (c_X5_fails m (gup g 6 0) hs 1 (by omega) x1) g_no (fun h2 e30 => ?_)
    obtain ⟨n1, n2⟩ := e30
    exact g_iret C dX5_whyNot_33 rfl ⟨by decide, by decide⟩ (mret (by unfold oWhy; exact if_neg (by omega)) rfl ⟨_, _, _, _, X1.obj n1 n2 (gup_ne (by decide)) (gup_ne (by decide)), gup_at⟩ (gKp_tr K1 (gKp_wd n2 (by omega) (by omega))))
  · skip
    have w9 := of_decide_eq_true (gbi_1 c9)
    refine g_iload_n 13 C dX5_whyNot_12 rfl rfl ?_
    refine g_S1r 16 0 0 C dX5_whyNot_13 rfl lk_RX5_86 gs_X5_isKey ⟨⟨by decide, by decide⟩, by decide, by decide⟩ (Nat.le_of_ble_eq_true rfl) rfl rfl rfl (c_X5_isKey k hkr) g_no (fun h9 e13 => ?_)
    replace e13 := e13.symm
    subst e13
    refine g_if_eq 28 19 C dX5_whyNot_16 rfl rfl (gbi_r _) (fun c16 => ?_) (fun c16 => ?_)
    · skip
      have w16 := of_decide_eq_false (gbi_0 c16)
      refine g_aload_n 29 C dX5_whyNot_28 rfl rfl ?_
      refine g_iconst 30 C dX5_whyNot_29 rfl ?_
      refine g_V1r 33 0 0 C dX5_whyNot_30 rfl lk_RX5_39 gi_X5_fails gv_X5_fails ⟨_, _, rfl⟩ (by omega) m1 ⟨⟨by decide, by decide⟩, by decide, by decide⟩ (Nat.le_of_ble_eq_true rfl) rfl rfl rfl (c_X5_fails m (gup g 6 0) hs 1 (by omega) x1) g_no (fun h2 e30 => ?_)
      obtain ⟨n1, n2⟩ := e30
      exact g_iret C dX5_whyNot_33 rfl ⟨by decide, by decide⟩ (mret (by unfold oWhy; exact if_neg (by omega)) rfl ⟨_, _, _, _, X1.obj n1 n2 (gup_ne (by decide)) (gup_ne (by decide)), gup_at⟩ (gKp_tr K1 (gKp_wd n2 (by omega) (by omega))))
    · skip
      have w16 := of_decide_eq_true (gbi_1 c16)
      refine g_aload_n 20 C dX5_whyNot_19 rfl rfl ?_
      refine g_iload_n 21 C dX5_whyNot_20 rfl rfl ?_
      refine g_iload_n 22 C dX5_whyNot_21 rfl rfl ?_
      have hRk := x3.1 k (by omega) (by omega)
      have hoK := hokS k (by omega) (by omega)
      refine g_V2r 25 0 0 C dX5_whyNot_22 rfl lk_RX5_109 gi_X5_why gv_X5_why ⟨_, _, rfl⟩ (by omega) m1 ⟨⟨by decide, by decide⟩, by decide, by decide⟩ (Nat.le_of_ble_eq_true rfl) rfl rfl rfl (c_X5_why m (gup g 6 0) hs f k (T.1.1 k) w hmb x1 z1 (by omega) hRk hoK (by omega)) g_no (fun h9 e22 => ?_)
      replace e22 := e22.symm
      subst e22
      refine g_goto 33 C dX5_whyNot_25 rfl ?_
      exact g_iret C dX5_whyNot_33 rfl ⟨by decide, by decide⟩ (mret (by unfold oWhy; exact if_pos (by omega)) rfl ⟨_, _, _, _, X1, g6⟩ (K1))
set_option maxRecDepth 100000 in
set_option maxHeartbeats 4000000 in
theorem c_X5_knows {E : gEnv} {n : Nat} {σ : Option Nat} {h : gH} (m : Nat) (T : gTt) (c0 : Int) (w k o : Int) (hmb : gB E ≤ m ∧ m + 7 ≤ gB E + n) (hM : isM E h m T c0) (hok : okT T) (hI : gIv T.1) (hwr : -2147483648 ≤ w ∧ w < 2147483648) (hkr : -2147483648 ≤ k ∧ k < 2147483648) (hor : -2147483648 ≤ o ∧ o < 2147483648) : gM E mX5_knows [.ref m, .int (gi w), .int (gi k), .int (gi o)] n σ h (gRM E h m n σ (oKnows T w k o)) (gNo) := by
  obtain ⟨g, hs, f, fp, X0, -⟩ := hM
  have m0 := X0.1
  unfold isMo at m0
  have hokS := hok.1
  refine gM_of (by decide) (Nat.le_of_ble_eq_true rfl) (fun F C => ?_)
  refine g_aload_n 1 C dX5_knows_0 rfl rfl ?_
  refine g_iconst 2 C dX5_knows_1 rfl ?_
  refine g_putf 5 C dX5_knows_2 fp_RX5_32 rfl (by omega) m0 rfl rfl (Nat.le_of_ble_eq_true rfl) rfl ?_
  refine g_ab (fun z => isMx E z m T (gup g 6 0) hs f fp ∧ gKp m (m + 7) h z) ⟨X0.obj up_s (gKp_up (by omega)) (gup_ne (by decide)) (gup_ne (by decide)), gKp_up (by omega)⟩ (fun h1 q1 => ?_)
  obtain ⟨X1, K1⟩ := q1
  obtain ⟨x1, z1, x3, ⟨fs, x4⟩, x5, x6, x7, ⟨ft, x8, x8e⟩, x9, ⟨fm, x10⟩, ⟨fo, x11⟩⟩ := id X1
  have m1 := x1
  unfold isMo at m1
  have g6 : gup g 6 0 6 = 0 := gup_at
  refine g_iload_n 6 C dX5_knows_5 rfl rfl ?_
  refine g_S1r 9 0 0 C dX5_knows_6 rfl lk_RX5_82 gs_X5_isWriter ⟨⟨by decide, by decide⟩, by decide, by decide⟩ (Nat.le_of_ble_eq_true rfl) rfl rfl rfl (c_X5_isWriter w hwr) g_no (fun h9 e6 => ?_)
  replace e6 := e6.symm
  subst e6
  refine g_if_eq 41 12 C dX5_knows_9 rfl rfl (gbi_r _) (fun c9 => ?_) (fun c9 => ?_)
  · skip
    have w9 := of_decide_eq_false (gbi_0 c9)
    refine g_aload_n 42 C dX5_knows_41 rfl rfl ?_
    refine g_iconst 43 C dX5_knows_42 rfl ?_
    refine g_V1r 46 0 0 C dX5_knows_43 rfl lk_RX5_39 gi_X5_fails gv_X5_fails ⟨_, _, rfl⟩ (by omega) m1 ⟨⟨by decide, by decide⟩, by decide, by decide⟩ (Nat.le_of_ble_eq_true rfl) rfl rfl rfl (c_X5_fails m (gup g 6 0) hs 1 (by omega) x1) g_no (fun h2 e43 => ?_)
    obtain ⟨n1, n2⟩ := e43
    exact g_iret C dX5_knows_46 rfl ⟨by decide, by decide⟩ (mret (by unfold oKnows; exact if_neg (by omega)) rfl ⟨_, _, _, _, X1.obj n1 n2 (gup_ne (by decide)) (gup_ne (by decide)), gup_at⟩ (gKp_tr K1 (gKp_wd n2 (by omega) (by omega))))
  · skip
    have w9 := of_decide_eq_true (gbi_1 c9)
    refine g_iload_n 13 C dX5_knows_12 rfl rfl ?_
    refine g_S1r 16 0 0 C dX5_knows_13 rfl lk_RX5_86 gs_X5_isKey ⟨⟨by decide, by decide⟩, by decide, by decide⟩ (Nat.le_of_ble_eq_true rfl) rfl rfl rfl (c_X5_isKey k hkr) g_no (fun h9 e13 => ?_)
    replace e13 := e13.symm
    subst e13
    refine g_if_eq 41 19 C dX5_knows_16 rfl rfl (gbi_r _) (fun c16 => ?_) (fun c16 => ?_)
    · skip
      have w16 := of_decide_eq_false (gbi_0 c16)
      refine g_aload_n 42 C dX5_knows_41 rfl rfl ?_
      refine g_iconst 43 C dX5_knows_42 rfl ?_
      refine g_V1r 46 0 0 C dX5_knows_43 rfl lk_RX5_39 gi_X5_fails gv_X5_fails ⟨_, _, rfl⟩ (by omega) m1 ⟨⟨by decide, by decide⟩, by decide, by decide⟩ (Nat.le_of_ble_eq_true rfl) rfl rfl rfl (c_X5_fails m (gup g 6 0) hs 1 (by omega) x1) g_no (fun h2 e43 => ?_)
      obtain ⟨n1, n2⟩ := e43
      exact g_iret C dX5_knows_46 rfl ⟨by decide, by decide⟩ (mret (by unfold oKnows; exact if_neg (by omega)) rfl ⟨_, _, _, _, X1.obj n1 n2 (gup_ne (by decide)) (gup_ne (by decide)), gup_at⟩ (gKp_tr K1 (gKp_wd n2 (by omega) (by omega))))
    · skip
      have w16 := of_decide_eq_true (gbi_1 c16)
      refine g_iload_n 20 C dX5_knows_19 rfl rfl ?_
      refine g_S1r 23 0 0 C dX5_knows_20 rfl lk_RX5_82 gs_X5_isWriter ⟨⟨by decide, by decide⟩, by decide, by decide⟩ (Nat.le_of_ble_eq_true rfl) rfl rfl rfl (c_X5_isWriter o hor) g_no (fun h9 e20 => ?_)
      replace e20 := e20.symm
      subst e20
      refine g_if_eq 41 26 C dX5_knows_23 rfl rfl (gbi_r _) (fun c23 => ?_) (fun c23 => ?_)
      · skip
        have w23 := of_decide_eq_false (gbi_0 c23)
        refine g_aload_n 42 C dX5_knows_41 rfl rfl ?_
        refine g_iconst 43 C dX5_knows_42 rfl ?_
        refine g_V1r 46 0 0 C dX5_knows_43 rfl lk_RX5_39 gi_X5_fails gv_X5_fails ⟨_, _, rfl⟩ (by omega) m1 ⟨⟨by decide, by decide⟩, by decide, by decide⟩ (Nat.le_of_ble_eq_true rfl) rfl rfl rfl (c_X5_fails m (gup g 6 0) hs 1 (by omega) x1) g_no (fun h2 e43 => ?_)
        obtain ⟨n1, n2⟩ := e43
        exact g_iret C dX5_knows_46 rfl ⟨by decide, by decide⟩ (mret (by unfold oKnows; exact if_neg (by omega)) rfl ⟨_, _, _, _, X1.obj n1 n2 (gup_ne (by decide)) (gup_ne (by decide)), gup_at⟩ (gKp_tr K1 (gKp_wd n2 (by omega) (by omega))))
      · skip
        have w23 := of_decide_eq_true (gbi_1 c23)
        refine g_aload_n 27 C dX5_knows_26 rfl rfl ?_
        refine g_getf 30 C dX5_knows_27 fl_RX5_7 rfl (by omega) m1 rfl rfl ?_
        refine g_iload_n 31 C dX5_knows_30 rfl rfl ?_
        refine g_iload_n 32 C dX5_knows_31 rfl rfl ?_
        have hRk := x3.1 k (by omega) (by omega)
        have hoK := hokS k (by omega) (by omega)
        refine g_S2r 35 0 0 C dX5_knows_32 rfl lk_RX5_54 gs_X5_knowsAt ⟨⟨by decide, by decide⟩, by decide, by decide⟩ (Nat.le_of_ble_eq_true rfl) rfl rfl rfl (c_X5_knowsAt k w) g_no (fun h9 e32 => ?_)
        replace e32 := e32.symm
        subst e32
        refine g_iload_n 36 C dX5_knows_35 rfl rfl ?_
        refine g_iadd 37 C dX5_knows_36 rfl ?_
        refine g_iald 38 C dX5_knows_37 (by omega) z1 (by omega) (by decide) rfl ?_
        rw [hRk.2.1 w (by omega) (by omega) o (by omega) (by omega)]
        refine g_goto 46 C dX5_knows_38 rfl ?_
        exact g_iret C dX5_knows_46 rfl ⟨by decide, by decide⟩ (mret (by unfold oKnows; exact if_pos (by omega)) rfl ⟨_, _, _, _, X1, g6⟩ (K1))
set_option maxRecDepth 100000 in
set_option maxHeartbeats 4000000 in
theorem c_X5_key {E : gEnv} {n : Nat} {σ : Option Nat} {h : gH} (m : Nat) (T : gTt) (c0 : Int) (k what : Int) (hmb : gB E ≤ m ∧ m + 7 ≤ gB E + n) (hM : isM E h m T c0) (hok : okT T) (hI : gIv T.1) (hkr : -2147483648 ≤ k ∧ k < 2147483648) (hwhatr : -2147483648 ≤ what ∧ what < 2147483648) : gM E mX5_key [.ref m, .int (gi k), .int (gi what)] n σ h (gRM E h m n σ (oKey T k what)) (gNo) := by
  obtain ⟨g, hs, f, fp, X0, -⟩ := hM
  have m0 := X0.1
  unfold isMo at m0
  have hokS := hok.1
  refine gM_of (by decide) (Nat.le_of_ble_eq_true rfl) (fun F C => ?_)
  refine g_aload_n 1 C dX5_key_0 rfl rfl ?_
  refine g_iconst 2 C dX5_key_1 rfl ?_
  refine g_putf 5 C dX5_key_2 fp_RX5_32 rfl (by omega) m0 rfl rfl (Nat.le_of_ble_eq_true rfl) rfl ?_
  refine g_ab (fun z => isMx E z m T (gup g 6 0) hs f fp ∧ gKp m (m + 7) h z) ⟨X0.obj up_s (gKp_up (by omega)) (gup_ne (by decide)) (gup_ne (by decide)), gKp_up (by omega)⟩ (fun h1 q1 => ?_)
  obtain ⟨X1, K1⟩ := q1
  obtain ⟨x1, z1, x3, ⟨fs, x4⟩, x5, x6, x7, ⟨ft, x8, x8e⟩, x9, ⟨fm, x10⟩, ⟨fo, x11⟩⟩ := id X1
  have m1 := x1
  unfold isMo at m1
  have g6 : gup g 6 0 6 = 0 := gup_at
  refine g_iload_n 6 C dX5_key_5 rfl rfl ?_
  refine g_S1r 9 0 0 C dX5_key_6 rfl lk_RX5_86 gs_X5_isKey ⟨⟨by decide, by decide⟩, by decide, by decide⟩ (Nat.le_of_ble_eq_true rfl) rfl rfl rfl (c_X5_isKey k hkr) g_no (fun h9 e6 => ?_)
  replace e6 := e6.symm
  subst e6
  refine g_if_ne 18 12 C dX5_key_9 rfl rfl (gbi_r _) (fun c9 => ?_) (fun c9 => ?_)
  · skip
    have w9 := of_decide_eq_true (gbi_1 c9)
    refine g_iload_n 19 C dX5_key_18 rfl rfl ?_
    refine g_iconst 20 C dX5_key_19 rfl ?_
    refine g_bipush 22 C dX5_key_20 (by decide) rfl ?_
    refine g_S3r 25 0 0 C dX5_key_22 rfl lk_RX5_35 gs_X5_in ⟨⟨by decide, by decide⟩, by decide, by decide⟩ (Nat.le_of_ble_eq_true rfl) rfl rfl rfl (c_X5_in what 0 7 hwhatr (by decide) (by decide)) g_no (fun h9 e22 => ?_)
    replace e22 := e22.symm
    subst e22
    refine g_if_eq 37 28 C dX5_key_25 rfl rfl (gbi_r _) (fun c25 => ?_) (fun c25 => ?_)
    · skip
      have w25 := of_decide_eq_false (gbi_0 c25)
      refine g_aload_n 38 C dX5_key_37 rfl rfl ?_
      refine g_iconst 39 C dX5_key_38 rfl ?_
      refine g_V1r 42 0 0 C dX5_key_39 rfl lk_RX5_39 gi_X5_fails gv_X5_fails ⟨_, _, rfl⟩ (by omega) m1 ⟨⟨by decide, by decide⟩, by decide, by decide⟩ (Nat.le_of_ble_eq_true rfl) rfl rfl rfl (c_X5_fails m (gup g 6 0) hs 2 (by omega) x1) g_no (fun h2 e39 => ?_)
      obtain ⟨n1, n2⟩ := e39
      exact g_iret C dX5_key_42 rfl ⟨by decide, by decide⟩ (mret (by unfold oKey; rw [if_pos (show 0 ≤ k ∧ k < 3 by omega)]; exact if_neg w25) rfl ⟨_, _, _, _, X1.obj n1 n2 (gup_ne (by decide)) (gup_ne (by decide)), gup_at⟩ (gKp_tr K1 (gKp_wd n2 (by omega) (by omega))))
    · skip
      have w25 := of_decide_eq_true (gbi_1 c25)
      refine g_aload_n 29 C dX5_key_28 rfl rfl ?_
      refine g_iload_n 30 C dX5_key_29 rfl rfl ?_
      refine g_iload_n 31 C dX5_key_30 rfl rfl ?_
      have hRk := x3.1 k (by omega) (by omega)
      have hoK := hokS k (by omega) (by omega)
      refine g_V2r 34 0 0 C dX5_key_31 rfl lk_RX5_197 gi_X5_ofKey gv_X5_ofKey ⟨_, _, rfl⟩ (by omega) m1 ⟨⟨by decide, by decide⟩, by decide, by decide⟩ (Nat.le_of_ble_eq_true rfl) rfl rfl rfl (c_X5_ofKey m (gup g 6 0) hs f k (T.1.1 k) what hmb x1 z1 (by omega) hRk hoK (hI k (by omega) (by omega)).1 w25) g_no (fun h9 e31 => ?_)
      replace e31 := e31.symm
      subst e31
      refine g_goto 42 C dX5_key_34 rfl ?_
      exact g_iret C dX5_key_42 rfl ⟨by decide, by decide⟩ (mret (by unfold oKey; rw [if_pos (show 0 ≤ k ∧ k < 3 by omega)]; exact if_pos w25) rfl ⟨_, _, _, _, X1, g6⟩ (K1))
  · skip
    have w9 := of_decide_eq_false (gbi_0 c9)
    refine g_aload_n 13 C dX5_key_12 rfl rfl ?_
    refine g_iconst 14 C dX5_key_13 rfl ?_
    refine g_V1r 17 0 0 C dX5_key_14 rfl lk_RX5_39 gi_X5_fails gv_X5_fails ⟨_, _, rfl⟩ (by omega) m1 ⟨⟨by decide, by decide⟩, by decide, by decide⟩ (Nat.le_of_ble_eq_true rfl) rfl rfl rfl (c_X5_fails m (gup g 6 0) hs 1 (by omega) x1) g_no (fun h2 e14 => ?_)
    obtain ⟨n1, n2⟩ := e14
    exact g_iret C dX5_key_17 rfl ⟨by decide, by decide⟩ (mret (by unfold oKey; exact if_neg (by omega)) rfl ⟨_, _, _, _, X1.obj n1 n2 (gup_ne (by decide)) (gup_ne (by decide)), gup_at⟩ (gKp_tr K1 (gKp_wd n2 (by omega) (by omega))))
set_option maxRecDepth 100000 in
set_option maxHeartbeats 4000000 in
theorem c_X5_count {E : gEnv} {n : Nat} {σ : Option Nat} {h : gH} (m : Nat) (T : gTt) (c0 : Int) (what : Int) (hmb : gB E ≤ m ∧ m + 7 ≤ gB E + n) (hM : isM E h m T c0) (hok : okT T) (hI : gIv T.1) (hwhatr : -2147483648 ≤ what ∧ what < 2147483648) : gM E mX5_count [.ref m, .int (gi what)] n σ h (gRM E h m n σ (oCount T what)) (gNo) := by
  obtain ⟨g, hs, f, fp, X0, -⟩ := hM
  have m0 := X0.1
  unfold isMo at m0
  have hokS := hok.1
  refine gM_of (by decide) (Nat.le_of_ble_eq_true rfl) (fun F C => ?_)
  refine g_aload_n 1 C dX5_count_0 rfl rfl ?_
  refine g_iconst 2 C dX5_count_1 rfl ?_
  refine g_putf 5 C dX5_count_2 fp_RX5_32 rfl (by omega) m0 rfl rfl (Nat.le_of_ble_eq_true rfl) rfl ?_
  refine g_ab (fun z => isMx E z m T (gup g 6 0) hs f fp ∧ gKp m (m + 7) h z) ⟨X0.obj up_s (gKp_up (by omega)) (gup_ne (by decide)) (gup_ne (by decide)), gKp_up (by omega)⟩ (fun h1 q1 => ?_)
  obtain ⟨X1, K1⟩ := q1
  obtain ⟨x1, z1, x3, ⟨fs, x4⟩, x5, x6, x7, ⟨ft, x8, x8e⟩, x9, ⟨fm, x10⟩, ⟨fo, x11⟩⟩ := id X1
  have m1 := x1
  unfold isMo at m1
  have g6 : gup g 6 0 6 = 0 := gup_at
  refine g_iload_n 6 C dX5_count_5 rfl rfl ?_
  refine g_iconst 7 C dX5_count_6 rfl ?_
  refine g_bipush 9 C dX5_count_7 (by decide) rfl ?_
  refine g_S3r 12 0 0 C dX5_count_9 rfl lk_RX5_35 gs_X5_in ⟨⟨by decide, by decide⟩, by decide, by decide⟩ (Nat.le_of_ble_eq_true rfl) rfl rfl rfl (c_X5_in what 0 7 hwhatr (by decide) (by decide)) g_no (fun h9 e9 => ?_)
  replace e9 := e9.symm
  subst e9
  refine g_if_eq 23 15 C dX5_count_12 rfl rfl (gbi_r _) (fun c12 => ?_) (fun c12 => ?_)
  · skip
    have w12 := of_decide_eq_false (gbi_0 c12)
    refine g_aload_n 24 C dX5_count_23 rfl rfl ?_
    refine g_iconst 25 C dX5_count_24 rfl ?_
    refine g_V1r 28 0 0 C dX5_count_25 rfl lk_RX5_39 gi_X5_fails gv_X5_fails ⟨_, _, rfl⟩ (by omega) m1 ⟨⟨by decide, by decide⟩, by decide, by decide⟩ (Nat.le_of_ble_eq_true rfl) rfl rfl rfl (c_X5_fails m (gup g 6 0) hs 1 (by omega) x1) g_no (fun h2 e25 => ?_)
    obtain ⟨n1, n2⟩ := e25
    exact g_iret C dX5_count_28 rfl ⟨by decide, by decide⟩ (mret (by unfold oCount; exact if_neg w12) rfl ⟨_, _, _, _, X1.obj n1 n2 (gup_ne (by decide)) (gup_ne (by decide)), gup_at⟩ (gKp_tr K1 (gKp_wd n2 (by omega) (by omega))))
  · skip
    have w12 := of_decide_eq_true (gbi_1 c12)
    refine g_aload_n 16 C dX5_count_15 rfl rfl ?_
    refine g_iload_n 17 C dX5_count_16 rfl rfl ?_
    refine g_V1r 20 0 0 C dX5_count_17 rfl lk_RX5_200 gi_X5_counted gv_X5_counted ⟨_, _, rfl⟩ (by omega) m1 ⟨⟨by decide, by decide⟩, by decide, by decide⟩ (Nat.le_of_ble_eq_true rfl) rfl rfl rfl (c_X5_counted m (gup g 6 0) hs f T what hmb x1 z1 x3 hokS x6 w12) g_no (fun h9 e17 => ?_)
    replace e17 := e17.symm
    subst e17
    refine g_goto 28 C dX5_count_20 rfl ?_
    exact g_iret C dX5_count_28 rfl ⟨by decide, by decide⟩ (mret (by unfold oCount; exact if_pos w12) rfl ⟨_, _, _, _, X1, g6⟩ (K1))
set_option maxRecDepth 100000 in
set_option maxHeartbeats 4000000 in
theorem c_X5_sibling {E : gEnv} {n : Nat} {σ : Option Nat} {h : gH} (m : Nat) (T : gTt) (c0 : Int) (s k p what : Int) (hmb : gB E ≤ m ∧ m + 7 ≤ gB E + n) (hM : isM E h m T c0) (hok : okT T) (hI : gIv T.1) (hsr : -2147483648 ≤ s ∧ s < 2147483648) (hkr : -2147483648 ≤ k ∧ k < 2147483648) (hpr : -2147483648 ≤ p ∧ p < 2147483648) (hwhatr : -2147483648 ≤ what ∧ what < 2147483648) : gM E mX5_sibling [.ref m, .int (gi s), .int (gi k), .int (gi p), .int (gi what)] n σ h (gRM E h m n σ (oSibling T s k p what)) (gNo) := by
  obtain ⟨g, hs, f, fp, X0, -⟩ := hM
  have m0 := X0.1
  unfold isMo at m0
  have hokS := hok.1
  refine gM_of (by decide) (Nat.le_of_ble_eq_true rfl) (fun F C => ?_)
  refine g_aload_n 1 C dX5_sibling_0 rfl rfl ?_
  refine g_iconst 2 C dX5_sibling_1 rfl ?_
  refine g_putf 5 C dX5_sibling_2 fp_RX5_32 rfl (by omega) m0 rfl rfl (Nat.le_of_ble_eq_true rfl) rfl ?_
  refine g_ab (fun z => isMx E z m T (gup g 6 0) hs f fp ∧ gKp m (m + 7) h z) ⟨X0.obj up_s (gKp_up (by omega)) (gup_ne (by decide)) (gup_ne (by decide)), gKp_up (by omega)⟩ (fun h1 q1 => ?_)
  obtain ⟨X1, K1⟩ := q1
  obtain ⟨x1, z1, x3, ⟨fs, x4⟩, x5, x6, x7, ⟨ft, x8, x8e⟩, x9, ⟨fm, x10⟩, ⟨fo, x11⟩⟩ := id X1
  have m1 := x1
  unfold isMo at m1
  have g6 : gup g 6 0 6 = 0 := gup_at
  refine g_iload_n 6 C dX5_sibling_5 rfl rfl ?_
  refine g_S1r 9 0 0 C dX5_sibling_6 rfl lk_RX5_89 gs_X5_isStore ⟨⟨by decide, by decide⟩, by decide, by decide⟩ (Nat.le_of_ble_eq_true rfl) rfl rfl rfl (c_X5_isStore s hsr) g_no (fun h9 e6 => ?_)
  replace e6 := e6.symm
  subst e6
  refine g_if_eq 19 12 C dX5_sibling_9 rfl rfl (gbi_r _) (fun c9 => ?_) (fun c9 => ?_)
  · skip
    have w9 := of_decide_eq_false (gbi_0 c9)
    refine g_aload_n 20 C dX5_sibling_19 rfl rfl ?_
    refine g_iconst 21 C dX5_sibling_20 rfl ?_
    refine g_V1r 24 0 0 C dX5_sibling_21 rfl lk_RX5_39 gi_X5_fails gv_X5_fails ⟨_, _, rfl⟩ (by omega) m1 ⟨⟨by decide, by decide⟩, by decide, by decide⟩ (Nat.le_of_ble_eq_true rfl) rfl rfl rfl (c_X5_fails m (gup g 6 0) hs 1 (by omega) x1) g_no (fun h2 e21 => ?_)
    obtain ⟨n1, n2⟩ := e21
    exact g_iret C dX5_sibling_24 rfl ⟨by decide, by decide⟩ (mret (by unfold oSibling; exact if_neg (by omega)) rfl ⟨_, _, _, _, X1.obj n1 n2 (gup_ne (by decide)) (gup_ne (by decide)), gup_at⟩ (gKp_tr K1 (gKp_wd n2 (by omega) (by omega))))
  · skip
    have w9 := of_decide_eq_true (gbi_1 c9)
    refine g_iload_n 13 C dX5_sibling_12 rfl rfl ?_
    refine g_S1r 16 0 0 C dX5_sibling_13 rfl lk_RX5_86 gs_X5_isKey ⟨⟨by decide, by decide⟩, by decide, by decide⟩ (Nat.le_of_ble_eq_true rfl) rfl rfl rfl (c_X5_isKey k hkr) g_no (fun h9 e13 => ?_)
    replace e13 := e13.symm
    subst e13
    refine g_if_ne 25 19 C dX5_sibling_16 rfl rfl (gbi_r _) (fun c16 => ?_) (fun c16 => ?_)
    · skip
      have w16 := of_decide_eq_true (gbi_1 c16)
      refine g_iload_n 26 C dX5_sibling_25 rfl rfl ?_
      refine g_iconst 27 C dX5_sibling_26 rfl ?_
      refine g_iconst 28 C dX5_sibling_27 rfl ?_
      refine g_S3r 31 0 0 C dX5_sibling_28 rfl lk_RX5_35 gs_X5_in ⟨⟨by decide, by decide⟩, by decide, by decide⟩ (Nat.le_of_ble_eq_true rfl) rfl rfl rfl (c_X5_in p 0 3 hpr (by decide) (by decide)) g_no (fun h9 e28 => ?_)
      replace e28 := e28.symm
      subst e28
      refine g_if_eq 44 34 C dX5_sibling_31 rfl rfl (gbi_r _) (fun c31 => ?_) (fun c31 => ?_)
      · skip
        have w31 := of_decide_eq_false (gbi_0 c31)
        refine g_aload_n 45 C dX5_sibling_44 rfl rfl ?_
        refine g_iconst 46 C dX5_sibling_45 rfl ?_
        refine g_V1r 49 0 0 C dX5_sibling_46 rfl lk_RX5_39 gi_X5_fails gv_X5_fails ⟨_, _, rfl⟩ (by omega) m1 ⟨⟨by decide, by decide⟩, by decide, by decide⟩ (Nat.le_of_ble_eq_true rfl) rfl rfl rfl (c_X5_fails m (gup g 6 0) hs 2 (by omega) x1) g_no (fun h2 e46 => ?_)
        obtain ⟨n1, n2⟩ := e46
        exact g_iret C dX5_sibling_49 rfl ⟨by decide, by decide⟩ (mret (by unfold oSibling; rw [if_pos (show (0 ≤ s ∧ s < 3) ∧ (0 ≤ k ∧ k < 3) by omega)]; exact if_neg (by omega)) rfl ⟨_, _, _, _, X1.obj n1 n2 (gup_ne (by decide)) (gup_ne (by decide)), gup_at⟩ (gKp_tr K1 (gKp_wd n2 (by omega) (by omega))))
      · skip
        have w31 := of_decide_eq_true (gbi_1 c31)
        refine g_iload 36 C dX5_sibling_34 rfl rfl ?_
        refine g_iconst 37 C dX5_sibling_36 rfl ?_
        refine g_iconst 38 C dX5_sibling_37 rfl ?_
        refine g_S3r 41 0 0 C dX5_sibling_38 rfl lk_RX5_35 gs_X5_in ⟨⟨by decide, by decide⟩, by decide, by decide⟩ (Nat.le_of_ble_eq_true rfl) rfl rfl rfl (c_X5_in what 0 4 hwhatr (by decide) (by decide)) g_no (fun h9 e38 => ?_)
        replace e38 := e38.symm
        subst e38
        refine g_if_ne 50 44 C dX5_sibling_41 rfl rfl (gbi_r _) (fun c41 => ?_) (fun c41 => ?_)
        · skip
          have w41 := of_decide_eq_true (gbi_1 c41)
          refine g_iload_n 51 C dX5_sibling_50 rfl rfl ?_
          refine g_aload_n 52 C dX5_sibling_51 rfl rfl ?_
          refine g_iload_n 53 C dX5_sibling_52 rfl rfl ?_
          refine g_iload_n 54 C dX5_sibling_53 rfl rfl ?_
          have hRk := x3.1 k (by omega) (by omega)
          have hoK := hokS k (by omega) (by omega)
          refine g_V2r 57 0 0 C dX5_sibling_54 rfl lk_RX5_47 gi_X5_siblings gv_X5_siblings ⟨_, _, rfl⟩ (by omega) m1 ⟨⟨by decide, by decide⟩, by decide, by decide⟩ (Nat.le_of_ble_eq_true rfl) rfl rfl rfl (c_X5_siblings m (gup g 6 0) hs f k s ((T.1.1 k).2.2.2 s) hmb x1 z1 (by omega) (by omega) (hRk.2.2.2 s (by omega) (by omega))) g_no (fun h9 e54 => ?_)
          replace e54 := e54.symm
          subst e54
          refine g_icmp_ge 72 60 C dX5_sibling_57 rfl rfl (by omega) (by have z := (hoK.2.2.2 s (by omega) (by omega)).1; omega) (fun c57 => ?_) (fun c57 => ?_)
          · skip
            have er : sibF (T.1.1 k) s p what = -1 := by
              unfold sibF
              rw [List.getElem?_eq_none (by omega)]
            refine g_iconst 73 C dX5_sibling_72 rfl ?_
            exact g_iret C dX5_sibling_73 rfl ⟨by decide, by decide⟩ (mret (by unfold oSibling; rw [if_pos (show (0 ≤ s ∧ s < 3) ∧ (0 ≤ k ∧ k < 3) by omega), if_pos (show (0 ≤ p ∧ p ≤ 3) ∧ (0 ≤ what ∧ what ≤ 4) by omega), er]) rfl ⟨_, _, _, _, X1, g6⟩ (K1))
          · skip
            obtain ⟨q, rfl⟩ : ∃ q : Nat, p = (q : Int) := ⟨p.toNat, by omega⟩
            obtain ⟨y, hy, hyl⟩ := get_of (l := (T.1.1 k).2.2.2 s) (i := q) (by omega)
            refine g_aload_n 61 C dX5_sibling_60 rfl rfl ?_
            refine g_iload_n 62 C dX5_sibling_61 rfl rfl ?_
            refine g_iload_n 63 C dX5_sibling_62 rfl rfl ?_
            refine g_iload_n 64 C dX5_sibling_63 rfl rfl ?_
            refine g_iload 66 C dX5_sibling_64 rfl rfl ?_
            refine g_V4r 69 0 0 C dX5_sibling_66 rfl lk_RX5_179 gi_X5_ofSibling gv_X5_ofSibling ⟨_, _, rfl⟩ (by omega) m1 ⟨⟨by decide, by decide⟩, by decide, by decide⟩ (Nat.le_of_ble_eq_true rfl) rfl rfl rfl (c_X5_ofSibling m (gup g 6 0) hs f k (T.1.1 k) s q what y hmb x1 z1 (by omega) hRk hoK (by omega) hy w41) g_no (fun h9 e66 => ?_)
            replace e66 := e66.symm
            subst e66
            refine g_goto 73 C dX5_sibling_69 rfl ?_
            exact g_iret C dX5_sibling_73 rfl ⟨by decide, by decide⟩ (mret (by unfold oSibling; rw [if_pos (show (0 ≤ s ∧ s < 3) ∧ (0 ≤ k ∧ k < 3) by omega)]; exact if_pos (by omega)) rfl ⟨_, _, _, _, X1, g6⟩ (K1))
        · skip
          have w41 := of_decide_eq_false (gbi_0 c41)
          refine g_aload_n 45 C dX5_sibling_44 rfl rfl ?_
          refine g_iconst 46 C dX5_sibling_45 rfl ?_
          refine g_V1r 49 0 0 C dX5_sibling_46 rfl lk_RX5_39 gi_X5_fails gv_X5_fails ⟨_, _, rfl⟩ (by omega) m1 ⟨⟨by decide, by decide⟩, by decide, by decide⟩ (Nat.le_of_ble_eq_true rfl) rfl rfl rfl (c_X5_fails m (gup g 6 0) hs 2 (by omega) x1) g_no (fun h2 e46 => ?_)
          obtain ⟨n1, n2⟩ := e46
          exact g_iret C dX5_sibling_49 rfl ⟨by decide, by decide⟩ (mret (by unfold oSibling; rw [if_pos (show (0 ≤ s ∧ s < 3) ∧ (0 ≤ k ∧ k < 3) by omega)]; exact if_neg (by omega)) rfl ⟨_, _, _, _, X1.obj n1 n2 (gup_ne (by decide)) (gup_ne (by decide)), gup_at⟩ (gKp_tr K1 (gKp_wd n2 (by omega) (by omega))))
    · skip
      have w16 := of_decide_eq_false (gbi_0 c16)
      refine g_aload_n 20 C dX5_sibling_19 rfl rfl ?_
      refine g_iconst 21 C dX5_sibling_20 rfl ?_
      refine g_V1r 24 0 0 C dX5_sibling_21 rfl lk_RX5_39 gi_X5_fails gv_X5_fails ⟨_, _, rfl⟩ (by omega) m1 ⟨⟨by decide, by decide⟩, by decide, by decide⟩ (Nat.le_of_ble_eq_true rfl) rfl rfl rfl (c_X5_fails m (gup g 6 0) hs 1 (by omega) x1) g_no (fun h2 e21 => ?_)
      obtain ⟨n1, n2⟩ := e21
      exact g_iret C dX5_sibling_24 rfl ⟨by decide, by decide⟩ (mret (by unfold oSibling; exact if_neg (by omega)) rfl ⟨_, _, _, _, X1.obj n1 n2 (gup_ne (by decide)) (gup_ne (by decide)), gup_at⟩ (gKp_tr K1 (gKp_wd n2 (by omega) (by omega))))
set_option maxRecDepth 100000 in
set_option maxHeartbeats 4000000 in
theorem c_X5_append {E : gEnv} {n : Nat} {σ : Option Nat} {h : gH} (m : Nat) (T : gTt) (c0 : Int) (c : Int) (hmb : gB E ≤ m ∧ m + 7 ≤ gB E + n) (hM : isM E h m T c0) (hok : okT T) (hI : gIv T.1) (hcr : -2147483648 ≤ c ∧ c < 2147483648) : gM E mX5_append [.ref m, .int (gi c)] n σ h (gRM E h m n σ (oAppend T c)) (gNo) := by
  obtain ⟨g, hs, f, fp, X0, -⟩ := hM
  have m0 := X0.1
  unfold isMo at m0
  have hokS := hok.1
  refine gM_of (by decide) (Nat.le_of_ble_eq_true rfl) (fun F C => ?_)
  refine g_aload_n 1 C dX5_append_0 rfl rfl ?_
  refine g_iconst 2 C dX5_append_1 rfl ?_
  refine g_putf 5 C dX5_append_2 fp_RX5_32 rfl (by omega) m0 rfl rfl (Nat.le_of_ble_eq_true rfl) rfl ?_
  refine g_ab (fun z => isMx E z m T (gup g 6 0) hs f fp ∧ gKp m (m + 7) h z) ⟨X0.obj up_s (gKp_up (by omega)) (gup_ne (by decide)) (gup_ne (by decide)), gKp_up (by omega)⟩ (fun h1 q1 => ?_)
  obtain ⟨X1, K1⟩ := q1
  obtain ⟨x1, z1, x3, ⟨fs, x4⟩, x5, x6, x7, ⟨ft, x8, x8e⟩, x9, ⟨fm, x10⟩, ⟨fo, x11⟩⟩ := id X1
  have m1 := x1
  unfold isMo at m1
  have g6 : gup g 6 0 6 = 0 := gup_at
  refine g_iload_n 6 C dX5_append_5 rfl rfl ?_
  refine g_bipush 8 C dX5_append_6 (by decide) rfl ?_
  refine g_bipush 10 C dX5_append_8 (by decide) rfl ?_
  refine g_S3r 13 0 0 C dX5_append_10 rfl lk_RX5_35 gs_X5_in ⟨⟨by decide, by decide⟩, by decide, by decide⟩ (Nat.le_of_ble_eq_true rfl) rfl rfl rfl (c_X5_in c 33 126 hcr (by decide) (by decide)) g_no (fun h9 e10 => ?_)
  replace e10 := e10.symm
  subst e10
  refine g_if_ne 22 16 C dX5_append_13 rfl rfl (gbi_r _) (fun c13 => ?_) (fun c13 => ?_)
  · skip
    have w13 := of_decide_eq_true (gbi_1 c13)
    refine g_aload_n 23 C dX5_append_22 rfl rfl ?_
    refine g_getf 26 C dX5_append_23 fl_RX5_135 rfl (by omega) m1 rfl rfl ?_
    rw [x9]
    refine g_bipush 28 C dX5_append_26 (by decide) rfl ?_
    refine g_icmp_ne 37 31 C dX5_append_28 rfl rfl (by have z := hok.2.2.2.1; omega) (by omega) (fun c28 => ?_) (fun c28 => ?_)
    · skip
      refine g_aload_n 38 C dX5_append_37 rfl rfl ?_
      refine g_getf 41 C dX5_append_38 fl_RX5_19 rfl (by omega) m1 rfl rfl ?_
      refine g_aload_n 42 C dX5_append_41 rfl rfl ?_
      refine g_getf 45 C dX5_append_42 fl_RX5_135 rfl (by omega) m1 rfl rfl ?_
      rw [x9]
      refine g_iload_n 46 C dX5_append_45 rfl rfl ?_
      have hbl := hok.2.2.2.1
      refine g_iast 47 C dX5_append_46 (by omega) x8 (by omega) (by decide) rfl ?_
      refine g_aload_n 48 C dX5_append_47 rfl rfl ?_
      refine g_dup 49 C dX5_append_48 rfl rfl ?_
      refine g_getf 52 C dX5_append_49 fl_RX5_135 rfl (by omega) ((up_n (by omega)).trans m1) rfl rfl ?_
      rw [x9]
      refine g_iconst 53 C dX5_append_52 rfl ?_
      refine g_iadd 54 C dX5_append_53 rfl ?_
      refine g_putf 57 C dX5_append_54 fp_RX5_135 rfl (by omega) ((up_n (by omega)).trans m1) rfl rfl (Nat.le_of_ble_eq_true rfl) rfl ?_
      refine g_aload_n 58 C dX5_append_57 rfl rfl ?_
      refine g_getf 61 C dX5_append_58 fl_RX5_135 rfl (by omega) up_s rfl rfl ?_
      exact g_iret C dX5_append_61 rfl ⟨by decide, by decide⟩ (by
          refine mret (T' := (T.1, T.2.1, (T.2.2.1 + 1, gup T.2.2.2 (T.2.2.1 : Int) c))) (c := 0) (v := (T.2.2.1 : Int) + 1) (by unfold oAppend; rw [if_pos w13]; exact if_pos (by omega)) rfl ⟨gup (gup g 6 0) 5 ((T.2.2.1 : Int) + 1), hs, f, fp, ⟨up_s, (up_n (by omega)).trans ((up_n (by omega)).trans z1), x3, ⟨fs, (up_n (by omega)).trans ((up_n (by omega)).trans x4)⟩, (up_n (by omega)).trans ((up_n (by omega)).trans x5), (gup_ne (by decide)).trans x6, x7, ⟨_, (up_n (by omega)).trans up_s, fun j j0 j1 => ?_⟩, gup_at, ⟨fm, (up_n (by omega)).trans ((up_n (by omega)).trans x10)⟩, ⟨fo, (up_n (by omega)).trans ((up_n (by omega)).trans x11)⟩⟩, (gup_ne (by decide)).trans g6⟩ (gKp_tr K1 (gKp_tr (gKp_up (by omega)) (gKp_up (by omega))))
          have j1 : j < ((T.2.2.1 + 1 : Nat) : Int) := j1
          show gup ft (T.2.2.1 : Int) c j = gup T.2.2.2 (T.2.2.1 : Int) c j
          by_cases e : j = (T.2.2.1 : Int)
          · rw [e, gup_at, gup_at]
          · rw [gup_ne e, gup_ne e]
            exact x8e j j0 (by omega))
    · skip
      refine g_aload_n 32 C dX5_append_31 rfl rfl ?_
      refine g_iconst 33 C dX5_append_32 rfl ?_
      refine g_V1r 36 0 0 C dX5_append_33 rfl lk_RX5_39 gi_X5_fails gv_X5_fails ⟨_, _, rfl⟩ (by omega) m1 ⟨⟨by decide, by decide⟩, by decide, by decide⟩ (Nat.le_of_ble_eq_true rfl) rfl rfl rfl (c_X5_fails m (gup g 6 0) hs 2 (by omega) x1) g_no (fun h2 e33 => ?_)
      obtain ⟨n1, n2⟩ := e33
      exact g_iret C dX5_append_36 rfl ⟨by decide, by decide⟩ (mret (by unfold oAppend; rw [if_pos w13]; exact if_neg (by omega)) rfl ⟨_, _, _, _, X1.obj n1 n2 (gup_ne (by decide)) (gup_ne (by decide)), gup_at⟩ (gKp_tr K1 (gKp_wd n2 (by omega) (by omega))))
  · skip
    have w13 := of_decide_eq_false (gbi_0 c13)
    refine g_aload_n 17 C dX5_append_16 rfl rfl ?_
    refine g_iconst 18 C dX5_append_17 rfl ?_
    refine g_V1r 21 0 0 C dX5_append_18 rfl lk_RX5_39 gi_X5_fails gv_X5_fails ⟨_, _, rfl⟩ (by omega) m1 ⟨⟨by decide, by decide⟩, by decide, by decide⟩ (Nat.le_of_ble_eq_true rfl) rfl rfl rfl (c_X5_fails m (gup g 6 0) hs 1 (by omega) x1) g_no (fun h2 e18 => ?_)
    obtain ⟨n1, n2⟩ := e18
    exact g_iret C dX5_append_21 rfl ⟨by decide, by decide⟩ (mret (by unfold oAppend; exact if_neg w13) rfl ⟨_, _, _, _, X1.obj n1 n2 (gup_ne (by decide)) (gup_ne (by decide)), gup_at⟩ (gKp_tr K1 (gKp_wd n2 (by omega) (by omega))))
set_option maxRecDepth 100000 in
set_option maxHeartbeats 4000000 in
theorem c_X5_clearBuffer {E : gEnv} {n : Nat} {σ : Option Nat} {h : gH} (m : Nat) (T : gTt) (c0 : Int) (hmb : gB E ≤ m ∧ m + 7 ≤ gB E + n) (hM : isM E h m T c0) (hok : okT T) (hI : gIv T.1)  : gM E mX5_clearBuffer [.ref m] n σ h (gRM E h m n σ (oClear T)) (gNo) := by
  obtain ⟨g, hs, f, fp, X0, -⟩ := hM
  have m0 := X0.1
  unfold isMo at m0
  have hokS := hok.1
  refine gM_of (by decide) (Nat.le_of_ble_eq_true rfl) (fun F C => ?_)
  refine g_aload_n 1 C dX5_clearBuffer_0 rfl rfl ?_
  refine g_iconst 2 C dX5_clearBuffer_1 rfl ?_
  refine g_putf 5 C dX5_clearBuffer_2 fp_RX5_32 rfl (by omega) m0 rfl rfl (Nat.le_of_ble_eq_true rfl) rfl ?_
  refine g_ab (fun z => isMx E z m T (gup g 6 0) hs f fp ∧ gKp m (m + 7) h z) ⟨X0.obj up_s (gKp_up (by omega)) (gup_ne (by decide)) (gup_ne (by decide)), gKp_up (by omega)⟩ (fun h1 q1 => ?_)
  obtain ⟨X1, K1⟩ := q1
  obtain ⟨x1, z1, x3, ⟨fs, x4⟩, x5, x6, x7, ⟨ft, x8, x8e⟩, x9, ⟨fm, x10⟩, ⟨fo, x11⟩⟩ := id X1
  have m1 := x1
  unfold isMo at m1
  have g6 : gup g 6 0 6 = 0 := gup_at
  refine g_aload_n 6 C dX5_clearBuffer_5 rfl rfl ?_
  refine g_getf 9 C dX5_clearBuffer_6 fl_RX5_135 rfl (by omega) m1 rfl rfl ?_
  rw [x9]
  refine g_istore_n 10 [(1, _), (0, _)] C dX5_clearBuffer_9 (by decide) rfl rfl ?_
  refine g_aload_n 11 C dX5_clearBuffer_10 rfl rfl ?_
  refine g_iconst 12 C dX5_clearBuffer_11 rfl ?_
  refine g_putf 15 C dX5_clearBuffer_12 fp_RX5_135 rfl (by omega) m1 rfl rfl (Nat.le_of_ble_eq_true rfl) rfl ?_
  refine g_iload_n 16 C dX5_clearBuffer_15 rfl rfl ?_
  exact g_iret C dX5_clearBuffer_16 rfl ⟨by decide, by decide⟩ (by
      refine mret rfl rfl ⟨gup (gup g 6 0) 5 0, hs, f, fp, ⟨up_s, (up_n (by omega)).trans z1, x3, ⟨fs, (up_n (by omega)).trans x4⟩, (up_n (by omega)).trans x5, (gup_ne (by decide)).trans x6, x7, ⟨ft, (up_n (by omega)).trans x8, fun j j0 j1 => absurd j1 (show ¬ j < ((0 : Nat) : Int) by omega)⟩, gup_at, ⟨fm, (up_n (by omega)).trans x10⟩, ⟨fo, (up_n (by omega)).trans x11⟩⟩, (gup_ne (by decide)).trans g6⟩ (gKp_tr K1 (gKp_up (by omega))))
