/-! SiblingJoinsModel: undo, what pulls would give, agreement, the constructor -/
set_option maxRecDepth 100000 in
set_option maxHeartbeats 4000000 in
theorem c_X5_pulled {E : gEnv} {n : Nat} {σ : Option Nat} {h : gH} (m : Nat) (T : gTt) (g : Int → Int) (hs : Int64) (f fp : Int → Int) (s o k what : Int) (hmb : gB E ≤ m ∧ m + 7 ≤ gB E + n) (X0 : isMx E h m T g hs f fp) (hokS : okS T.1) (hI : gIv T.1) (hk : 0 ≤ k ∧ k < 3) (hss : 0 ≤ s ∧ s < 3) (ho : 0 ≤ o ∧ o < 3) (hwh : 0 ≤ what ∧ what ≤ 2) : gM E mX5_pulled [.ref m, .int (gi s), .int (gi o), .int (gi k), .int (gi what)] n σ h (gD (some (.int (gi (pOut (T.1.1 k) s o what)))) n σ (fun h9 => (∃ g9 : Int → Int, isMx E h9 m T g9 hs f fp ∧ g9 6 = g 6) ∧ gKp m (m + 7) h h9)) (gNo) := by
  obtain ⟨x1, z1, x3, ⟨fs, x4⟩, x5, x6, x7, ⟨ft, x8, x8e⟩, x9, ⟨fm, x10⟩, ⟨fo, x11⟩⟩ := id X0
  have m1 := x1
  unfold isMo at m1
  have hRk := x3.1 k hk.1 hk.2
  have hoK := hokS k hk.1 hk.2
  refine gM_of (by decide) (Nat.le_of_ble_eq_true rfl) (fun F C => ?_)
  refine g_aload_n 1 C dX5_pulled_0 rfl rfl ?_
  refine g_iload_n 2 C dX5_pulled_1 rfl rfl ?_
  refine g_iload_n 3 C dX5_pulled_2 rfl rfl ?_
  refine g_iload_n 4 C dX5_pulled_3 rfl rfl ?_
  refine g_V3v 7 0 0 C dX5_pulled_4 rfl lk_RX5_129 gi_X5_tries gv_X5_tries ⟨_, _, rfl⟩ (by omega) m1 ⟨⟨by decide, by decide⟩, by decide, by decide⟩ (Nat.le_of_ble_eq_true rfl) rfl rfl rfl (c_X5_tries m g hs f k (T.1.1 k) fm s o hmb x1 z1 hk hRk hoK hss ho (hI k hk.1 hk.2).1 x10) g_no (fun h2 e4 => ?_)
  obtain ⟨g2, f2, t1, t2, t3, t4, t5, t6, t7, t8⟩ := e4
  have X2 : isMx E h2 m T g2 hs f fp := ⟨t1, (t8 _ (by omega) (by omega)).trans z1, x3, ⟨fs, (t8 _ (by omega) (by omega)).trans x4⟩, (t8 _ (by omega) (by omega)).trans x5, (t5 3 (by decide) (by decide) (by decide)).trans x6, x7, ⟨ft, (t8 _ (by omega) (by omega)).trans x8, x8e⟩, (t5 5 (by decide) (by decide) (by decide)).trans x9, ⟨f2, t6⟩, ⟨fo, (t8 _ (by omega) (by omega)).trans x11⟩⟩
  have K2 : gKp m (m + 7) h h2 := fun q hq => t8 q (by omega) (by omega)
  have m2 := t1
  unfold isMo at m2
  have hlen := trL_len (K := T.1.1 k) (s := s) (o := o)
  refine g_iload 9 C dX5_pulled_7 rfl rfl ?_
  refine g_if_ne 19 12 C dX5_pulled_9 rfl rfl (by omega) (fun c9 => ?_) (fun c9 => ?_)
  · skip
    refine g_iload 21 C dX5_pulled_19 rfl rfl ?_
    refine g_iconst 22 C dX5_pulled_21 rfl ?_
    refine g_icmp_ne 32 25 C dX5_pulled_22 rfl rfl (by omega) (by omega) (fun c22 => ?_) (fun c22 => ?_)
    · skip
      have ep : pOut (T.1.1 k) s o what = pOut (T.1.1 k) s o 2 := by unfold pOut; rw [if_neg (show ¬ what = 0 by omega), if_neg (show ¬ what = 1 by omega)]; rfl
      refine g_aload_n 33 C dX5_pulled_32 rfl rfl ?_
      refine g_getf 36 C dX5_pulled_33 fl_RX5_112 rfl (by omega) m2 rfl rfl ?_
      rw [t2, hlen]
      exact g_iret C dX5_pulled_36 rfl ⟨by decide, by decide⟩ (by rw [ep]; exact ⟨rfl, rfl, rfl, ⟨g2, X2, t5 6 (by decide) (by decide) (by decide)⟩, K2⟩)
    · skip
      have ep : pOut (T.1.1 k) s o what = pGain (T.1.1 k) s o := by unfold pOut; rw [if_neg (show ¬ what = 0 by omega), if_pos (show what = 1 by omega)]
      refine g_aload_n 26 C dX5_pulled_25 rfl rfl ?_
      refine g_getf 29 C dX5_pulled_26 fl_RX5_118 rfl (by omega) m2 rfl rfl ?_
      rw [t4]
      refine g_goto 36 C dX5_pulled_29 rfl ?_
      exact g_iret C dX5_pulled_36 rfl ⟨by decide, by decide⟩ (by rw [ep]; exact ⟨rfl, rfl, rfl, ⟨g2, X2, t5 6 (by decide) (by decide) (by decide)⟩, K2⟩)
  · skip
    have ep : pOut (T.1.1 k) s o what = pLost (T.1.1 k) s o := if_pos (by omega)
    refine g_aload_n 13 C dX5_pulled_12 rfl rfl ?_
    refine g_getf 16 C dX5_pulled_13 fl_RX5_115 rfl (by omega) m2 rfl rfl ?_
    rw [t3]
    refine g_goto 36 C dX5_pulled_16 rfl ?_
    exact g_iret C dX5_pulled_36 rfl ⟨by decide, by decide⟩ (by rw [ep]; exact ⟨rfl, rfl, rfl, ⟨g2, X2, t5 6 (by decide) (by decide) (by decide)⟩, K2⟩)
set_option maxRecDepth 100000 in
set_option maxHeartbeats 4000000 in
theorem c_X5_ifPulled {E : gEnv} {n : Nat} {σ : Option Nat} {h : gH} (m : Nat) (T : gTt) (c0 : Int) (s o k what : Int) (hmb : gB E ≤ m ∧ m + 7 ≤ gB E + n) (hM : isM E h m T c0) (hok : okT T) (hI : gIv T.1) (hsr : -2147483648 ≤ s ∧ s < 2147483648) (hor : -2147483648 ≤ o ∧ o < 2147483648) (hkr : -2147483648 ≤ k ∧ k < 2147483648) (hwhatr : -2147483648 ≤ what ∧ what < 2147483648) : gM E mX5_ifPulled [.ref m, .int (gi s), .int (gi o), .int (gi k), .int (gi what)] n σ h (gRM E h m n σ (oIfP T s o k what)) (gNo) := by
  obtain ⟨g, hs, f, fp, X0, -⟩ := hM
  have m0 := X0.1
  unfold isMo at m0
  have hokS := hok.1
  refine gM_of (by decide) (Nat.le_of_ble_eq_true rfl) (fun F C => ?_)
  refine g_aload_n 1 C dX5_ifPulled_0 rfl rfl ?_
  refine g_iconst 2 C dX5_ifPulled_1 rfl ?_
  refine g_putf 5 C dX5_ifPulled_2 fp_RX5_32 rfl (by omega) m0 rfl rfl (Nat.le_of_ble_eq_true rfl) rfl ?_
  refine g_ab (fun z => isMx E z m T (gup g 6 0) hs f fp ∧ gKp m (m + 7) h z) ⟨X0.obj up_s (gKp_up (by omega)) (gup_ne (by decide)) (gup_ne (by decide)), gKp_up (by omega)⟩ (fun h1 q1 => ?_)
  obtain ⟨X1, K1⟩ := q1
  obtain ⟨x1, z1, x3, ⟨fs, x4⟩, x5, x6, x7, ⟨ft, x8, x8e⟩, x9, ⟨fm, x10⟩, ⟨fo, x11⟩⟩ := id X1
  have m1 := x1
  unfold isMo at m1
  have g6 : gup g 6 0 6 = 0 := gup_at
  refine g_iload_n 6 C dX5_ifPulled_5 rfl rfl ?_
  refine g_S1r 9 0 0 C dX5_ifPulled_6 rfl lk_RX5_89 gs_X5_isStore ⟨⟨by decide, by decide⟩, by decide, by decide⟩ (Nat.le_of_ble_eq_true rfl) rfl rfl rfl (c_X5_isStore s hsr) g_no (fun h9 e6 => ?_)
  replace e6 := e6.symm
  subst e6
  refine g_if_eq 26 12 C dX5_ifPulled_9 rfl rfl (gbi_r _) (fun c9 => ?_) (fun c9 => ?_)
  · skip
    have w9 := of_decide_eq_false (gbi_0 c9)
    refine g_aload_n 27 C dX5_ifPulled_26 rfl rfl ?_
    refine g_iconst 28 C dX5_ifPulled_27 rfl ?_
    refine g_V1r 31 0 0 C dX5_ifPulled_28 rfl lk_RX5_39 gi_X5_fails gv_X5_fails ⟨_, _, rfl⟩ (by omega) m1 ⟨⟨by decide, by decide⟩, by decide, by decide⟩ (Nat.le_of_ble_eq_true rfl) rfl rfl rfl (c_X5_fails m (gup g 6 0) hs 1 (by omega) x1) g_no (fun h2 e28 => ?_)
    obtain ⟨n1, n2⟩ := e28
    exact g_iret C dX5_ifPulled_31 rfl ⟨by decide, by decide⟩ (mret (by unfold oIfP; exact if_neg (by omega)) rfl ⟨_, _, _, _, X1.obj n1 n2 (gup_ne (by decide)) (gup_ne (by decide)), gup_at⟩ (gKp_tr K1 (gKp_wd n2 (by omega) (by omega))))
  · skip
    have w9 := of_decide_eq_true (gbi_1 c9)
    refine g_iload_n 13 C dX5_ifPulled_12 rfl rfl ?_
    refine g_S1r 16 0 0 C dX5_ifPulled_13 rfl lk_RX5_89 gs_X5_isStore ⟨⟨by decide, by decide⟩, by decide, by decide⟩ (Nat.le_of_ble_eq_true rfl) rfl rfl rfl (c_X5_isStore o hor) g_no (fun h9 e13 => ?_)
    replace e13 := e13.symm
    subst e13
    refine g_if_eq 26 19 C dX5_ifPulled_16 rfl rfl (gbi_r _) (fun c16 => ?_) (fun c16 => ?_)
    · skip
      have w16 := of_decide_eq_false (gbi_0 c16)
      refine g_aload_n 27 C dX5_ifPulled_26 rfl rfl ?_
      refine g_iconst 28 C dX5_ifPulled_27 rfl ?_
      refine g_V1r 31 0 0 C dX5_ifPulled_28 rfl lk_RX5_39 gi_X5_fails gv_X5_fails ⟨_, _, rfl⟩ (by omega) m1 ⟨⟨by decide, by decide⟩, by decide, by decide⟩ (Nat.le_of_ble_eq_true rfl) rfl rfl rfl (c_X5_fails m (gup g 6 0) hs 1 (by omega) x1) g_no (fun h2 e28 => ?_)
      obtain ⟨n1, n2⟩ := e28
      exact g_iret C dX5_ifPulled_31 rfl ⟨by decide, by decide⟩ (mret (by unfold oIfP; exact if_neg (by omega)) rfl ⟨_, _, _, _, X1.obj n1 n2 (gup_ne (by decide)) (gup_ne (by decide)), gup_at⟩ (gKp_tr K1 (gKp_wd n2 (by omega) (by omega))))
    · skip
      have w16 := of_decide_eq_true (gbi_1 c16)
      refine g_iload_n 20 C dX5_ifPulled_19 rfl rfl ?_
      refine g_S1r 23 0 0 C dX5_ifPulled_20 rfl lk_RX5_86 gs_X5_isKey ⟨⟨by decide, by decide⟩, by decide, by decide⟩ (Nat.le_of_ble_eq_true rfl) rfl rfl rfl (c_X5_isKey k hkr) g_no (fun h9 e20 => ?_)
      replace e20 := e20.symm
      subst e20
      refine g_if_ne 32 26 C dX5_ifPulled_23 rfl rfl (gbi_r _) (fun c23 => ?_) (fun c23 => ?_)
      · skip
        have w23 := of_decide_eq_true (gbi_1 c23)
        refine g_iload_n 33 C dX5_ifPulled_32 rfl rfl ?_
        refine g_iload_n 34 C dX5_ifPulled_33 rfl rfl ?_
        refine g_icmp_eq 59 37 C dX5_ifPulled_34 rfl rfl (by omega) (by omega) (fun c34 => ?_) (fun c34 => ?_)
        · skip
          refine g_aload_n 60 C dX5_ifPulled_59 rfl rfl ?_
          refine g_iconst 61 C dX5_ifPulled_60 rfl ?_
          refine g_V1r 64 0 0 C dX5_ifPulled_61 rfl lk_RX5_39 gi_X5_fails gv_X5_fails ⟨_, _, rfl⟩ (by omega) m1 ⟨⟨by decide, by decide⟩, by decide, by decide⟩ (Nat.le_of_ble_eq_true rfl) rfl rfl rfl (c_X5_fails m (gup g 6 0) hs 2 (by omega) x1) g_no (fun h2 e61 => ?_)
          obtain ⟨n1, n2⟩ := e61
          exact g_iret C dX5_ifPulled_64 rfl ⟨by decide, by decide⟩ (mret (by unfold oIfP; rw [if_pos (show SOK s o k by unfold SOK; omega)]; exact if_neg (by omega)) rfl ⟨_, _, _, _, X1.obj n1 n2 (gup_ne (by decide)) (gup_ne (by decide)), gup_at⟩ (gKp_tr K1 (gKp_wd n2 (by omega) (by omega))))
        · skip
          refine g_iload 39 C dX5_ifPulled_37 rfl rfl ?_
          refine g_iconst 40 C dX5_ifPulled_39 rfl ?_
          refine g_iconst 41 C dX5_ifPulled_40 rfl ?_
          refine g_S3r 44 0 0 C dX5_ifPulled_41 rfl lk_RX5_35 gs_X5_in ⟨⟨by decide, by decide⟩, by decide, by decide⟩ (Nat.le_of_ble_eq_true rfl) rfl rfl rfl (c_X5_in what 0 2 hwhatr (by decide) (by decide)) g_no (fun h9 e41 => ?_)
          replace e41 := e41.symm
          subst e41
          refine g_if_eq 59 47 C dX5_ifPulled_44 rfl rfl (gbi_r _) (fun c44 => ?_) (fun c44 => ?_)
          · skip
            have w44 := of_decide_eq_false (gbi_0 c44)
            refine g_aload_n 60 C dX5_ifPulled_59 rfl rfl ?_
            refine g_iconst 61 C dX5_ifPulled_60 rfl ?_
            refine g_V1r 64 0 0 C dX5_ifPulled_61 rfl lk_RX5_39 gi_X5_fails gv_X5_fails ⟨_, _, rfl⟩ (by omega) m1 ⟨⟨by decide, by decide⟩, by decide, by decide⟩ (Nat.le_of_ble_eq_true rfl) rfl rfl rfl (c_X5_fails m (gup g 6 0) hs 2 (by omega) x1) g_no (fun h2 e61 => ?_)
            obtain ⟨n1, n2⟩ := e61
            exact g_iret C dX5_ifPulled_64 rfl ⟨by decide, by decide⟩ (mret (by unfold oIfP; rw [if_pos (show SOK s o k by unfold SOK; omega)]; exact if_neg (by omega)) rfl ⟨_, _, _, _, X1.obj n1 n2 (gup_ne (by decide)) (gup_ne (by decide)), gup_at⟩ (gKp_tr K1 (gKp_wd n2 (by omega) (by omega))))
          · skip
            have w44 := of_decide_eq_true (gbi_1 c44)
            refine g_aload_n 48 C dX5_ifPulled_47 rfl rfl ?_
            refine g_iload_n 49 C dX5_ifPulled_48 rfl rfl ?_
            refine g_iload_n 50 C dX5_ifPulled_49 rfl rfl ?_
            refine g_iload_n 51 C dX5_ifPulled_50 rfl rfl ?_
            refine g_iload 53 C dX5_ifPulled_51 rfl rfl ?_
            refine g_V4r 56 0 0 C dX5_ifPulled_53 rfl lk_RX5_206 gi_X5_pulled gv_X5_pulled ⟨_, _, rfl⟩ (by omega) m1 ⟨⟨by decide, by decide⟩, by decide, by decide⟩ (Nat.le_of_ble_eq_true rfl) rfl rfl rfl (c_X5_pulled m T (gup g 6 0) hs f fp s o k what hmb X1 hokS hI (by omega) (by omega) (by omega) w44) g_no (fun h2 e53 => ?_)
            obtain ⟨⟨g2, X2, g26⟩, k2⟩ := e53
            refine g_goto 64 C dX5_ifPulled_56 rfl ?_
            exact g_iret C dX5_ifPulled_64 rfl ⟨by decide, by decide⟩ (mret (by unfold oIfP; rw [if_pos (show SOK s o k by unfold SOK; omega)]; exact if_pos ⟨fun e => c34 e, w44⟩) rfl ⟨_, _, _, _, X2, g26.trans g6⟩ (gKp_tr K1 k2))
      · skip
        have w23 := of_decide_eq_false (gbi_0 c23)
        refine g_aload_n 27 C dX5_ifPulled_26 rfl rfl ?_
        refine g_iconst 28 C dX5_ifPulled_27 rfl ?_
        refine g_V1r 31 0 0 C dX5_ifPulled_28 rfl lk_RX5_39 gi_X5_fails gv_X5_fails ⟨_, _, rfl⟩ (by omega) m1 ⟨⟨by decide, by decide⟩, by decide, by decide⟩ (Nat.le_of_ble_eq_true rfl) rfl rfl rfl (c_X5_fails m (gup g 6 0) hs 1 (by omega) x1) g_no (fun h2 e28 => ?_)
        obtain ⟨n1, n2⟩ := e28
        exact g_iret C dX5_ifPulled_31 rfl ⟨by decide, by decide⟩ (mret (by unfold oIfP; exact if_neg (by omega)) rfl ⟨_, _, _, _, X1.obj n1 n2 (gup_ne (by decide)) (gup_ne (by decide)), gup_at⟩ (gKp_tr K1 (gKp_wd n2 (by omega) (by omega))))
set_option maxRecDepth 100000 in
set_option maxHeartbeats 4000000 in
theorem c_X5_undo {E : gEnv} {n : Nat} {σ : Option Nat} {h : gH} (m : Nat) (T : gTt) (c0 : Int) (hmb : gB E ≤ m ∧ m + 7 ≤ gB E + n) (hM : isM E h m T c0) (hok : okT T) (hI : gIv T.1)  : gM E mX5_undo [.ref m] n σ h (gRM E h m n σ (oUndo T)) (gNo) := by
  obtain ⟨g, hs, f, fp, X0, -⟩ := hM
  have m0 := X0.1
  unfold isMo at m0
  have hokS := hok.1
  refine gM_of (by decide) (Nat.le_of_ble_eq_true rfl) (fun F C => ?_)
  refine g_aload_n 1 C dX5_undo_0 rfl rfl ?_
  refine g_iconst 2 C dX5_undo_1 rfl ?_
  refine g_putf 5 C dX5_undo_2 fp_RX5_32 rfl (by omega) m0 rfl rfl (Nat.le_of_ble_eq_true rfl) rfl ?_
  refine g_ab (fun z => isMx E z m T (gup g 6 0) hs f fp ∧ gKp m (m + 7) h z) ⟨X0.obj up_s (gKp_up (by omega)) (gup_ne (by decide)) (gup_ne (by decide)), gKp_up (by omega)⟩ (fun h1 q1 => ?_)
  obtain ⟨X1, K1⟩ := q1
  obtain ⟨x1, z1, x3, ⟨fs, x4⟩, x5, x6, x7, ⟨ft, x8, x8e⟩, x9, ⟨fm, x10⟩, ⟨fo, x11⟩⟩ := id X1
  have m1 := x1
  unfold isMo at m1
  have g6 : gup g 6 0 6 = 0 := gup_at
  refine g_aload_n 6 C dX5_undo_5 rfl rfl ?_
  refine g_getf 9 C dX5_undo_6 fl_RX5_28 rfl (by omega) m1 rfl rfl ?_
  rw [x6]
  refine g_if_ne 18 12 C dX5_undo_9 rfl rfl (by have z := hok.2.1; omega) (fun c9 => ?_) (fun c9 => ?_)
  · skip
    have hne : ¬ T.2.1.1 = 0 := by omega
    have hc6 := hok.2.1
    refine g_aload_n 19 C dX5_undo_18 rfl rfl ?_
    refine g_dup 20 C dX5_undo_19 rfl rfl ?_
    refine g_getf 23 C dX5_undo_20 fl_RX5_28 rfl (by omega) m1 rfl rfl ?_
    rw [x6]
    refine g_iconst 24 C dX5_undo_23 rfl ?_
    refine g_isub 25 C dX5_undo_24 rfl ?_
    refine g_putf 28 C dX5_undo_25 fp_RX5_28 rfl (by omega) m1 rfl rfl (Nat.le_of_ble_eq_true rfl) rfl ?_
    refine g_ab (fun z => isMx E z m (T.1, (T.2.1.1 - 1, T.2.1.2), T.2.2) (gup (gup g 6 0) 3 ((T.2.1.1 : Int) - 1)) hs f fp ∧ gKp m (m + 7) h z) ⟨?_, gKp_tr K1 (gKp_up (by omega))⟩ (fun h2 q2 => ?_)
    · exact ⟨up_s, (up_n (by omega)).trans z1, x3, ⟨fs, (up_n (by omega)).trans x4⟩, (up_n (by omega)).trans x5, by rw [gup_at]; show (T.2.1.1 : Int) - 1 = ((T.2.1.1 - 1 : Nat) : Int); omega, fun i9 i0 i6 => x7 i9 i0 (by have i6 : i9 < ((T.2.1.1 - 1 : Nat) : Int) := i6; omega), ⟨ft, (up_n (by omega)).trans x8, x8e⟩, (gup_ne (by decide)).trans x9, ⟨fm, (up_n (by omega)).trans x10⟩, ⟨fo, (up_n (by omega)).trans x11⟩⟩
    obtain ⟨X2, K2⟩ := q2
    obtain ⟨x1, z1, x3, ⟨fs, x4⟩, x5, x6, x7, ⟨ft, x8, x8e⟩, x9, ⟨fm, x10⟩, ⟨fo, x11⟩⟩ := id X2
    have m1 := x1
    unfold isMo at m1
    have g62 : gup (gup g 6 0) 3 ((T.2.1.1 : Int) - 1) 6 = 0 := (gup_ne (by decide)).trans g6
    have e3 : gup (gup g 6 0) 3 ((T.2.1.1 : Int) - 1) 3 = (T.2.1.1 : Int) - 1 := gup_at
    have hPz := X0.2.2.2.2.2.2.1 ((T.2.1.1 : Int) - 1) (by omega) (by omega)
    refine g_iconst 29 C dX5_undo_28 rfl ?_
    refine g_istore_n 30 [(1, _), (0, _)] C dX5_undo_29 (by decide) rfl rfl ?_
    have lp30 : ∀ (k9 : Nat) (i : Nat) (h3 : gH) (f3 : Int → Int), (i ≤ 311) → (h3 (m + 1) = gI E 311 f3) → (gKp (m + 1) (m + 2) h2 h3) → (∀ j : Int, 0 ≤ j → j < (i : Int) → f3 j = fp (311 * ((T.2.1.1 : Int) - 1) + j)) → 311 - i < k9 → G E F mX5_undo (gQ E F mX5_undo n (gRM E h m n σ (oUndo T)) (gNo)) n σ h3 0 0 30 [(1, .int (gi (i : Int))), (0, .ref m)] [] := by
      intro k9
      induction k9 with
      | zero => intro i h3 f3 hi z3 hk3 hF h0; exact absurd h0 (Nat.not_lt_zero _)
      | succ k9 ih30 =>
        intro i h3 f3 hi z3 hk3 hF hk30
        have m3 := (hk3 m (by omega)).trans m1
        have y5 := (hk3 (m + 3) (by omega)).trans x5
        refine g_iload_n 31 C dX5_undo_30 rfl rfl ?_
        refine g_sipush 34 C dX5_undo_31 (by decide) rfl ?_
        refine g_icmp_ge 64 37 C dX5_undo_34 rfl rfl (by omega) (by omega) (fun c34 => ?_) (fun c34 => ?_)
        · skip
          refine g_aload_n 65 C dX5_undo_64 rfl rfl ?_
          refine g_getf 68 C dX5_undo_65 fl_RX5_28 rfl (by omega) m3 rfl rfl ?_
          rw [e3]
          exact g_iret C dX5_undo_68 rfl ⟨by decide, by decide⟩ (by
              have Z3 : Rz f3 (T.2.1.2 ((T.2.1.1 : Int) - 1)) := hPz.ext (hok.2.2.1 _ (by omega) (by omega)) (fun j j0 j1 => hF j j0 (by omega))
              exact mret (by unfold oUndo; exact if_neg hne) rfl ⟨_, _, _, _, X2.zed z3 Z3 hk3, g62⟩ (gKp_tr K2 (gKp_wd hk3 (by omega) (by omega))))
        · skip
          refine g_aload_n 38 C dX5_undo_37 rfl rfl ?_
          refine g_getf 41 C dX5_undo_38 fl_RX5_7 rfl (by omega) m3 rfl rfl ?_
          refine g_iload_n 42 C dX5_undo_41 rfl rfl ?_
          refine g_aload_n 43 C dX5_undo_42 rfl rfl ?_
          refine g_getf 46 C dX5_undo_43 fl_RX5_16 rfl (by omega) m3 rfl rfl ?_
          refine g_sipush 49 C dX5_undo_46 (by decide) rfl ?_
          refine g_aload_n 50 C dX5_undo_49 rfl rfl ?_
          refine g_getf 53 C dX5_undo_50 fl_RX5_28 rfl (by omega) m3 rfl rfl ?_
          rw [e3]
          refine g_imul 54 C dX5_undo_53 rfl ?_
          refine g_iload_n 55 C dX5_undo_54 rfl rfl ?_
          refine g_iadd 56 C dX5_undo_55 rfl ?_
          refine g_iald 57 C dX5_undo_56 (by omega) y5 (by omega) (by decide) rfl ?_
          refine g_iast 58 C dX5_undo_57 (by omega) z3 (by omega) (by decide) rfl ?_
          have hF8 : (∀ j : Int, 0 ≤ j → j < ((i + 1 : Nat) : Int) → gup f3 (i : Int) (fp (311 * ((T.2.1.1 : Int) - 1) + (i : Int))) j = fp (311 * ((T.2.1.1 : Int) - 1) + j)) := fun j j0 j1 => by
            by_cases e : j = (i : Int)
            · rw [e, gup_at]
            · rw [gup_ne e]
              exact hF j j0 (by omega)
          refine g_iinc 61 [(1, _), (0, _)] C dX5_undo_58 rfl (by decide) rfl rfl ?_
          refine g_goto 30 C dX5_undo_61 rfl ?_
          refine g_loc [(1, _), (0, _)] ⟨rfl, rfl, trivial⟩ ?_
          exact ih30 (i + 1) _ _ (by omega) up_s (gKp_tr hk3 (gKp_up (by omega))) hF8 (by omega)
    refine g_loc [(1, _), (0, _)] ⟨rfl, rfl, trivial⟩ ?_
    exact lp30 _ 0 h2 f (by omega) z1 gKp_rf (fun j j0 j1 => absurd j1 (by omega)) (Nat.lt_succ_self _)
  · skip
    refine g_aload_n 13 C dX5_undo_12 rfl rfl ?_
    refine g_iconst 14 C dX5_undo_13 rfl ?_
    refine g_V1r 17 0 0 C dX5_undo_14 rfl lk_RX5_39 gi_X5_fails gv_X5_fails ⟨_, _, rfl⟩ (by omega) m1 ⟨⟨by decide, by decide⟩, by decide, by decide⟩ (Nat.le_of_ble_eq_true rfl) rfl rfl rfl (c_X5_fails m (gup g 6 0) hs 1 (by omega) x1) g_no (fun h2 e14 => ?_)
    obtain ⟨n1, n2⟩ := e14
    exact g_iret C dX5_undo_17 rfl ⟨by decide, by decide⟩ (mret (by unfold oUndo; exact if_pos (by omega)) rfl ⟨_, _, _, _, X1.obj n1 n2 (gup_ne (by decide)) (gup_ne (by decide)), gup_at⟩ (gKp_tr K1 (gKp_wd n2 (by omega) (by omega))))
set_option maxRecDepth 100000 in
set_option maxHeartbeats 4000000 in
theorem c_X5_agreement {E : gEnv} {n : Nat} {σ : Option Nat} {h : gH} (m : Nat) (T : gTt) (c0 : Int) (hmb : gB E ≤ m ∧ m + 7 ≤ gB E + n) (hM : isM E h m T c0) (hok : okT T) (hI : gIv T.1) : gM E mX5_agreement [.ref m] n σ h (gD (some (.double (gShr (tAgN T)))) n σ (fun h9 => isM E h9 m T 0 ∧ gKp m (m + 7) h h9)) (gNo) := by
  obtain ⟨g, hs, f, fp, X0, -⟩ := hM
  have m0 := X0.1
  unfold isMo at m0
  have hokS := hok.1
  refine gM_of (by decide) (Nat.le_of_ble_eq_true rfl) (fun F C => ?_)
  refine g_aload_n 1 C dX5_agreement_0 rfl rfl ?_
  refine g_iconst 2 C dX5_agreement_1 rfl ?_
  refine g_putf 5 C dX5_agreement_2 fp_RX5_32 rfl (by omega) m0 rfl rfl (Nat.le_of_ble_eq_true rfl) rfl ?_
  refine g_ab (fun z => isMx E z m T (gup g 6 0) hs f fp ∧ gKp m (m + 7) h z) ⟨X0.obj up_s (gKp_up (by omega)) (gup_ne (by decide)) (gup_ne (by decide)), gKp_up (by omega)⟩ (fun h1 q1 => ?_)
  obtain ⟨X1, K1⟩ := q1
  obtain ⟨x1, z1, x3, ⟨fs, x4⟩, x5, x6, x7, ⟨ft, x8, x8e⟩, x9, ⟨fm, x10⟩, ⟨fo, x11⟩⟩ := id X1
  have m1 := x1
  unfold isMo at m1
  have g6 : gup g 6 0 6 = 0 := gup_at
  refine g_aload_n 6 C dX5_agreement_5 rfl rfl ?_
  refine g_V0r 9 0 0 C dX5_agreement_6 rfl lk_RX5_211 gi_X5_agrees gv_X5_agrees ⟨_, _, rfl⟩ (by omega) m1 ⟨⟨by decide, by decide⟩, by decide, by decide⟩ (Nat.le_of_ble_eq_true rfl) rfl rfl rfl (c_X5_agrees m (gup g 6 0) hs f T hmb x1 z1 x3 hokS hI.X) g_no (fun h9 e6 => ?_)
  replace e6 := e6.symm
  subst e6
  exact g_dret C dX5_agreement_9 rfl ⟨by decide, by decide⟩ (⟨rfl, rfl, rfl, ⟨_, _, _, _, X1, g6⟩, K1⟩)
