/-! SiblingJoinsModel: what looks at one key -/
theorem or0 {x : Int} : gi x ||| gi 0 = gi x := by show gi x ||| 0 = gi x; exact Int32.or_zero
set_option maxRecDepth 100000 in
set_option maxHeartbeats 4000000 in
theorem c_X5_coveredBy {E : gEnv} {n : Nat} {σ : Option Nat} {h : gH} (m : Nat) (g : Int → Int) (hs : Int64) (f : Int → Int) (k : Int) (K : gKy) (w s : Int) (hmb : gB E ≤ m ∧ m + 7 ≤ gB E + n) (hm : isMo h m g hs) (hz : h (m + 1) = gI E 311 f) (hk : 0 ≤ k ∧ k < 3) (hR : Rk f k K) (hok : okK K) (hw : 0 ≤ w ∧ w < 5) (hss : 0 ≤ s ∧ s < 3)  : gM E mX5_coveredBy [.ref m, .int (gi w), .int (gi k), .int (gi s)] n σ h (gD (some (.int (gi (wDrop K w s)))) n σ (fun h9 => h9 = h)) (gNo) := by
  have hm9 := hm
  unfold isMo at hm
  have hR9 := hR
  have hok9 := hok
  obtain ⟨rW, rN, rV, rL⟩ := hR
  obtain ⟨oW, oN, oV, oL⟩ := hok
  have h4 := (oL s (by omega) (by omega)).1
  refine gM_of (by decide) (Nat.le_of_ble_eq_true rfl) (fun F C => ?_)
  refine g_iconst 1 C dX5_coveredBy_0 rfl ?_
  refine g_istore 3 [(4, _), (0, _), (1, _), (2, _), (3, _)] C dX5_coveredBy_1 (by decide) rfl rfl ?_
  refine g_iconst 4 C dX5_coveredBy_3 rfl ?_
  refine g_istore 6 [(5, _), (4, _), (0, _), (1, _), (2, _), (3, _)] C dX5_coveredBy_4 (by decide) rfl rfl ?_
  have lp6 : ∀ (k9 : Nat) (i : Nat), (i ≤ (K.2.2.2 s).length) → (K.2.2.2 s).length - i < k9 → G E F mX5_coveredBy (gQ E F mX5_coveredBy n (gD (some (.int (gi (wDrop K w s)))) n σ (fun h9 => h9 = h)) (gNo)) n σ h 0 0 6 [(5, .int (gi (i : Int))), (4, .int (gi ((((K.2.2.2 s).take i).countP (fun p : Int × Int => cov (K.2.1 w) p.1) : Nat) : Int))), (0, .ref m), (1, .int (gi w)), (2, .int (gi k)), (3, .int (gi s))] [] := by
    intro k9
    induction k9 with
    | zero => intro i hi h0; exact absurd h0 (Nat.not_lt_zero _)
    | succ k9 ih6 =>
      intro i hi hk6
      refine g_iload 8 C dX5_coveredBy_6 rfl rfl ?_
      refine g_aload_n 9 C dX5_coveredBy_8 rfl rfl ?_
      refine g_iload_n 10 C dX5_coveredBy_9 rfl rfl ?_
      refine g_iload_n 11 C dX5_coveredBy_10 rfl rfl ?_
      refine g_V2r 14 0 0 C dX5_coveredBy_11 rfl lk_RX5_47 gi_X5_siblings gv_X5_siblings ⟨_, _, rfl⟩ (by omega) hm ⟨⟨by decide, by decide⟩, by decide, by decide⟩ (Nat.le_of_ble_eq_true rfl) rfl rfl rfl (c_X5_siblings m g hs f k s (K.2.2.2 s) hmb hm9 hz hk (by omega) (rL s (by omega) (by omega))) g_no (fun h9 e11 => ?_)
      replace e11 := e11.symm
      subst e11
      refine g_icmp_ge 52 17 C dX5_coveredBy_14 rfl rfl (by omega) (by omega) (fun c14 => ?_) (fun c14 => ?_)
      · skip
        have hil : i = (K.2.2.2 s).length := by omega
        refine g_iload 54 C dX5_coveredBy_52 rfl rfl ?_
        exact g_iret C dX5_coveredBy_54 rfl ⟨by decide, by decide⟩ (by rw [show wDrop K w s = (((K.2.2.2 s).take i).countP (fun p => cov (K.2.1 w) p.1) : Nat) by rw [hil, List.take_length]; rfl]; exact ⟨rfl, rfl, rfl, rfl⟩)
      · skip
        have hl := rL s (by omega) (by omega)
        have hol := oL s (by omega) (by omega)
        have h4 := hol.1
        obtain ⟨y, hy, hyl⟩ := get_of (l := K.2.2.2 s) (i := i) (by omega)
        obtain ⟨y1, y2, y3⟩ := hl.2 i y hy
        have hyo := hol.2 y hyl
        refine g_iload 19 C dX5_coveredBy_17 rfl rfl ?_
        refine g_aload_n 20 C dX5_coveredBy_19 rfl rfl ?_
        refine g_iload_n 21 C dX5_coveredBy_20 rfl rfl ?_
        refine g_iload_n 22 C dX5_coveredBy_21 rfl rfl ?_
        refine g_S2r 25 0 0 C dX5_coveredBy_22 rfl lk_RX5_54 gs_X5_knowsAt ⟨⟨by decide, by decide⟩, by decide, by decide⟩ (Nat.le_of_ble_eq_true rfl) rfl rfl rfl (c_X5_knowsAt k w) g_no (fun h9 e22 => ?_)
        replace e22 := e22.symm
        subst e22
        refine g_iload_n 26 C dX5_coveredBy_25 rfl rfl ?_
        refine g_iload_n 27 C dX5_coveredBy_26 rfl rfl ?_
        refine g_iload 29 C dX5_coveredBy_27 rfl rfl ?_
        refine g_S3r 32 0 0 C dX5_coveredBy_29 rfl lk_RX5_50 gs_X5_placeAt ⟨⟨by decide, by decide⟩, by decide, by decide⟩ (Nat.le_of_ble_eq_true rfl) rfl rfl rfl (c_X5_placeAt k s (i : Int)) g_no (fun h9 e29 => ?_)
        replace e29 := e29.symm
        subst e29
        refine g_V2r 35 0 0 C dX5_coveredBy_32 rfl lk_RX5_57 gi_X5_covers gv_X5_covers ⟨_, _, rfl⟩ (by omega) hm ⟨⟨by decide, by decide⟩, by decide, by decide⟩ (Nat.le_of_ble_eq_true rfl) rfl rfl rfl (c_X5_covers m g hs f (15 + 25 * k + 5 * w) ((135 + 19 * (3 * k + s)) + 1 + 3 * (i : Int)) y.1 (K.2.1 w) hmb hm9 hz (by omega) (by omega) (by omega) y1 y2 (rN w hw.1 hw.2) (oN w hw.1 hw.2)) g_no (fun h9 e32 => ?_)
        replace e32 := e32.symm
        subst e32
        refine g_if_eq 42 38 C dX5_coveredBy_35 rfl rfl (gbi_r _) (fun c35 => ?_) (fun c35 => ?_)
        · skip
          have eb : gbi ((fun p : Int × Int => cov (K.2.1 w) p.1) y) = 0 := gbi_f (gbi_0 c35)
          refine g_iconst 43 C dX5_coveredBy_42 rfl ?_
          refine g_iadd 44 C dX5_coveredBy_43 rfl ?_
          refine g_istore 46 [(4, _), (5, _), (0, _), (1, _), (2, _), (3, _)] C dX5_coveredBy_44 (by decide) rfl rfl ?_
          refine g_iinc 49 [(5, _), (4, _), (0, _), (1, _), (2, _), (3, _)] C dX5_coveredBy_46 rfl (by decide) rfl rfl ?_
          refine g_goto 6 C dX5_coveredBy_49 rfl ?_
          refine g_loc [(5, _), (4, .int (gi ((((K.2.2.2 s).take (i + 1)).countP (fun p : Int × Int => cov (K.2.1 w) p.1) : Nat) : Int))), (0, _), (1, _), (2, _), (3, _)] ⟨rfl, (by rw [ct_s hy, eb]; rfl), rfl, rfl, rfl, rfl, trivial⟩ ?_
          exact ih6 (i + 1) (by omega) (by omega)
        · skip
          have eb : gbi ((fun p : Int × Int => cov (K.2.1 w) p.1) y) = 1 := gbi_t (gbi_1 c35)
          refine g_iconst 39 C dX5_coveredBy_38 rfl ?_
          refine g_goto 43 C dX5_coveredBy_39 rfl ?_
          refine g_iadd 44 C dX5_coveredBy_43 rfl ?_
          refine g_istore 46 [(4, _), (5, _), (0, _), (1, _), (2, _), (3, _)] C dX5_coveredBy_44 (by decide) rfl rfl ?_
          refine g_iinc 49 [(5, _), (4, _), (0, _), (1, _), (2, _), (3, _)] C dX5_coveredBy_46 rfl (by decide) rfl rfl ?_
          refine g_goto 6 C dX5_coveredBy_49 rfl ?_
          refine g_loc [(5, _), (4, .int (gi ((((K.2.2.2 s).take (i + 1)).countP (fun p : Int × Int => cov (K.2.1 w) p.1) : Nat) : Int))), (0, _), (1, _), (2, _), (3, _)] ⟨rfl, (by rw [ct_s hy, eb]; rfl), rfl, rfl, rfl, rfl, trivial⟩ ?_
          exact ih6 (i + 1) (by omega) (by omega)
  refine g_loc [(5, _), (4, _), (0, _), (1, _), (2, _), (3, _)] ⟨rfl, rfl, rfl, rfl, rfl, rfl, trivial⟩ ?_
  exact lp6 _ 0 (Nat.zero_le _) (Nat.lt_succ_self _)
set_option maxRecDepth 100000 in
set_option maxHeartbeats 4000000 in
theorem c_X5_mayWrite {E : gEnv} {n : Nat} {σ : Option Nat} {h : gH} (m : Nat) (g : Int → Int) (hs : Int64) (f : Int → Int) (k : Int) (K : gKy) (w s : Int) (hmb : gB E ≤ m ∧ m + 7 ≤ gB E + n) (hm : isMo h m g hs) (hz : h (m + 1) = gI E 311 f) (hk : 0 ≤ k ∧ k < 3) (hR : Rk f k K) (hok : okK K) (hw : 0 ≤ w ∧ w < 5) (hss : 0 ≤ s ∧ s < 3)  : gM E mX5_mayWrite [.ref m, .int (gi w), .int (gi k), .int (gi s)] n σ h (gD (some (.int (gi (gbi (decide (K.1 w < 999 ∧ wOut K w s 1 ≤ 4)))))) n σ (fun h9 => h9 = h)) (gNo) := by
  have hm9 := hm
  unfold isMo at hm
  have hR9 := hR
  have hok9 := hok
  obtain ⟨rW, rN, rV, rL⟩ := hR
  obtain ⟨oW, oN, oV, oL⟩ := hok
  have hWw := oW w (by omega) (by omega)
  have hcn := okK_cnt (K := K) (s := s) hok9 (by omega) (by omega) (fun p => cov (K.2.1 w) p.1)
  have hln := (oL s (by omega) (by omega)).1
  have ewo : wOut K w s 1 = ((K.2.2.2 s).length : Int) - wDrop K w s + 1 := rfl
  have ewd : wDrop K w s = ((K.2.2.2 s).countP (fun p => cov (K.2.1 w) p.1) : Nat) := rfl
  have rWw := rW w hw.1 hw.2
  refine gM_of (by decide) (Nat.le_of_ble_eq_true rfl) (fun F C => ?_)
  refine g_aload_n 1 C dX5_mayWrite_0 rfl rfl ?_
  refine g_iload_n 2 C dX5_mayWrite_1 rfl rfl ?_
  refine g_iload_n 3 C dX5_mayWrite_2 rfl rfl ?_
  refine g_V2r 6 0 0 C dX5_mayWrite_3 rfl lk_RX5_47 gi_X5_siblings gv_X5_siblings ⟨_, _, rfl⟩ (by omega) hm ⟨⟨by decide, by decide⟩, by decide, by decide⟩ (Nat.le_of_ble_eq_true rfl) rfl rfl rfl (c_X5_siblings m g hs f k s (K.2.2.2 s) hmb hm9 hz hk (by omega) (rL s (by omega) (by omega))) g_no (fun h9 e3 => ?_)
  replace e3 := e3.symm
  subst e3
  refine g_aload_n 7 C dX5_mayWrite_6 rfl rfl ?_
  refine g_iload_n 8 C dX5_mayWrite_7 rfl rfl ?_
  refine g_iload_n 9 C dX5_mayWrite_8 rfl rfl ?_
  refine g_iload_n 10 C dX5_mayWrite_9 rfl rfl ?_
  refine g_V3r 13 0 0 C dX5_mayWrite_10 rfl lk_RX5_61 gi_X5_coveredBy gv_X5_coveredBy ⟨_, _, rfl⟩ (by omega) hm ⟨⟨by decide, by decide⟩, by decide, by decide⟩ (Nat.le_of_ble_eq_true rfl) rfl rfl rfl (c_X5_coveredBy m g hs f k K w s hmb hm9 hz hk hR9 hok9 hw hss) g_no (fun h9 e10 => ?_)
  replace e10 := e10.symm
  subst e10
  refine g_isub 14 C dX5_mayWrite_13 rfl ?_
  refine g_iconst 15 C dX5_mayWrite_14 rfl ?_
  refine g_icmp_ge 38 18 C dX5_mayWrite_15 rfl rfl (by rw [ewd]; omega) (by omega) (fun c15 => ?_) (fun c15 => ?_)
  · skip
    have ec := gbi_f (b := decide (K.1 w < 999 ∧ wOut K w s 1 ≤ 4)) (decide_eq_false (by omega))
    refine g_iconst 39 C dX5_mayWrite_38 rfl ?_
    exact g_zret C dX5_mayWrite_39 rfl rfl ⟨by decide, by decide⟩ (by rw [ec]; exact ⟨rfl, rfl, rfl, rfl⟩)
  · skip
    refine g_aload_n 19 C dX5_mayWrite_18 rfl rfl ?_
    refine g_getf 22 C dX5_mayWrite_19 fl_RX5_7 rfl (by omega) hm rfl rfl ?_
    refine g_iload_n 23 C dX5_mayWrite_22 rfl rfl ?_
    refine g_iload_n 24 C dX5_mayWrite_23 rfl rfl ?_
    refine g_S2r 27 0 0 C dX5_mayWrite_24 rfl lk_RX5_64 gs_X5_countAt ⟨⟨by decide, by decide⟩, by decide, by decide⟩ (Nat.le_of_ble_eq_true rfl) rfl rfl rfl (c_X5_countAt k w) g_no (fun h9 e24 => ?_)
    replace e24 := e24.symm
    subst e24
    refine g_iald 28 C dX5_mayWrite_27 (by omega) hz (by omega) (by decide) rfl ?_
    rw [show 0 + 5 * k + w = 5 * k + w by omega, rWw]
    refine g_sipush 31 C dX5_mayWrite_28 (by decide) rfl ?_
    refine g_icmp_ge 38 34 C dX5_mayWrite_31 rfl rfl (by omega) (by omega) (fun c31 => ?_) (fun c31 => ?_)
    · skip
      have ec := gbi_f (b := decide (K.1 w < 999 ∧ wOut K w s 1 ≤ 4)) (decide_eq_false (by omega))
      refine g_iconst 39 C dX5_mayWrite_38 rfl ?_
      exact g_zret C dX5_mayWrite_39 rfl rfl ⟨by decide, by decide⟩ (by rw [ec]; exact ⟨rfl, rfl, rfl, rfl⟩)
    · skip
      have ec := gbi_t (b := decide (K.1 w < 999 ∧ wOut K w s 1 ≤ 4)) (decide_eq_true (by omega))
      refine g_iconst 35 C dX5_mayWrite_34 rfl ?_
      refine g_goto 39 C dX5_mayWrite_35 rfl ?_
      exact g_zret C dX5_mayWrite_39 rfl rfl ⟨by decide, by decide⟩ (by rw [ec]; exact ⟨rfl, rfl, rfl, rfl⟩)
set_option maxRecDepth 100000 in
set_option maxHeartbeats 4000000 in
theorem c_X5_counts {E : gEnv} {n : Nat} {σ : Option Nat} {h : gH} (m : Nat) (g : Int → Int) (hs : Int64) (f : Int → Int) (k : Int) (K : gKy) (hmb : gB E ≤ m ∧ m + 7 ≤ gB E + n) (hm : isMo h m g hs) (hz : h (m + 1) = gI E 311 f) (hk : 0 ≤ k ∧ k < 3) (hR : Rk f k K) (hok : okK K)  : gM E mX5_counts [.ref m, .int (gi k)] n σ h (gD (some (.int (gi (sumN K.1 5)))) n σ (fun h9 => h9 = h)) (gNo) := by
  have hm9 := hm
  unfold isMo at hm
  have hR9 := hR
  have hok9 := hok
  obtain ⟨rW, rN, rV, rL⟩ := hR
  obtain ⟨oW, oN, oV, oL⟩ := hok
  refine gM_of (by decide) (Nat.le_of_ble_eq_true rfl) (fun F C => ?_)
  refine g_iconst 1 C dX5_counts_0 rfl ?_
  refine g_istore_n 2 [(2, _), (0, _), (1, _)] C dX5_counts_1 (by decide) rfl rfl ?_
  refine g_iconst 3 C dX5_counts_2 rfl ?_
  refine g_istore_n 4 [(3, _), (2, _), (0, _), (1, _)] C dX5_counts_3 (by decide) rfl rfl ?_
  have lp4 : ∀ (k9 : Nat) (i : Nat), (i ≤ 5) → 5 - i < k9 → G E F mX5_counts (gQ E F mX5_counts n (gD (some (.int (gi (sumN K.1 5)))) n σ (fun h9 => h9 = h)) (gNo)) n σ h 0 0 4 [(3, .int (gi (i : Int))), (2, .int (gi (sumN K.1 i))), (0, .ref m), (1, .int (gi k))] [] := by
    intro k9
    induction k9 with
    | zero => intro i hi h0; exact absurd h0 (Nat.not_lt_zero _)
    | succ k9 ih4 =>
      intro i hi hk4
      refine g_iload_n 5 C dX5_counts_4 rfl rfl ?_
      refine g_iconst 6 C dX5_counts_5 rfl ?_
      refine g_icmp_ge 28 9 C dX5_counts_6 rfl rfl (by omega) (by omega) (fun c6 => ?_) (fun c6 => ?_)
      · skip
        refine g_iload_n 29 C dX5_counts_28 rfl rfl ?_
        exact g_iret C dX5_counts_29 rfl ⟨by decide, by decide⟩ (by rw [show i = 5 by omega]; exact ⟨rfl, rfl, rfl, rfl⟩)
      · skip
        refine g_iload_n 10 C dX5_counts_9 rfl rfl ?_
        refine g_aload_n 11 C dX5_counts_10 rfl rfl ?_
        refine g_getf 14 C dX5_counts_11 fl_RX5_7 rfl (by omega) hm rfl rfl ?_
        refine g_iload_n 15 C dX5_counts_14 rfl rfl ?_
        refine g_iload_n 16 C dX5_counts_15 rfl rfl ?_
        refine g_S2r 19 0 0 C dX5_counts_16 rfl lk_RX5_64 gs_X5_countAt ⟨⟨by decide, by decide⟩, by decide, by decide⟩ (Nat.le_of_ble_eq_true rfl) rfl rfl rfl (c_X5_countAt k (i : Int)) g_no (fun h9 e16 => ?_)
        replace e16 := e16.symm
        subst e16
        refine g_iald 20 C dX5_counts_19 (by omega) hz (by omega) (by decide) rfl ?_
        rw [show 0 + 5 * k + (i : Int) = 5 * k + (i : Int) by omega, rW (i : Int) (by omega) (by omega)]
        refine g_iadd 21 C dX5_counts_20 rfl ?_
        refine g_istore_n 22 [(2, _), (3, _), (0, _), (1, _)] C dX5_counts_21 (by decide) rfl rfl ?_
        refine g_iinc 25 [(3, _), (2, _), (0, _), (1, _)] C dX5_counts_22 rfl (by decide) rfl rfl ?_
        refine g_goto 4 C dX5_counts_25 rfl ?_
        refine g_loc [(3, _), (2, .int (gi (sumN K.1 (i + 1)))), (0, _), (1, _)] ⟨rfl, rfl, rfl, rfl, trivial⟩ ?_
        exact ih4 (i + 1) (by omega) (by omega)
  refine g_loc [(3, _), (2, _), (0, _), (1, _)] ⟨rfl, rfl, rfl, rfl, trivial⟩ ?_
  exact lp4 _ 0 (by omega) (Nat.lt_succ_self _)
set_option maxRecDepth 100000 in
set_option maxHeartbeats 4000000 in
theorem c_X5_written {E : gEnv} {n : Nat} {σ : Option Nat} {h : gH} (m : Nat) (g : Int → Int) (hs : Int64) (f : Int → Int) (k : Int) (K : gKy) (w s what : Int) (hmb : gB E ≤ m ∧ m + 7 ≤ gB E + n) (hm : isMo h m g hs) (hz : h (m + 1) = gI E 311 f) (hk : 0 ≤ k ∧ k < 3) (hR : Rk f k K) (hok : okK K) (hw : 0 ≤ w ∧ w < 5) (hss : 0 ≤ s ∧ s < 3) (hwh : 0 ≤ what ∧ what ≤ 1)  : gM E mX5_written [.ref m, .int (gi w), .int (gi k), .int (gi s), .int (gi what)] n σ h (gD (some (.int (gi (wOut K w s what)))) n σ (fun h9 => h9 = h)) (gNo) := by
  have hm9 := hm
  unfold isMo at hm
  have hR9 := hR
  have hok9 := hok
  obtain ⟨rW, rN, rV, rL⟩ := hR
  obtain ⟨oW, oN, oV, oL⟩ := hok
  refine gM_of (by decide) (Nat.le_of_ble_eq_true rfl) (fun F C => ?_)
  refine g_aload_n 1 C dX5_written_0 rfl rfl ?_
  refine g_iload_n 2 C dX5_written_1 rfl rfl ?_
  refine g_iload_n 3 C dX5_written_2 rfl rfl ?_
  refine g_iload_n 4 C dX5_written_3 rfl rfl ?_
  refine g_V3r 7 0 0 C dX5_written_4 rfl lk_RX5_61 gi_X5_coveredBy gv_X5_coveredBy ⟨_, _, rfl⟩ (by omega) hm ⟨⟨by decide, by decide⟩, by decide, by decide⟩ (Nat.le_of_ble_eq_true rfl) rfl rfl rfl (c_X5_coveredBy m g hs f k K w s hmb hm9 hz hk hR9 hok9 hw hss) g_no (fun h9 e4 => ?_)
  replace e4 := e4.symm
  subst e4
  refine g_istore 9 [(5, _), (0, _), (1, _), (2, _), (3, _), (4, _)] C dX5_written_7 (by decide) rfl rfl ?_
  refine g_iload 11 C dX5_written_9 rfl rfl ?_
  refine g_if_ne 19 14 C dX5_written_11 rfl rfl (by omega) (fun c11 => ?_) (fun c11 => ?_)
  · skip
    have e9 : wOut K w s what = ((K.2.2.2 s).length : Int) - wDrop K w s + 1 := if_neg c11
    refine g_aload_n 20 C dX5_written_19 rfl rfl ?_
    refine g_iload_n 21 C dX5_written_20 rfl rfl ?_
    refine g_iload_n 22 C dX5_written_21 rfl rfl ?_
    refine g_V2r 25 0 0 C dX5_written_22 rfl lk_RX5_47 gi_X5_siblings gv_X5_siblings ⟨_, _, rfl⟩ (by omega) hm ⟨⟨by decide, by decide⟩, by decide, by decide⟩ (Nat.le_of_ble_eq_true rfl) rfl rfl rfl (c_X5_siblings m g hs f k s (K.2.2.2 s) hmb hm9 hz hk (by omega) (rL s (by omega) (by omega))) g_no (fun h9 e22 => ?_)
    replace e22 := e22.symm
    subst e22
    refine g_iload 27 C dX5_written_25 rfl rfl ?_
    refine g_isub 28 C dX5_written_27 rfl ?_
    refine g_iconst 29 C dX5_written_28 rfl ?_
    refine g_iadd 30 C dX5_written_29 rfl ?_
    exact g_iret C dX5_written_30 rfl ⟨by decide, by decide⟩ (by rw [e9]; exact ⟨rfl, rfl, rfl, rfl⟩)
  · skip
    have e9 : wOut K w s what = wDrop K w s := if_pos (by omega)
    refine g_iload 16 C dX5_written_14 rfl rfl ?_
    refine g_goto 30 C dX5_written_16 rfl ?_
    exact g_iret C dX5_written_30 rfl ⟨by decide, by decide⟩ (by rw [e9]; exact ⟨rfl, rfl, rfl, rfl⟩)
set_option maxRecDepth 100000 in
set_option maxHeartbeats 4000000 in
theorem c_X5_coverers {E : gEnv} {n : Nat} {σ : Option Nat} {h : gH} (m : Nat) (g : Int → Int) (hs : Int64) (f : Int → Int) (k : Int) (K : gKy) (b mark : Int) (hmb : gB E ≤ m ∧ m + 7 ≤ gB E + n) (hm : isMo h m g hs) (hz : h (m + 1) = gI E 311 f) (hk : 0 ≤ k ∧ k < 3) (hR : Rk f k K) (hok : okK K) (hb : 0 ≤ b ∧ b ≤ 308) (hmk : 0 ≤ mark ∧ mark < 5000) (hb1 : f b = mark / 1000) (hb2 : f (b + 1) = mark % 1000)  : gM E mX5_coverers [.ref m, .int (gi k), .int (gi b)] n σ h (gD (some (.int (gi (knw K mark)))) n σ (fun h9 => h9 = h)) (gNo) := by
  have hm9 := hm
  unfold isMo at hm
  have hR9 := hR
  have hok9 := hok
  obtain ⟨rW, rN, rV, rL⟩ := hR
  obtain ⟨oW, oN, oV, oL⟩ := hok
  refine gM_of (by decide) (Nat.le_of_ble_eq_true rfl) (fun F C => ?_)
  refine g_iconst 1 C dX5_coverers_0 rfl ?_
  refine g_istore_n 2 [(3, _), (0, _), (1, _), (2, _)] C dX5_coverers_1 (by decide) rfl rfl ?_
  refine g_iconst 3 C dX5_coverers_2 rfl ?_
  refine g_istore 5 [(4, _), (3, _), (0, _), (1, _), (2, _)] C dX5_coverers_3 (by decide) rfl rfl ?_
  have lp5 : ∀ (k9 : Nat) (i : Nat), (i ≤ 5) → 5 - i < k9 → G E F mX5_coverers (gQ E F mX5_coverers n (gD (some (.int (gi (knw K mark)))) n σ (fun h9 => h9 = h)) (gNo)) n σ h 0 0 5 [(4, .int (gi (i : Int))), (3, .int (gi (gmsk (fun w : Int => cov (K.2.1 w) mark) i))), (0, .ref m), (1, .int (gi k)), (2, .int (gi b))] [] := by
    intro k9
    induction k9 with
    | zero => intro i hi h0; exact absurd h0 (Nat.not_lt_zero _)
    | succ k9 ih5 =>
      intro i hi hk5
      refine g_iload 7 C dX5_coverers_5 rfl rfl ?_
      refine g_iconst 8 C dX5_coverers_7 rfl ?_
      refine g_icmp_ge 42 11 C dX5_coverers_8 rfl rfl (by omega) (by omega) (fun c8 => ?_) (fun c8 => ?_)
      · skip
        refine g_iload_n 43 C dX5_coverers_42 rfl rfl ?_
        exact g_iret C dX5_coverers_43 rfl ⟨by decide, by decide⟩ (by rw [show i = 5 by omega]; exact ⟨rfl, rfl, rfl, rfl⟩)
      · skip
        refine g_iload_n 12 C dX5_coverers_11 rfl rfl ?_
        refine g_aload_n 13 C dX5_coverers_12 rfl rfl ?_
        refine g_iload_n 14 C dX5_coverers_13 rfl rfl ?_
        refine g_iload 16 C dX5_coverers_14 rfl rfl ?_
        refine g_S2r 19 0 0 C dX5_coverers_16 rfl lk_RX5_54 gs_X5_knowsAt ⟨⟨by decide, by decide⟩, by decide, by decide⟩ (Nat.le_of_ble_eq_true rfl) rfl rfl rfl (c_X5_knowsAt k (i : Int)) g_no (fun h9 e16 => ?_)
        replace e16 := e16.symm
        subst e16
        refine g_iload_n 20 C dX5_coverers_19 rfl rfl ?_
        refine g_V2r 23 0 0 C dX5_coverers_20 rfl lk_RX5_57 gi_X5_covers gv_X5_covers ⟨_, _, rfl⟩ (by omega) hm ⟨⟨by decide, by decide⟩, by decide, by decide⟩ (Nat.le_of_ble_eq_true rfl) rfl rfl rfl (c_X5_covers m g hs f (15 + 25 * k + 5 * (i : Int)) b mark (K.2.1 (i : Int)) hmb hm9 hz (by omega) hb hmk hb1 hb2 (rN (i : Int) (by omega) (by omega)) (oN (i : Int) (by omega) (by omega))) g_no (fun h9 e20 => ?_)
        replace e20 := e20.symm
        subst e20
        refine g_if_eq 33 26 C dX5_coverers_23 rfl rfl (gbi_r _) (fun c23 => ?_) (fun c23 => ?_)
        · skip
          have hu8 : gi (gmsk (fun w : Int => cov (K.2.1 w) mark) i) ||| gi 0 = gi (gmsk (fun w : Int => cov (K.2.1 w) mark) (i + 1)) := by rw [gmsk_no _ (gbi_0 c23), or0]
          refine g_iconst 34 C dX5_coverers_33 rfl ?_
          refine g_ior 35 C dX5_coverers_34 hu8 rfl ?_
          refine g_istore_n 36 [(3, _), (4, _), (0, _), (1, _), (2, _)] C dX5_coverers_35 (by decide) rfl rfl ?_
          refine g_iinc 39 [(4, _), (3, _), (0, _), (1, _), (2, _)] C dX5_coverers_36 rfl (by decide) rfl rfl ?_
          refine g_goto 5 C dX5_coverers_39 rfl ?_
          refine g_loc [(4, _), (3, .int (gi (gmsk (fun w : Int => cov (K.2.1 w) mark) (i + 1)))), (0, _), (1, _), (2, _)] ⟨rfl, rfl, rfl, rfl, rfl, trivial⟩ ?_
          exact ih5 (i + 1) (by omega) (by omega)
        · skip
          have hu8 := gmsk_or (fun w : Int => cov (K.2.1 w) mark) (i := i) (by omega) (gbi_1 c23)
          refine g_iconst 27 C dX5_coverers_26 rfl ?_
          refine g_iload 29 C dX5_coverers_27 rfl rfl ?_
          refine g_ishl 30 C dX5_coverers_29 (g_shl (by omega)) rfl ?_
          refine g_goto 34 C dX5_coverers_30 rfl ?_
          refine g_ior 35 C dX5_coverers_34 hu8 rfl ?_
          refine g_istore_n 36 [(3, _), (4, _), (0, _), (1, _), (2, _)] C dX5_coverers_35 (by decide) rfl rfl ?_
          refine g_iinc 39 [(4, _), (3, _), (0, _), (1, _), (2, _)] C dX5_coverers_36 rfl (by decide) rfl rfl ?_
          refine g_goto 5 C dX5_coverers_39 rfl ?_
          refine g_loc [(4, _), (3, .int (gi (gmsk (fun w : Int => cov (K.2.1 w) mark) (i + 1)))), (0, _), (1, _), (2, _)] ⟨rfl, rfl, rfl, rfl, rfl, trivial⟩ ?_
          exact ih5 (i + 1) (by omega) (by omega)
  refine g_loc [(4, _), (3, _), (0, _), (1, _), (2, _)] ⟨rfl, rfl, rfl, rfl, rfl, trivial⟩ ?_
  exact lp5 _ 0 (by omega) (Nat.lt_succ_self _)
set_option maxRecDepth 100000 in
set_option maxHeartbeats 4000000 in
theorem c_X5_holders {E : gEnv} {n : Nat} {σ : Option Nat} {h : gH} (m : Nat) (g : Int → Int) (hs : Int64) (f : Int → Int) (k : Int) (K : gKy) (b mark : Int) (hmb : gB E ≤ m ∧ m + 7 ≤ gB E + n) (hm : isMo h m g hs) (hz : h (m + 1) = gI E 311 f) (hk : 0 ≤ k ∧ k < 3) (hR : Rk f k K) (hok : okK K) (hb : 0 ≤ b ∧ b ≤ 308) (hmk : 0 ≤ mark ∧ mark < 5000) (hb1 : f b = mark / 1000) (hb2 : f (b + 1) = mark % 1000)  : gM E mX5_holders [.ref m, .int (gi k), .int (gi b)] n σ h (gD (some (.int (gi (hld K mark)))) n σ (fun h9 => h9 = h)) (gNo) := by
  have hm9 := hm
  unfold isMo at hm
  have hR9 := hR
  have hok9 := hok
  obtain ⟨rW, rN, rV, rL⟩ := hR
  obtain ⟨oW, oN, oV, oL⟩ := hok
  refine gM_of (by decide) (Nat.le_of_ble_eq_true rfl) (fun F C => ?_)
  refine g_iconst 1 C dX5_holders_0 rfl ?_
  refine g_istore_n 2 [(3, _), (0, _), (1, _), (2, _)] C dX5_holders_1 (by decide) rfl rfl ?_
  refine g_iconst 3 C dX5_holders_2 rfl ?_
  refine g_istore 5 [(4, _), (3, _), (0, _), (1, _), (2, _)] C dX5_holders_3 (by decide) rfl rfl ?_
  have lp5 : ∀ (k9 : Nat) (i : Nat), (i ≤ 3) → 3 - i < k9 → G E F mX5_holders (gQ E F mX5_holders n (gD (some (.int (gi (hld K mark)))) n σ (fun h9 => h9 = h)) (gNo)) n σ h 0 0 5 [(4, .int (gi (i : Int))), (3, .int (gi (gmsk (fun s : Int => hasM (K.2.2.2 s) mark) i))), (0, .ref m), (1, .int (gi k)), (2, .int (gi b))] [] := by
    intro k9
    induction k9 with
    | zero => intro i hi h0; exact absurd h0 (Nat.not_lt_zero _)
    | succ k9 ih5 =>
      intro i hi hk5
      refine g_iload 7 C dX5_holders_5 rfl rfl ?_
      refine g_iconst 8 C dX5_holders_7 rfl ?_
      refine g_icmp_ge 52 11 C dX5_holders_8 rfl rfl (by omega) (by omega) (fun c8 => ?_) (fun c8 => ?_)
      · skip
        refine g_iload_n 53 C dX5_holders_52 rfl rfl ?_
        exact g_iret C dX5_holders_53 rfl ⟨by decide, by decide⟩ (by rw [show i = 3 by omega]; exact ⟨rfl, rfl, rfl, rfl⟩)
      · skip
        refine g_iload_n 12 C dX5_holders_11 rfl rfl ?_
        refine g_aload_n 13 C dX5_holders_12 rfl rfl ?_
        refine g_iload_n 14 C dX5_holders_13 rfl rfl ?_
        refine g_iload 16 C dX5_holders_14 rfl rfl ?_
        refine g_aload_n 17 C dX5_holders_16 rfl rfl ?_
        refine g_getf 20 C dX5_holders_17 fl_RX5_7 rfl (by omega) hm rfl rfl ?_
        refine g_iload_n 21 C dX5_holders_20 rfl rfl ?_
        refine g_iald 22 C dX5_holders_21 (by omega) hz (by omega) (by decide) rfl ?_
        rw [hb1]
        refine g_aload_n 23 C dX5_holders_22 rfl rfl ?_
        refine g_getf 26 C dX5_holders_23 fl_RX5_7 rfl (by omega) hm rfl rfl ?_
        refine g_iload_n 27 C dX5_holders_26 rfl rfl ?_
        refine g_iconst 28 C dX5_holders_27 rfl ?_
        refine g_iadd 29 C dX5_holders_28 rfl ?_
        refine g_iald 30 C dX5_holders_29 (by omega) hz (by omega) (by decide) rfl ?_
        rw [hb2]
        refine g_V4r 33 0 0 C dX5_holders_30 rfl lk_RX5_121 gi_X5_has gv_X5_has ⟨_, _, rfl⟩ (by omega) hm ⟨⟨by decide, by decide⟩, by decide, by decide⟩ (Nat.le_of_ble_eq_true rfl) rfl rfl rfl (c_X5_has m g hs f k (i : Int) (K.2.2.2 (i : Int)) mark hmb hm9 hz hk (by omega) (rL (i : Int) (by omega) (by omega)) (oL (i : Int) (by omega) (by omega)) hmk) g_no (fun h9 e30 => ?_)
        replace e30 := e30.symm
        subst e30
        refine g_if_eq 43 36 C dX5_holders_33 rfl rfl (gbi_r _) (fun c33 => ?_) (fun c33 => ?_)
        · skip
          have hu8 : gi (gmsk (fun s : Int => hasM (K.2.2.2 s) mark) i) ||| gi 0 = gi (gmsk (fun s : Int => hasM (K.2.2.2 s) mark) (i + 1)) := by rw [gmsk_no _ (gbi_0 c33), or0]
          refine g_iconst 44 C dX5_holders_43 rfl ?_
          refine g_ior 45 C dX5_holders_44 hu8 rfl ?_
          refine g_istore_n 46 [(3, _), (4, _), (0, _), (1, _), (2, _)] C dX5_holders_45 (by decide) rfl rfl ?_
          refine g_iinc 49 [(4, _), (3, _), (0, _), (1, _), (2, _)] C dX5_holders_46 rfl (by decide) rfl rfl ?_
          refine g_goto 5 C dX5_holders_49 rfl ?_
          refine g_loc [(4, _), (3, .int (gi (gmsk (fun s : Int => hasM (K.2.2.2 s) mark) (i + 1)))), (0, _), (1, _), (2, _)] ⟨rfl, rfl, rfl, rfl, rfl, trivial⟩ ?_
          exact ih5 (i + 1) (by omega) (by omega)
        · skip
          have hu8 := gmsk_or (fun s : Int => hasM (K.2.2.2 s) mark) (i := i) (by omega) (gbi_1 c33)
          refine g_iconst 37 C dX5_holders_36 rfl ?_
          refine g_iload 39 C dX5_holders_37 rfl rfl ?_
          refine g_ishl 40 C dX5_holders_39 (g_shl (by omega)) rfl ?_
          refine g_goto 44 C dX5_holders_40 rfl ?_
          refine g_ior 45 C dX5_holders_44 hu8 rfl ?_
          refine g_istore_n 46 [(3, _), (4, _), (0, _), (1, _), (2, _)] C dX5_holders_45 (by decide) rfl rfl ?_
          refine g_iinc 49 [(4, _), (3, _), (0, _), (1, _), (2, _)] C dX5_holders_46 rfl (by decide) rfl rfl ?_
          refine g_goto 5 C dX5_holders_49 rfl ?_
          refine g_loc [(4, _), (3, .int (gi (gmsk (fun s : Int => hasM (K.2.2.2 s) mark) (i + 1)))), (0, _), (1, _), (2, _)] ⟨rfl, rfl, rfl, rfl, rfl, trivial⟩ ?_
          exact ih5 (i + 1) (by omega) (by omega)
  refine g_loc [(4, _), (3, _), (0, _), (1, _), (2, _)] ⟨rfl, rfl, rfl, rfl, rfl, trivial⟩ ?_
  exact lp5 _ 0 (by omega) (Nat.lt_succ_self _)
theorem hasW_s {l : List (Int × Int)} {i : Nat} {y : Int × Int} {w : Int} (h : l[i]? = some y) : hasW (l.take (i + 1)) w = (hasW (l.take i) w || y.1 / 1000 == w) := by
  unfold hasW
  rw [take_s h, List.any_append]
  simp
/-- a mark of the writer is at a store before the i-th; all stores before it see the same of him -/
def whA (K : gKy) (w : Int) (i : Nat) : Bool := rgA (fun s => hasW (K.2.2.2 s) w) i
def whB (K : gKy) (w : Int) (i : Nat) : Bool := !(rgA (fun s => !(K.2.2.1 s w == K.2.2.1 0 w)) i)
theorem hind_e (K : gKy) (w : Int) : hind K w = if whA K w 3 = true then 1 else if whB K w 3 = true then 0 else 2 := by
  unfold hind whA whB
  cases rgA (fun s => hasW (K.2.2.2 s) w) 3 <;> cases rgA (fun s => !(K.2.2.1 s w == K.2.2.1 0 w)) 3 <;> rfl
set_option maxRecDepth 100000 in
set_option maxHeartbeats 4000000 in
theorem c_X5_why {E : gEnv} {n : Nat} {σ : Option Nat} {h : gH} (m : Nat) (g : Int → Int) (hs : Int64) (f : Int → Int) (k : Int) (K : gKy) (w : Int) (hmb : gB E ≤ m ∧ m + 7 ≤ gB E + n) (hm : isMo h m g hs) (hz : h (m + 1) = gI E 311 f) (hk : 0 ≤ k ∧ k < 3) (hR : Rk f k K) (hok : okK K) (hw : 0 ≤ w ∧ w < 5)  : gM E mX5_why [.ref m, .int (gi w), .int (gi k)] n σ h (gD (some (.int (gi (hind K w)))) n σ (fun h9 => h9 = h)) (gNo) := by
  have hm9 := hm
  unfold isMo at hm
  have hR9 := hR
  have hok9 := hok
  obtain ⟨rW, rN, rV, rL⟩ := hR
  obtain ⟨oW, oN, oV, oL⟩ := hok
  refine gM_of (by decide) (Nat.le_of_ble_eq_true rfl) (fun F C => ?_)
  refine g_iconst 1 C dX5_why_0 rfl ?_
  refine g_istore_n 2 [(3, _), (0, _), (1, _), (2, _)] C dX5_why_1 (by decide) rfl rfl ?_
  refine g_iconst 3 C dX5_why_2 rfl ?_
  refine g_istore 5 [(4, _), (3, _), (0, _), (1, _), (2, _)] C dX5_why_3 (by decide) rfl rfl ?_
  refine g_iconst 6 C dX5_why_5 rfl ?_
  refine g_istore 8 [(5, _), (4, _), (3, _), (0, _), (1, _), (2, _)] C dX5_why_6 (by decide) rfl rfl ?_
  have lp8 : ∀ (k9 : Nat) (i : Nat), (i ≤ 3) → 3 - i < k9 → G E F mX5_why (gQ E F mX5_why n (gD (some (.int (gi (hind K w)))) n σ (fun h9 => h9 = h)) (gNo)) n σ h 0 0 8 [(5, .int (gi (i : Int))), (4, .int (gi (gbi (whB K w i)))), (3, .int (gi (gbi (whA K w i)))), (0, .ref m), (1, .int (gi w)), (2, .int (gi k))] [] := by
    intro k9
    induction k9 with
    | zero => intro i hi h0; exact absurd h0 (Nat.not_lt_zero _)
    | succ k9 ih8 =>
      intro i hi hk8
      refine g_iload 10 C dX5_why_8 rfl rfl ?_
      refine g_iconst 11 C dX5_why_10 rfl ?_
      refine g_icmp_ge 110 14 C dX5_why_11 rfl rfl (by omega) (by omega) (fun c11 => ?_) (fun c11 => ?_)
      · skip
        refine g_iload_n 111 C dX5_why_110 rfl rfl ?_
        have hi3 : i = 3 := by omega
        subst hi3
        have hin := hind_e K w
        refine g_if_eq 118 114 C dX5_why_111 rfl rfl (gbi_r _) (fun c111 => ?_) (fun c111 => ?_)
        · skip
          have z3 := gbi_0 c111
          rw [if_neg (show ¬ whA K w 3 = true by rw [z3]; decide)] at hin
          refine g_iload 120 C dX5_why_118 rfl rfl ?_
          refine g_if_eq 127 123 C dX5_why_120 rfl rfl (gbi_r _) (fun c120 => ?_) (fun c120 => ?_)
          · skip
            have z4 := gbi_0 c120
            rw [if_neg (show ¬ whB K w 3 = true by rw [z4]; decide)] at hin
            refine g_iconst 128 C dX5_why_127 rfl ?_
            exact g_iret C dX5_why_128 rfl ⟨by decide, by decide⟩ (by rw [hin]; exact ⟨rfl, rfl, rfl, rfl⟩)
          · skip
            have z4 := gbi_1 c120
            rw [if_pos z4] at hin
            refine g_iconst 124 C dX5_why_123 rfl ?_
            refine g_goto 128 C dX5_why_124 rfl ?_
            exact g_iret C dX5_why_128 rfl ⟨by decide, by decide⟩ (by rw [hin]; exact ⟨rfl, rfl, rfl, rfl⟩)
        · skip
          have z3 := gbi_1 c111
          rw [if_pos z3] at hin
          refine g_iconst 115 C dX5_why_114 rfl ?_
          refine g_goto 128 C dX5_why_115 rfl ?_
          exact g_iret C dX5_why_128 rfl ⟨by decide, by decide⟩ (by rw [hin]; exact ⟨rfl, rfl, rfl, rfl⟩)
      · skip
        refine g_iload 16 C dX5_why_14 rfl rfl ?_
        refine g_if_eq 51 19 C dX5_why_16 rfl rfl (gbi_r _) (fun c16 => ?_) (fun c16 => ?_)
        · skip
          have e4 := gbi_0 c16
          have eb4 : whB K w (i + 1) = false := by unfold whB; rw [rgA_s]; unfold whB at e4; rw [Bool.not_eq_false' ] at e4; rw [e4]; rfl
          refine g_iconst 52 C dX5_why_51 rfl ?_
          refine g_istore 54 [(4, _), (5, _), (3, _), (0, _), (1, _), (2, _)] C dX5_why_52 (by decide) rfl rfl ?_
          refine g_iconst 55 C dX5_why_54 rfl ?_
          refine g_istore 57 [(6, _), (4, _), (5, _), (3, _), (0, _), (1, _), (2, _)] C dX5_why_55 (by decide) rfl rfl ?_
          have lp57 : ∀ (k9 : Nat) (j : Nat), (j ≤ (K.2.2.2 (i : Int)).length) → (K.2.2.2 (i : Int)).length - j < k9 → G E F mX5_why (gQ E F mX5_why n (gD (some (.int (gi (hind K w)))) n σ (fun h9 => h9 = h)) (gNo)) n σ h 0 0 57 [(6, .int (gi (j : Int))), (5, .int (gi (i : Int))), (4, .int (gi (gbi (whB K w (i + 1))))), (3, .int (gi (gbi (whA K w i || hasW ((K.2.2.2 (i : Int)).take j) w)))), (0, .ref m), (1, .int (gi w)), (2, .int (gi k))] [] := by
            intro k9
            induction k9 with
            | zero => intro j hj h0; exact absurd h0 (Nat.not_lt_zero _)
            | succ k9 ih57 =>
              intro j hj hk57
              have h4 := (oL (i : Int) (by omega) (by omega)).1
              refine g_iload 59 C dX5_why_57 rfl rfl ?_
              refine g_aload_n 60 C dX5_why_59 rfl rfl ?_
              refine g_iload_n 61 C dX5_why_60 rfl rfl ?_
              refine g_iload 63 C dX5_why_61 rfl rfl ?_
              refine g_V2r 66 0 0 C dX5_why_63 rfl lk_RX5_47 gi_X5_siblings gv_X5_siblings ⟨_, _, rfl⟩ (by omega) hm ⟨⟨by decide, by decide⟩, by decide, by decide⟩ (Nat.le_of_ble_eq_true rfl) rfl rfl rfl (c_X5_siblings m g hs f k (i : Int) (K.2.2.2 (i : Int)) hmb hm9 hz hk (by omega) (rL (i : Int) (by omega) (by omega))) g_no (fun h9 e63 => ?_)
              replace e63 := e63.symm
              subst e63
              refine g_icmp_ge 104 69 C dX5_why_66 rfl rfl (by omega) (by omega) (fun c66 => ?_) (fun c66 => ?_)
              · skip
                have hjl : j = (K.2.2.2 (i : Int)).length := by omega
                refine g_iinc 107 [(5, _), (6, _), (4, _), (3, _), (0, _), (1, _), (2, _)] C dX5_why_104 rfl (by decide) rfl rfl ?_
                refine g_goto 8 C dX5_why_107 rfl ?_
                refine g_loc [(5, _), (4, .int (gi (gbi (whB K w (i + 1))))), (3, .int (gi (gbi (whA K w (i + 1))))), (0, _), (1, _), (2, _)] ⟨rfl, rfl, (by rw [show whA K w (i + 1) = (whA K w i || hasW (K.2.2.2 (i : Int)) w) from rgA_s, hjl, List.take_length]; rfl), rfl, rfl, rfl, trivial⟩ ?_
                exact ih8 (i + 1) (by omega) (by omega)
              · skip
                have hl := rL (i : Int) (by omega) (by omega)
                have hol := oL (i : Int) (by omega) (by omega)
                have h4 := hol.1
                obtain ⟨y, hy, hyl⟩ := get_of (l := K.2.2.2 (i : Int)) (i := j) (by omega)
                obtain ⟨y1, y2, y3⟩ := hl.2 j y hy
                have hyo := hol.2 y hyl
                refine g_iload_n 70 C dX5_why_69 rfl rfl ?_
                refine g_if_ne 92 73 C dX5_why_70 rfl rfl (gbi_r _) (fun c70 => ?_) (fun c70 => ?_)
                · skip
                  have e3 := gbi_1 c70
                  have eb3 : (whA K w i || hasW ((K.2.2.2 (i : Int)).take (j + 1)) w) = true := by rw [hasW_s hy, ← Bool.or_assoc, e3]; rfl
                  refine g_iconst 93 C dX5_why_92 rfl ?_
                  refine g_goto 97 C dX5_why_93 rfl ?_
                  refine g_istore_n 98 [(3, _), (6, _), (5, _), (4, _), (0, _), (1, _), (2, _)] C dX5_why_97 (by decide) rfl rfl ?_
                  refine g_iinc 101 [(6, _), (3, _), (5, _), (4, _), (0, _), (1, _), (2, _)] C dX5_why_98 rfl (by decide) rfl rfl ?_
                  refine g_goto 57 C dX5_why_101 rfl ?_
                  refine g_loc [(6, _), (5, _), (4, _), (3, .int (gi (gbi (whA K w i || hasW ((K.2.2.2 (i : Int)).take (j + 1)) w)))), (0, _), (1, _), (2, _)] ⟨rfl, rfl, rfl, (by rw [eb3]; first | rfl | skip), rfl, rfl, rfl, trivial⟩ ?_
                  exact ih57 (j + 1) (by omega) (by omega)
                · skip
                  have e3 := gbi_0 c70
                  refine g_aload_n 74 C dX5_why_73 rfl rfl ?_
                  refine g_getf 77 C dX5_why_74 fl_RX5_7 rfl (by omega) hm rfl rfl ?_
                  refine g_iload_n 78 C dX5_why_77 rfl rfl ?_
                  refine g_iload 80 C dX5_why_78 rfl rfl ?_
                  refine g_iload 82 C dX5_why_80 rfl rfl ?_
                  refine g_S3r 85 0 0 C dX5_why_82 rfl lk_RX5_50 gs_X5_placeAt ⟨⟨by decide, by decide⟩, by decide, by decide⟩ (Nat.le_of_ble_eq_true rfl) rfl rfl rfl (c_X5_placeAt k (i : Int) (j : Int)) g_no (fun h9 e82 => ?_)
                  replace e82 := e82.symm
                  subst e82
                  refine g_iconst 86 C dX5_why_85 rfl ?_
                  refine g_iadd 87 C dX5_why_86 rfl ?_
                  refine g_iald 88 C dX5_why_87 (by omega) hz (by omega) (by decide) rfl ?_
                  rw [Int.add_zero, y1]
                  refine g_iload_n 89 C dX5_why_88 rfl rfl ?_
                  refine g_icmp_ne 96 92 C dX5_why_89 rfl rfl (by omega) (by omega) (fun c89 => ?_) (fun c89 => ?_)
                  · skip
                    have eb3 : (whA K w i || hasW ((K.2.2.2 (i : Int)).take (j + 1)) w) = false := by rw [hasW_s hy, ← Bool.or_assoc, e3, Bool.false_or]; exact beq_eq_false_iff_ne.mpr c89
                    refine g_iconst 97 C dX5_why_96 rfl ?_
                    refine g_istore_n 98 [(3, _), (6, _), (5, _), (4, _), (0, _), (1, _), (2, _)] C dX5_why_97 (by decide) rfl rfl ?_
                    refine g_iinc 101 [(6, _), (3, _), (5, _), (4, _), (0, _), (1, _), (2, _)] C dX5_why_98 rfl (by decide) rfl rfl ?_
                    refine g_goto 57 C dX5_why_101 rfl ?_
                    refine g_loc [(6, _), (5, _), (4, _), (3, .int (gi (gbi (whA K w i || hasW ((K.2.2.2 (i : Int)).take (j + 1)) w)))), (0, _), (1, _), (2, _)] ⟨rfl, rfl, rfl, (by rw [eb3]; first | rfl | skip), rfl, rfl, rfl, trivial⟩ ?_
                    exact ih57 (j + 1) (by omega) (by omega)
                  · skip
                    have eb3 : (whA K w i || hasW ((K.2.2.2 (i : Int)).take (j + 1)) w) = true := by rw [hasW_s hy, ← Bool.or_assoc, e3, Bool.false_or]; exact beq_iff_eq.mpr (by omega)
                    refine g_iconst 93 C dX5_why_92 rfl ?_
                    refine g_goto 97 C dX5_why_93 rfl ?_
                    refine g_istore_n 98 [(3, _), (6, _), (5, _), (4, _), (0, _), (1, _), (2, _)] C dX5_why_97 (by decide) rfl rfl ?_
                    refine g_iinc 101 [(6, _), (3, _), (5, _), (4, _), (0, _), (1, _), (2, _)] C dX5_why_98 rfl (by decide) rfl rfl ?_
                    refine g_goto 57 C dX5_why_101 rfl ?_
                    refine g_loc [(6, _), (5, _), (4, _), (3, .int (gi (gbi (whA K w i || hasW ((K.2.2.2 (i : Int)).take (j + 1)) w)))), (0, _), (1, _), (2, _)] ⟨rfl, rfl, rfl, (by rw [eb3]; first | rfl | skip), rfl, rfl, rfl, trivial⟩ ?_
                    exact ih57 (j + 1) (by omega) (by omega)
          refine g_loc [(6, _), (5, _), (4, _), (3, _), (0, _), (1, _), (2, _)] ⟨rfl, rfl, rfl, rfl, rfl, rfl, rfl, trivial⟩ ?_
          refine g_loc [(6, .int (gi ((0 : Nat) : Int))), (5, _), (4, .int (gi (gbi (whB K w (i + 1))))), (3, .int (gi (gbi (whA K w i || hasW ((K.2.2.2 (i : Int)).take 0) w)))), (0, _), (1, _), (2, _)] ⟨rfl, rfl, (by first | rfl | (rw [eb4]; rfl)), (by rw [show hasW ((K.2.2.2 (i : Int)).take 0) w = false from rfl, Bool.or_false]; rfl), rfl, rfl, rfl, trivial⟩ ?_
          exact lp57 _ 0 (by omega) (Nat.lt_succ_self _)
        · skip
          have e4 := gbi_1 c16
          have e49 : rgA (fun s => !(K.2.2.1 s w == K.2.2.1 0 w)) i = false := by unfold whB at e4; rw [Bool.not_eq_true'] at e4; exact e4
          have hv1 := oV (i : Int) (by omega) (by omega) w hw.1 hw.2
          have hv0 := oV 0 (by omega) (by omega) w hw.1 hw.2
          refine g_aload_n 20 C dX5_why_19 rfl rfl ?_
          refine g_getf 23 C dX5_why_20 fl_RX5_7 rfl (by omega) hm rfl rfl ?_
          refine g_iload_n 24 C dX5_why_23 rfl rfl ?_
          refine g_iload 26 C dX5_why_24 rfl rfl ?_
          refine g_S2r 29 0 0 C dX5_why_26 rfl lk_RX5_75 gs_X5_vectorAt ⟨⟨by decide, by decide⟩, by decide, by decide⟩ (Nat.le_of_ble_eq_true rfl) rfl rfl rfl (c_X5_vectorAt k (i : Int)) g_no (fun h9 e26 => ?_)
          replace e26 := e26.symm
          subst e26
          refine g_iload_n 30 C dX5_why_29 rfl rfl ?_
          refine g_iadd 31 C dX5_why_30 rfl ?_
          refine g_iald 32 C dX5_why_31 (by omega) hz (by omega) (by decide) rfl ?_
          rw [rV (i : Int) (by omega) (by omega) w hw.1 hw.2]
          refine g_aload_n 33 C dX5_why_32 rfl rfl ?_
          refine g_getf 36 C dX5_why_33 fl_RX5_7 rfl (by omega) hm rfl rfl ?_
          refine g_iload_n 37 C dX5_why_36 rfl rfl ?_
          refine g_iconst 38 C dX5_why_37 rfl ?_
          refine g_S2r 41 0 0 C dX5_why_38 rfl lk_RX5_75 gs_X5_vectorAt ⟨⟨by decide, by decide⟩, by decide, by decide⟩ (Nat.le_of_ble_eq_true rfl) rfl rfl rfl (c_X5_vectorAt k 0) g_no (fun h9 e38 => ?_)
          replace e38 := e38.symm
          subst e38
          refine g_iload_n 42 C dX5_why_41 rfl rfl ?_
          refine g_iadd 43 C dX5_why_42 rfl ?_
          refine g_iald 44 C dX5_why_43 (by omega) hz (by omega) (by decide) rfl ?_
          rw [rV 0 (by omega) (by omega) w hw.1 hw.2]
          refine g_icmp_ne 51 47 C dX5_why_44 rfl rfl (by omega) (by omega) (fun c44 => ?_) (fun c44 => ?_)
          · skip
            have eb4 : whB K w (i + 1) = false := by unfold whB; rw [rgA_s, e49, Bool.false_or, beq_eq_false_iff_ne.mpr (fun z => c44 z)]; rfl
            refine g_iconst 52 C dX5_why_51 rfl ?_
            refine g_istore 54 [(4, _), (5, _), (3, _), (0, _), (1, _), (2, _)] C dX5_why_52 (by decide) rfl rfl ?_
            refine g_iconst 55 C dX5_why_54 rfl ?_
            refine g_istore 57 [(6, _), (4, _), (5, _), (3, _), (0, _), (1, _), (2, _)] C dX5_why_55 (by decide) rfl rfl ?_
            have lp57 : ∀ (k9 : Nat) (j : Nat), (j ≤ (K.2.2.2 (i : Int)).length) → (K.2.2.2 (i : Int)).length - j < k9 → G E F mX5_why (gQ E F mX5_why n (gD (some (.int (gi (hind K w)))) n σ (fun h9 => h9 = h)) (gNo)) n σ h 0 0 57 [(6, .int (gi (j : Int))), (5, .int (gi (i : Int))), (4, .int (gi (gbi (whB K w (i + 1))))), (3, .int (gi (gbi (whA K w i || hasW ((K.2.2.2 (i : Int)).take j) w)))), (0, .ref m), (1, .int (gi w)), (2, .int (gi k))] [] := by
              intro k9
              induction k9 with
              | zero => intro j hj h0; exact absurd h0 (Nat.not_lt_zero _)
              | succ k9 ih57 =>
                intro j hj hk57
                have h4 := (oL (i : Int) (by omega) (by omega)).1
                refine g_iload 59 C dX5_why_57 rfl rfl ?_
                refine g_aload_n 60 C dX5_why_59 rfl rfl ?_
                refine g_iload_n 61 C dX5_why_60 rfl rfl ?_
                refine g_iload 63 C dX5_why_61 rfl rfl ?_
                refine g_V2r 66 0 0 C dX5_why_63 rfl lk_RX5_47 gi_X5_siblings gv_X5_siblings ⟨_, _, rfl⟩ (by omega) hm ⟨⟨by decide, by decide⟩, by decide, by decide⟩ (Nat.le_of_ble_eq_true rfl) rfl rfl rfl (c_X5_siblings m g hs f k (i : Int) (K.2.2.2 (i : Int)) hmb hm9 hz hk (by omega) (rL (i : Int) (by omega) (by omega))) g_no (fun h9 e63 => ?_)
                replace e63 := e63.symm
                subst e63
                refine g_icmp_ge 104 69 C dX5_why_66 rfl rfl (by omega) (by omega) (fun c66 => ?_) (fun c66 => ?_)
                · skip
                  have hjl : j = (K.2.2.2 (i : Int)).length := by omega
                  refine g_iinc 107 [(5, _), (6, _), (4, _), (3, _), (0, _), (1, _), (2, _)] C dX5_why_104 rfl (by decide) rfl rfl ?_
                  refine g_goto 8 C dX5_why_107 rfl ?_
                  refine g_loc [(5, _), (4, .int (gi (gbi (whB K w (i + 1))))), (3, .int (gi (gbi (whA K w (i + 1))))), (0, _), (1, _), (2, _)] ⟨rfl, rfl, (by rw [show whA K w (i + 1) = (whA K w i || hasW (K.2.2.2 (i : Int)) w) from rgA_s, hjl, List.take_length]; rfl), rfl, rfl, rfl, trivial⟩ ?_
                  exact ih8 (i + 1) (by omega) (by omega)
                · skip
                  have hl := rL (i : Int) (by omega) (by omega)
                  have hol := oL (i : Int) (by omega) (by omega)
                  have h4 := hol.1
                  obtain ⟨y, hy, hyl⟩ := get_of (l := K.2.2.2 (i : Int)) (i := j) (by omega)
                  obtain ⟨y1, y2, y3⟩ := hl.2 j y hy
                  have hyo := hol.2 y hyl
                  refine g_iload_n 70 C dX5_why_69 rfl rfl ?_
                  refine g_if_ne 92 73 C dX5_why_70 rfl rfl (gbi_r _) (fun c70 => ?_) (fun c70 => ?_)
                  · skip
                    have e3 := gbi_1 c70
                    have eb3 : (whA K w i || hasW ((K.2.2.2 (i : Int)).take (j + 1)) w) = true := by rw [hasW_s hy, ← Bool.or_assoc, e3]; rfl
                    refine g_iconst 93 C dX5_why_92 rfl ?_
                    refine g_goto 97 C dX5_why_93 rfl ?_
                    refine g_istore_n 98 [(3, _), (6, _), (5, _), (4, _), (0, _), (1, _), (2, _)] C dX5_why_97 (by decide) rfl rfl ?_
                    refine g_iinc 101 [(6, _), (3, _), (5, _), (4, _), (0, _), (1, _), (2, _)] C dX5_why_98 rfl (by decide) rfl rfl ?_
                    refine g_goto 57 C dX5_why_101 rfl ?_
                    refine g_loc [(6, _), (5, _), (4, _), (3, .int (gi (gbi (whA K w i || hasW ((K.2.2.2 (i : Int)).take (j + 1)) w)))), (0, _), (1, _), (2, _)] ⟨rfl, rfl, rfl, (by rw [eb3]; first | rfl | skip), rfl, rfl, rfl, trivial⟩ ?_
                    exact ih57 (j + 1) (by omega) (by omega)
                  · skip
                    have e3 := gbi_0 c70
                    refine g_aload_n 74 C dX5_why_73 rfl rfl ?_
                    refine g_getf 77 C dX5_why_74 fl_RX5_7 rfl (by omega) hm rfl rfl ?_
                    refine g_iload_n 78 C dX5_why_77 rfl rfl ?_
                    refine g_iload 80 C dX5_why_78 rfl rfl ?_
                    refine g_iload 82 C dX5_why_80 rfl rfl ?_
                    refine g_S3r 85 0 0 C dX5_why_82 rfl lk_RX5_50 gs_X5_placeAt ⟨⟨by decide, by decide⟩, by decide, by decide⟩ (Nat.le_of_ble_eq_true rfl) rfl rfl rfl (c_X5_placeAt k (i : Int) (j : Int)) g_no (fun h9 e82 => ?_)
                    replace e82 := e82.symm
                    subst e82
                    refine g_iconst 86 C dX5_why_85 rfl ?_
                    refine g_iadd 87 C dX5_why_86 rfl ?_
                    refine g_iald 88 C dX5_why_87 (by omega) hz (by omega) (by decide) rfl ?_
                    rw [Int.add_zero, y1]
                    refine g_iload_n 89 C dX5_why_88 rfl rfl ?_
                    refine g_icmp_ne 96 92 C dX5_why_89 rfl rfl (by omega) (by omega) (fun c89 => ?_) (fun c89 => ?_)
                    · skip
                      have eb3 : (whA K w i || hasW ((K.2.2.2 (i : Int)).take (j + 1)) w) = false := by rw [hasW_s hy, ← Bool.or_assoc, e3, Bool.false_or]; exact beq_eq_false_iff_ne.mpr c89
                      refine g_iconst 97 C dX5_why_96 rfl ?_
                      refine g_istore_n 98 [(3, _), (6, _), (5, _), (4, _), (0, _), (1, _), (2, _)] C dX5_why_97 (by decide) rfl rfl ?_
                      refine g_iinc 101 [(6, _), (3, _), (5, _), (4, _), (0, _), (1, _), (2, _)] C dX5_why_98 rfl (by decide) rfl rfl ?_
                      refine g_goto 57 C dX5_why_101 rfl ?_
                      refine g_loc [(6, _), (5, _), (4, _), (3, .int (gi (gbi (whA K w i || hasW ((K.2.2.2 (i : Int)).take (j + 1)) w)))), (0, _), (1, _), (2, _)] ⟨rfl, rfl, rfl, (by rw [eb3]; first | rfl | skip), rfl, rfl, rfl, trivial⟩ ?_
                      exact ih57 (j + 1) (by omega) (by omega)
                    · skip
                      have eb3 : (whA K w i || hasW ((K.2.2.2 (i : Int)).take (j + 1)) w) = true := by rw [hasW_s hy, ← Bool.or_assoc, e3, Bool.false_or]; exact beq_iff_eq.mpr (by omega)
                      refine g_iconst 93 C dX5_why_92 rfl ?_
                      refine g_goto 97 C dX5_why_93 rfl ?_
                      refine g_istore_n 98 [(3, _), (6, _), (5, _), (4, _), (0, _), (1, _), (2, _)] C dX5_why_97 (by decide) rfl rfl ?_
                      refine g_iinc 101 [(6, _), (3, _), (5, _), (4, _), (0, _), (1, _), (2, _)] C dX5_why_98 rfl (by decide) rfl rfl ?_
                      refine g_goto 57 C dX5_why_101 rfl ?_
                      refine g_loc [(6, _), (5, _), (4, _), (3, .int (gi (gbi (whA K w i || hasW ((K.2.2.2 (i : Int)).take (j + 1)) w)))), (0, _), (1, _), (2, _)] ⟨rfl, rfl, rfl, (by rw [eb3]; first | rfl | skip), rfl, rfl, rfl, trivial⟩ ?_
                      exact ih57 (j + 1) (by omega) (by omega)
            refine g_loc [(6, _), (5, _), (4, _), (3, _), (0, _), (1, _), (2, _)] ⟨rfl, rfl, rfl, rfl, rfl, rfl, rfl, trivial⟩ ?_
            refine g_loc [(6, .int (gi ((0 : Nat) : Int))), (5, _), (4, .int (gi (gbi (whB K w (i + 1))))), (3, .int (gi (gbi (whA K w i || hasW ((K.2.2.2 (i : Int)).take 0) w)))), (0, _), (1, _), (2, _)] ⟨rfl, rfl, (by first | rfl | (rw [eb4]; rfl)), (by rw [show hasW ((K.2.2.2 (i : Int)).take 0) w = false from rfl, Bool.or_false]; rfl), rfl, rfl, rfl, trivial⟩ ?_
            exact lp57 _ 0 (by omega) (Nat.lt_succ_self _)
          · skip
            have eb4 : whB K w (i + 1) = true := by unfold whB; rw [rgA_s, e49, Bool.false_or, show K.2.2.1 (i : Int) w = K.2.2.1 0 w by omega, beq_self_eq_true]; rfl
            refine g_iconst 48 C dX5_why_47 rfl ?_
            refine g_goto 52 C dX5_why_48 rfl ?_
            refine g_istore 54 [(4, _), (5, _), (3, _), (0, _), (1, _), (2, _)] C dX5_why_52 (by decide) rfl rfl ?_
            refine g_iconst 55 C dX5_why_54 rfl ?_
            refine g_istore 57 [(6, _), (4, _), (5, _), (3, _), (0, _), (1, _), (2, _)] C dX5_why_55 (by decide) rfl rfl ?_
            have lp57 : ∀ (k9 : Nat) (j : Nat), (j ≤ (K.2.2.2 (i : Int)).length) → (K.2.2.2 (i : Int)).length - j < k9 → G E F mX5_why (gQ E F mX5_why n (gD (some (.int (gi (hind K w)))) n σ (fun h9 => h9 = h)) (gNo)) n σ h 0 0 57 [(6, .int (gi (j : Int))), (5, .int (gi (i : Int))), (4, .int (gi (gbi (whB K w (i + 1))))), (3, .int (gi (gbi (whA K w i || hasW ((K.2.2.2 (i : Int)).take j) w)))), (0, .ref m), (1, .int (gi w)), (2, .int (gi k))] [] := by
              intro k9
              induction k9 with
              | zero => intro j hj h0; exact absurd h0 (Nat.not_lt_zero _)
              | succ k9 ih57 =>
                intro j hj hk57
                have h4 := (oL (i : Int) (by omega) (by omega)).1
                refine g_iload 59 C dX5_why_57 rfl rfl ?_
                refine g_aload_n 60 C dX5_why_59 rfl rfl ?_
                refine g_iload_n 61 C dX5_why_60 rfl rfl ?_
                refine g_iload 63 C dX5_why_61 rfl rfl ?_
                refine g_V2r 66 0 0 C dX5_why_63 rfl lk_RX5_47 gi_X5_siblings gv_X5_siblings ⟨_, _, rfl⟩ (by omega) hm ⟨⟨by decide, by decide⟩, by decide, by decide⟩ (Nat.le_of_ble_eq_true rfl) rfl rfl rfl (c_X5_siblings m g hs f k (i : Int) (K.2.2.2 (i : Int)) hmb hm9 hz hk (by omega) (rL (i : Int) (by omega) (by omega))) g_no (fun h9 e63 => ?_)
                replace e63 := e63.symm
                subst e63
                refine g_icmp_ge 104 69 C dX5_why_66 rfl rfl (by omega) (by omega) (fun c66 => ?_) (fun c66 => ?_)
                · skip
                  have hjl : j = (K.2.2.2 (i : Int)).length := by omega
                  refine g_iinc 107 [(5, _), (6, _), (4, _), (3, _), (0, _), (1, _), (2, _)] C dX5_why_104 rfl (by decide) rfl rfl ?_
                  refine g_goto 8 C dX5_why_107 rfl ?_
                  refine g_loc [(5, _), (4, .int (gi (gbi (whB K w (i + 1))))), (3, .int (gi (gbi (whA K w (i + 1))))), (0, _), (1, _), (2, _)] ⟨rfl, rfl, (by rw [show whA K w (i + 1) = (whA K w i || hasW (K.2.2.2 (i : Int)) w) from rgA_s, hjl, List.take_length]; rfl), rfl, rfl, rfl, trivial⟩ ?_
                  exact ih8 (i + 1) (by omega) (by omega)
                · skip
                  have hl := rL (i : Int) (by omega) (by omega)
                  have hol := oL (i : Int) (by omega) (by omega)
                  have h4 := hol.1
                  obtain ⟨y, hy, hyl⟩ := get_of (l := K.2.2.2 (i : Int)) (i := j) (by omega)
                  obtain ⟨y1, y2, y3⟩ := hl.2 j y hy
                  have hyo := hol.2 y hyl
                  refine g_iload_n 70 C dX5_why_69 rfl rfl ?_
                  refine g_if_ne 92 73 C dX5_why_70 rfl rfl (gbi_r _) (fun c70 => ?_) (fun c70 => ?_)
                  · skip
                    have e3 := gbi_1 c70
                    have eb3 : (whA K w i || hasW ((K.2.2.2 (i : Int)).take (j + 1)) w) = true := by rw [hasW_s hy, ← Bool.or_assoc, e3]; rfl
                    refine g_iconst 93 C dX5_why_92 rfl ?_
                    refine g_goto 97 C dX5_why_93 rfl ?_
                    refine g_istore_n 98 [(3, _), (6, _), (5, _), (4, _), (0, _), (1, _), (2, _)] C dX5_why_97 (by decide) rfl rfl ?_
                    refine g_iinc 101 [(6, _), (3, _), (5, _), (4, _), (0, _), (1, _), (2, _)] C dX5_why_98 rfl (by decide) rfl rfl ?_
                    refine g_goto 57 C dX5_why_101 rfl ?_
                    refine g_loc [(6, _), (5, _), (4, _), (3, .int (gi (gbi (whA K w i || hasW ((K.2.2.2 (i : Int)).take (j + 1)) w)))), (0, _), (1, _), (2, _)] ⟨rfl, rfl, rfl, (by rw [eb3]; first | rfl | skip), rfl, rfl, rfl, trivial⟩ ?_
                    exact ih57 (j + 1) (by omega) (by omega)
                  · skip
                    have e3 := gbi_0 c70
                    refine g_aload_n 74 C dX5_why_73 rfl rfl ?_
                    refine g_getf 77 C dX5_why_74 fl_RX5_7 rfl (by omega) hm rfl rfl ?_
                    refine g_iload_n 78 C dX5_why_77 rfl rfl ?_
                    refine g_iload 80 C dX5_why_78 rfl rfl ?_
                    refine g_iload 82 C dX5_why_80 rfl rfl ?_
                    refine g_S3r 85 0 0 C dX5_why_82 rfl lk_RX5_50 gs_X5_placeAt ⟨⟨by decide, by decide⟩, by decide, by decide⟩ (Nat.le_of_ble_eq_true rfl) rfl rfl rfl (c_X5_placeAt k (i : Int) (j : Int)) g_no (fun h9 e82 => ?_)
                    replace e82 := e82.symm
                    subst e82
                    refine g_iconst 86 C dX5_why_85 rfl ?_
                    refine g_iadd 87 C dX5_why_86 rfl ?_
                    refine g_iald 88 C dX5_why_87 (by omega) hz (by omega) (by decide) rfl ?_
                    rw [Int.add_zero, y1]
                    refine g_iload_n 89 C dX5_why_88 rfl rfl ?_
                    refine g_icmp_ne 96 92 C dX5_why_89 rfl rfl (by omega) (by omega) (fun c89 => ?_) (fun c89 => ?_)
                    · skip
                      have eb3 : (whA K w i || hasW ((K.2.2.2 (i : Int)).take (j + 1)) w) = false := by rw [hasW_s hy, ← Bool.or_assoc, e3, Bool.false_or]; exact beq_eq_false_iff_ne.mpr c89
                      refine g_iconst 97 C dX5_why_96 rfl ?_
                      refine g_istore_n 98 [(3, _), (6, _), (5, _), (4, _), (0, _), (1, _), (2, _)] C dX5_why_97 (by decide) rfl rfl ?_
                      refine g_iinc 101 [(6, _), (3, _), (5, _), (4, _), (0, _), (1, _), (2, _)] C dX5_why_98 rfl (by decide) rfl rfl ?_
                      refine g_goto 57 C dX5_why_101 rfl ?_
                      refine g_loc [(6, _), (5, _), (4, _), (3, .int (gi (gbi (whA K w i || hasW ((K.2.2.2 (i : Int)).take (j + 1)) w)))), (0, _), (1, _), (2, _)] ⟨rfl, rfl, rfl, (by rw [eb3]; first | rfl | skip), rfl, rfl, rfl, trivial⟩ ?_
                      exact ih57 (j + 1) (by omega) (by omega)
                    · skip
                      have eb3 : (whA K w i || hasW ((K.2.2.2 (i : Int)).take (j + 1)) w) = true := by rw [hasW_s hy, ← Bool.or_assoc, e3, Bool.false_or]; exact beq_iff_eq.mpr (by omega)
                      refine g_iconst 93 C dX5_why_92 rfl ?_
                      refine g_goto 97 C dX5_why_93 rfl ?_
                      refine g_istore_n 98 [(3, _), (6, _), (5, _), (4, _), (0, _), (1, _), (2, _)] C dX5_why_97 (by decide) rfl rfl ?_
                      refine g_iinc 101 [(6, _), (3, _), (5, _), (4, _), (0, _), (1, _), (2, _)] C dX5_why_98 rfl (by decide) rfl rfl ?_
                      refine g_goto 57 C dX5_why_101 rfl ?_
                      refine g_loc [(6, _), (5, _), (4, _), (3, .int (gi (gbi (whA K w i || hasW ((K.2.2.2 (i : Int)).take (j + 1)) w)))), (0, _), (1, _), (2, _)] ⟨rfl, rfl, rfl, (by rw [eb3]; first | rfl | skip), rfl, rfl, rfl, trivial⟩ ?_
                      exact ih57 (j + 1) (by omega) (by omega)
            refine g_loc [(6, _), (5, _), (4, _), (3, _), (0, _), (1, _), (2, _)] ⟨rfl, rfl, rfl, rfl, rfl, rfl, rfl, trivial⟩ ?_
            refine g_loc [(6, .int (gi ((0 : Nat) : Int))), (5, _), (4, .int (gi (gbi (whB K w (i + 1))))), (3, .int (gi (gbi (whA K w i || hasW ((K.2.2.2 (i : Int)).take 0) w)))), (0, _), (1, _), (2, _)] ⟨rfl, rfl, (by first | rfl | (rw [eb4]; rfl)), (by rw [show hasW ((K.2.2.2 (i : Int)).take 0) w = false from rfl, Bool.or_false]; rfl), rfl, rfl, rfl, trivial⟩ ?_
            exact lp57 _ 0 (by omega) (Nat.lt_succ_self _)
  refine g_loc [(5, _), (4, _), (3, _), (0, _), (1, _), (2, _)] ⟨rfl, rfl, rfl, rfl, rfl, rfl, trivial⟩ ?_
  exact lp8 _ 0 (by omega) (Nat.lt_succ_self _)
set_option maxRecDepth 100000 in
set_option maxHeartbeats 4000000 in
theorem c_X5_forgettable {E : gEnv} {n : Nat} {σ : Option Nat} {h : gH} (m : Nat) (g : Int → Int) (hs : Int64) (f : Int → Int) (k : Int) (K : gKy) (hmb : gB E ≤ m ∧ m + 7 ≤ gB E + n) (hm : isMo h m g hs) (hz : h (m + 1) = gI E 311 f) (hk : 0 ≤ k ∧ k < 3) (hR : Rk f k K) (hok : okK K)  : gM E mX5_forgettable [.ref m, .int (gi k)] n σ h (gD (some (.int (gi (fgtM K)))) n σ (fun h9 => h9 = h)) (gNo) := by
  have hm9 := hm
  unfold isMo at hm
  have hR9 := hR
  have hok9 := hok
  obtain ⟨rW, rN, rV, rL⟩ := hR
  obtain ⟨oW, oN, oV, oL⟩ := hok
  refine gM_of (by decide) (Nat.le_of_ble_eq_true rfl) (fun F C => ?_)
  refine g_iconst 1 C dX5_forgettable_0 rfl ?_
  refine g_istore_n 2 [(2, _), (0, _), (1, _)] C dX5_forgettable_1 (by decide) rfl rfl ?_
  refine g_iconst 3 C dX5_forgettable_2 rfl ?_
  refine g_istore_n 4 [(3, _), (2, _), (0, _), (1, _)] C dX5_forgettable_3 (by decide) rfl rfl ?_
  have lp4 : ∀ (k9 : Nat) (i : Nat), (i ≤ 5) → 5 - i < k9 → G E F mX5_forgettable (gQ E F mX5_forgettable n (gD (some (.int (gi (fgtM K)))) n σ (fun h9 => h9 = h)) (gNo)) n σ h 0 0 4 [(3, .int (gi (i : Int))), (2, .int (gi (gmsk (fun w : Int => decide (hind K w = 0) && decide (0 < K.2.2.1 0 w)) i))), (0, .ref m), (1, .int (gi k))] [] := by
    intro k9
    induction k9 with
    | zero => intro i hi h0; exact absurd h0 (Nat.not_lt_zero _)
    | succ k9 ih4 =>
      intro i hi hk4
      refine g_iload_n 5 C dX5_forgettable_4 rfl rfl ?_
      refine g_iconst 6 C dX5_forgettable_5 rfl ?_
      refine g_icmp_ge 49 9 C dX5_forgettable_6 rfl rfl (by omega) (by omega) (fun c6 => ?_) (fun c6 => ?_)
      · skip
        refine g_iload_n 50 C dX5_forgettable_49 rfl rfl ?_
        exact g_iret C dX5_forgettable_50 rfl ⟨by decide, by decide⟩ (by rw [show i = 5 by omega]; exact ⟨rfl, rfl, rfl, rfl⟩)
      · skip
        have hv0 := oV 0 (by omega) (by omega) (i : Int) (by omega) (by omega)
        have hhr := hind_r K (i : Int)
        refine g_iload_n 10 C dX5_forgettable_9 rfl rfl ?_
        refine g_aload_n 11 C dX5_forgettable_10 rfl rfl ?_
        refine g_iload_n 12 C dX5_forgettable_11 rfl rfl ?_
        refine g_iload_n 13 C dX5_forgettable_12 rfl rfl ?_
        refine g_V2r 16 0 0 C dX5_forgettable_13 rfl lk_RX5_109 gi_X5_why gv_X5_why ⟨_, _, rfl⟩ (by omega) hm ⟨⟨by decide, by decide⟩, by decide, by decide⟩ (Nat.le_of_ble_eq_true rfl) rfl rfl rfl (c_X5_why m g hs f k K (i : Int) hmb hm9 hz hk hR9 hok9 (by omega)) g_no (fun h9 e13 => ?_)
        replace e13 := e13.symm
        subst e13
        refine g_if_ne 40 19 C dX5_forgettable_16 rfl rfl (by omega) (fun c16 => ?_) (fun c16 => ?_)
        · skip
          have hu8 : gi (gmsk (fun w : Int => decide (hind K w = 0) && decide (0 < K.2.2.1 0 w)) i) ||| gi 0 = gi (gmsk (fun w : Int => decide (hind K w = 0) && decide (0 < K.2.2.1 0 w)) (i + 1)) := by rw [gmsk_no _ (by rw [decide_eq_false c16]; rfl), or0]
          refine g_iconst 41 C dX5_forgettable_40 rfl ?_
          refine g_ior 42 C dX5_forgettable_41 hu8 rfl ?_
          refine g_istore_n 43 [(2, _), (3, _), (0, _), (1, _)] C dX5_forgettable_42 (by decide) rfl rfl ?_
          refine g_iinc 46 [(3, _), (2, _), (0, _), (1, _)] C dX5_forgettable_43 rfl (by decide) rfl rfl ?_
          refine g_goto 4 C dX5_forgettable_46 rfl ?_
          refine g_loc [(3, _), (2, .int (gi (gmsk (fun w : Int => decide (hind K w = 0) && decide (0 < K.2.2.1 0 w)) (i + 1)))), (0, _), (1, _)] ⟨rfl, rfl, rfl, rfl, trivial⟩ ?_
          exact ih4 (i + 1) (by omega) (by omega)
        · skip
          refine g_aload_n 20 C dX5_forgettable_19 rfl rfl ?_
          refine g_getf 23 C dX5_forgettable_20 fl_RX5_7 rfl (by omega) hm rfl rfl ?_
          refine g_iload_n 24 C dX5_forgettable_23 rfl rfl ?_
          refine g_iconst 25 C dX5_forgettable_24 rfl ?_
          refine g_S2r 28 0 0 C dX5_forgettable_25 rfl lk_RX5_75 gs_X5_vectorAt ⟨⟨by decide, by decide⟩, by decide, by decide⟩ (Nat.le_of_ble_eq_true rfl) rfl rfl rfl (c_X5_vectorAt k 0) g_no (fun h9 e25 => ?_)
          replace e25 := e25.symm
          subst e25
          refine g_iload_n 29 C dX5_forgettable_28 rfl rfl ?_
          refine g_iadd 30 C dX5_forgettable_29 rfl ?_
          refine g_iald 31 C dX5_forgettable_30 (by omega) hz (by omega) (by decide) rfl ?_
          rw [rV 0 (by omega) (by omega) (i : Int) (by omega) (by omega)]
          refine g_if_le 40 34 C dX5_forgettable_31 rfl rfl (by omega) (fun c31 => ?_) (fun c31 => ?_)
          · skip
            have hu8 : gi (gmsk (fun w : Int => decide (hind K w = 0) && decide (0 < K.2.2.1 0 w)) i) ||| gi 0 = gi (gmsk (fun w : Int => decide (hind K w = 0) && decide (0 < K.2.2.1 0 w)) (i + 1)) := by rw [gmsk_no _ (by rw [decide_eq_false (show ¬ 0 < K.2.2.1 0 (i : Int) by omega), Bool.and_false]), or0]
            refine g_iconst 41 C dX5_forgettable_40 rfl ?_
            refine g_ior 42 C dX5_forgettable_41 hu8 rfl ?_
            refine g_istore_n 43 [(2, _), (3, _), (0, _), (1, _)] C dX5_forgettable_42 (by decide) rfl rfl ?_
            refine g_iinc 46 [(3, _), (2, _), (0, _), (1, _)] C dX5_forgettable_43 rfl (by decide) rfl rfl ?_
            refine g_goto 4 C dX5_forgettable_46 rfl ?_
            refine g_loc [(3, _), (2, .int (gi (gmsk (fun w : Int => decide (hind K w = 0) && decide (0 < K.2.2.1 0 w)) (i + 1)))), (0, _), (1, _)] ⟨rfl, rfl, rfl, rfl, trivial⟩ ?_
            exact ih4 (i + 1) (by omega) (by omega)
          · skip
            have hu8 := gmsk_or (fun w : Int => decide (hind K w = 0) && decide (0 < K.2.2.1 0 w)) (i := i) (by omega) (by rw [decide_eq_true (show hind K (i : Int) = 0 by omega), decide_eq_true (show 0 < K.2.2.1 0 (i : Int) by omega)]; rfl)
            refine g_iconst 35 C dX5_forgettable_34 rfl ?_
            refine g_iload_n 36 C dX5_forgettable_35 rfl rfl ?_
            refine g_ishl 37 C dX5_forgettable_36 (g_shl (by omega)) rfl ?_
            refine g_goto 41 C dX5_forgettable_37 rfl ?_
            refine g_ior 42 C dX5_forgettable_41 hu8 rfl ?_
            refine g_istore_n 43 [(2, _), (3, _), (0, _), (1, _)] C dX5_forgettable_42 (by decide) rfl rfl ?_
            refine g_iinc 46 [(3, _), (2, _), (0, _), (1, _)] C dX5_forgettable_43 rfl (by decide) rfl rfl ?_
            refine g_goto 4 C dX5_forgettable_46 rfl ?_
            refine g_loc [(3, _), (2, .int (gi (gmsk (fun w : Int => decide (hind K w = 0) && decide (0 < K.2.2.1 0 w)) (i + 1)))), (0, _), (1, _)] ⟨rfl, rfl, rfl, rfl, trivial⟩ ?_
            exact ih4 (i + 1) (by omega) (by omega)
  refine g_loc [(3, _), (2, _), (0, _), (1, _)] ⟨rfl, rfl, rfl, rfl, trivial⟩ ?_
  exact lp4 _ 0 (by omega) (Nat.lt_succ_self _)
