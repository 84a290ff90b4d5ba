/-! SiblingJoins$State: bring, bringAll, the counts, init -/
set_option maxRecDepth 100000 in
set_option maxHeartbeats 4000000 in
theorem c_X3_bring {E : gEnv} {n : Nat} {σ : Option Nat} {h : gH} (a : Nat) (S : gSt) (s o k : Int) (hab : gB E ≤ a ∧ a + 65 ≤ gB E + n) (hS : isS E h a S) (hok : okS S) (hs : 0 ≤ s ∧ s < 3) (ho : 0 ≤ o ∧ o < 3) (hk : 0 ≤ k ∧ k < 3) (hso : s ≠ o)  : gM E mX3_bring [.ref a, .int (gi s), .int (gi o), .int (gi k)] n σ h (gD (some (.int (gi (pLost (S.1 k) s o)))) n σ (fun h9 => isS E h9 a (sBri S s o k) ∧ gKp a (a + 65) h h9)) (gNo) := by
  obtain ⟨q1, ⟨qa, q2, qf⟩, q3⟩ := hS
  have hS9 : isS E h a S := ⟨q1, ⟨qa, q2, qf⟩, q3⟩
  have hKk := q3 k (by omega) (by omega)
  have hoK := hok k (by omega) (by omega)
  have hKk9 := hKk
  obtain ⟨oW, oN, oV, oL⟩ := hoK
  obtain ⟨k1, ⟨kc, k2, kfc⟩, ⟨kn, k3, kfk⟩, k4, k5, k6⟩ := hKk
  try dsimp only at k4 k5 k6
  
  refine gM_of (by decide) (Nat.le_of_ble_eq_true rfl) (fun F C => ?_)
  refine g_aload_n 1 C dX3_bring_0 rfl rfl ?_
  refine g_getf 4 C dX3_bring_1 fl_RX3_11 rfl (by omega) q1 rfl rfl ?_
  refine g_iload_n 5 C dX3_bring_4 rfl rfl ?_
  refine g_aald 6 C dX3_bring_5 (by omega) q2 rfl rfl (by omega) (by decide) (qf (k) (by omega) (by omega)) rfl ?_
  refine g_iload_n 7 C dX3_bring_6 rfl rfl ?_
  refine g_iload_n 8 C dX3_bring_7 rfl rfl ?_
  refine g_iconst 9 C dX3_bring_8 rfl ?_
  refine g_V3r 12 0 0 C dX3_bring_9 rfl lk_RX3_46 gi_X1_pullOutlook gv_X1_pullOutlook ⟨_, _, rfl⟩ (by omega) k1 ⟨⟨by decide, by decide⟩, by decide, by decide⟩ (Nat.le_of_ble_eq_true rfl) rfl rfl rfl (c_X1_pullOutlook (a + 2 + 21 * k.toNat) (S.1 k) s o 0 (by omega) hKk9 ⟨oW, oN, oV, oL⟩ hs ho (by omega)) g_no (fun h9 e9 => ?_)
  subst e9
  refine g_istore 14 [(4, _), (0, _), (1, _), (2, _), (3, _)] C dX3_bring_12 (by decide) rfl rfl ?_
  refine g_aload_n 15 C dX3_bring_14 rfl rfl ?_
  refine g_getf 18 C dX3_bring_15 fl_RX3_11 rfl (by omega) q1 rfl rfl ?_
  refine g_iload_n 19 C dX3_bring_18 rfl rfl ?_
  refine g_aald 20 C dX3_bring_19 (by omega) q2 rfl rfl (by omega) (by decide) (qf (k) (by omega) (by omega)) rfl ?_
  refine g_getf 23 C dX3_bring_20 fl_RX3_49 rfl (by omega) k1 rfl rfl ?_
  refine g_iload_n 24 C dX3_bring_23 rfl rfl ?_
  refine g_aald 25 C dX3_bring_24 (by omega) k2 rfl rfl (by omega) (by decide) (kfc (s) (by omega) (by omega)) rfl ?_
  refine g_aload_n 26 C dX3_bring_25 rfl rfl ?_
  refine g_getf 29 C dX3_bring_26 fl_RX3_11 rfl (by omega) q1 rfl rfl ?_
  refine g_iload_n 30 C dX3_bring_29 rfl rfl ?_
  refine g_aald 31 C dX3_bring_30 (by omega) q2 rfl rfl (by omega) (by decide) (qf (k) (by omega) (by omega)) rfl ?_
  refine g_getf 34 C dX3_bring_31 fl_RX3_49 rfl (by omega) k1 rfl rfl ?_
  refine g_iload_n 35 C dX3_bring_34 rfl rfl ?_
  refine g_aald 36 C dX3_bring_35 (by omega) k2 rfl rfl (by omega) (by decide) (kfc (o) (by omega) (by omega)) rfl ?_
  refine g_V1v 39 0 0 C dX3_bring_36 rfl lk_RX3_53 gi_X0_takeFrom gv_X0_takeFrom ⟨_, _, rfl⟩ (by omega) (isC.h0 (k6 (s) (by omega) (by omega))) ⟨⟨by decide, by decide⟩, by decide, by decide⟩ (Nat.le_of_ble_eq_true rfl) rfl rfl rfl (c_X0_takeFrom ((a + 2 + 21 * k.toNat) + 9 + 4 * (s).toNat) ((S.1 k).2.2.1 s) ((S.1 k).2.2.2 s) ((a + 2 + 21 * k.toNat) + 9 + 4 * (o).toNat) ((S.1 k).2.2.1 o) ((S.1 k).2.2.2 o) (by omega) (k6 (s) (by omega) (by omega)) (oL s (by omega) (by omega)) (by omega) (k6 (o) (by omega) (by omega)) (oL o (by omega) (by omega)) (by omega) (oV s (by omega) (by omega)) (oV o (by omega) (by omega))) g_no (fun h2 e36 => ?_)
  obtain ⟨hc2, hk2⟩ := e36
  have hS2 := hS9.setK (k := k) (by omega) (by omega) (hKk9.setC (by omega) (by omega) hc2 hk2) (gKp_wd hk2 (by omega) (by omega))
  refine g_aload_n 40 C dX3_bring_39 rfl rfl ?_
  refine g_dup 41 C dX3_bring_40 rfl rfl ?_
  refine g_getf 44 C dX3_bring_41 fl_RX3_29 rfl (by omega) hS2.1 rfl rfl ?_
  refine g_iload 46 C dX3_bring_44 rfl rfl ?_
  refine g_iadd 47 C dX3_bring_46 rfl ?_
  refine g_putf 50 C dX3_bring_47 fp_RX3_29 rfl (by omega) hS2.1 rfl rfl (Nat.le_of_ble_eq_true rfl) rfl ?_
  refine g_iload 52 C dX3_bring_50 rfl rfl ?_
  exact g_iret C dX3_bring_52 rfl ⟨by decide, by decide⟩ (⟨rfl, rfl, rfl, hS2.setN (C' := gup S.2 3 (S.2 3 + pLost (S.1 k) s o)) up_s (gKp_up (by omega)), gKp_tr (gKp_wd hk2 (by omega) (by omega)) (gKp_up (by omega))⟩)
set_option maxRecDepth 100000 in
set_option maxHeartbeats 4000000 in
theorem c_X3_bringAll {E : gEnv} {n : Nat} {σ : Option Nat} {h : gH} (a : Nat) (S : gSt) (hab : gB E ≤ a ∧ a + 65 ≤ gB E + n) (hS : isS E h a S) (hok : okS S)  : gM E mX3_bringAll [.ref a] n σ h (gD (some (.int (gi (gbi (bAr S 27).isSome)))) n σ (fun h9 => (∃ T : gSt, isS E h9 a T ∧ okS T ∧ ∀ U : gSt, bAr S 27 = some U → T = U) ∧ gKp a (a + 65) h h9)) (gNo) := by
  refine gM_of (by decide) (Nat.le_of_ble_eq_true rfl) (fun F C => ?_)
  refine g_iconst 1 C dX3_bringAll_0 rfl ?_
  refine g_istore_n 2 [(1, _), (0, _)] C dX3_bringAll_1 (by decide) rfl rfl ?_
  have lp2 : ∀ (k9 : Nat) (i : Nat) (h1 : gH) (T : gSt), i ≤ 3 → bAr S (9 * i) = some T → isS E h1 a T → okS T → gKp a (a + 65) h h1 → 3 - i < k9 → G E F mX3_bringAll (gQ E F mX3_bringAll n (gD (some (.int (gi (gbi (bAr S 27).isSome)))) n σ (fun h9 => (∃ T : gSt, isS E h9 a T ∧ okS T ∧ ∀ U : gSt, bAr S 27 = some U → T = U) ∧ gKp a (a + 65) h h9)) (gNo)) n σ h1 0 0 2 [(1, .int (gi (i : Int))), (0, .ref a)] [] := by
    intro k9
    induction k9 with
    | zero => intro i h1 T hi hT hS1 ho1 hk1 h0; exact absurd h0 (Nat.not_lt_zero _)
    | succ k9 ih2 =>
      intro i h1 T hi hT hS1 ho1 hk1 hk2
      skip
      refine g_iload_n 3 C dX3_bringAll_2 rfl rfl ?_
      refine g_iconst 4 C dX3_bringAll_3 rfl ?_
      refine g_icmp_ge 73 7 C dX3_bringAll_4 rfl rfl (by omega) (by omega) (fun c4 => ?_) (fun c4 => ?_)
      · skip
        refine g_iconst 74 C dX3_bringAll_73 rfl ?_
        exact g_zret C dX3_bringAll_74 rfl rfl ⟨by decide, by decide⟩ (by rw [show 9 * i = 27 by omega] at hT; rw [hT]; exact ⟨rfl, rfl, rfl, ⟨T, hS1, ho1, fun U hU => by cases hU; rfl⟩, hk1⟩)
      · skip
        refine g_iconst 8 C dX3_bringAll_7 rfl ?_
        refine g_istore_n 9 [(2, _), (1, _), (0, _)] C dX3_bringAll_8 (by decide) rfl rfl ?_
        have lp9 : ∀ (k9 : Nat) (j : Nat) (h1 : gH) (T : gSt), j ≤ 3 → bAr S (9 * i + 3 * j) = some T → isS E h1 a T → okS T → gKp a (a + 65) h h1 → 3 - j < k9 → G E F mX3_bringAll (gQ E F mX3_bringAll n (gD (some (.int (gi (gbi (bAr S 27).isSome)))) n σ (fun h9 => (∃ T : gSt, isS E h9 a T ∧ okS T ∧ ∀ U : gSt, bAr S 27 = some U → T = U) ∧ gKp a (a + 65) h h9)) (gNo)) n σ h1 0 0 9 [(2, .int (gi (j : Int))), (1, .int (gi (i : Int))), (0, .ref a)] [] := by
          intro k9
          induction k9 with
          | zero => intro j h1 T hi hT hS1 ho1 hk1 h0; exact absurd h0 (Nat.not_lt_zero _)
          | succ k9 ih9 =>
            intro j h1 T hi hT hS1 ho1 hk1 hk9
            skip
            refine g_iload_n 10 C dX3_bringAll_9 rfl rfl ?_
            refine g_iconst 11 C dX3_bringAll_10 rfl ?_
            refine g_icmp_ge 67 14 C dX3_bringAll_11 rfl rfl (by omega) (by omega) (fun c11 => ?_) (fun c11 => ?_)
            · skip
              refine g_iinc 70 [(1, _), (2, _), (0, _)] C dX3_bringAll_67 rfl (by decide) rfl rfl ?_
              refine g_goto 2 C dX3_bringAll_70 rfl ?_
              refine g_loc [(1, _), (0, _)] ⟨rfl, rfl, trivial⟩ ?_
              exact ih2 (i + 1) h1 T (by omega) (by rw [show 9 * (i + 1) = 9 * i + 3 * j by omega]; exact hT) hS1 ho1 hk1 (by omega)
            · skip
              refine g_iconst 15 C dX3_bringAll_14 rfl ?_
              refine g_istore_n 16 [(3, _), (2, _), (1, _), (0, _)] C dX3_bringAll_15 (by decide) rfl rfl ?_
              have lp16 : ∀ (k9 : Nat) (o : Nat) (h1 : gH) (T : gSt), o ≤ 3 → bAr S (9 * i + 3 * j + o) = some T → isS E h1 a T → okS T → gKp a (a + 65) h h1 → 3 - o < k9 → G E F mX3_bringAll (gQ E F mX3_bringAll n (gD (some (.int (gi (gbi (bAr S 27).isSome)))) n σ (fun h9 => (∃ T : gSt, isS E h9 a T ∧ okS T ∧ ∀ U : gSt, bAr S 27 = some U → T = U) ∧ gKp a (a + 65) h h9)) (gNo)) n σ h1 0 0 16 [(3, .int (gi (o : Int))), (2, .int (gi (j : Int))), (1, .int (gi (i : Int))), (0, .ref a)] [] := by
                intro k9
                induction k9 with
                | zero => intro o h1 T hi hT hS1 ho1 hk1 h0; exact absurd h0 (Nat.not_lt_zero _)
                | succ k9 ih16 =>
                  intro o h1 T hi hT hS1 ho1 hk1 hk16
                  have hS19 := hS1
                  obtain ⟨q1, ⟨qa, q2, qf⟩, q3⟩ := hS1
                  refine g_iload_n 17 C dX3_bringAll_16 rfl rfl ?_
                  refine g_iconst 18 C dX3_bringAll_17 rfl ?_
                  refine g_icmp_ge 61 21 C dX3_bringAll_18 rfl rfl (by omega) (by omega) (fun c18 => ?_) (fun c18 => ?_)
                  · skip
                    refine g_iinc 64 [(2, _), (3, _), (1, _), (0, _)] C dX3_bringAll_61 rfl (by decide) rfl rfl ?_
                    refine g_goto 9 C dX3_bringAll_64 rfl ?_
                    refine g_loc [(2, _), (1, _), (0, _)] ⟨rfl, rfl, rfl, trivial⟩ ?_
                    exact ih9 (j + 1) h1 T (by omega) (by rw [show 9 * i + 3 * (j + 1) = 9 * i + 3 * j + o by omega]; exact hT) hS19 ho1 hk1 (by omega)
                  · skip
                    have hA := bAr_at (by omega) (by omega) hT
                    refine g_iload_n 22 C dX3_bringAll_21 rfl rfl ?_
                    refine g_iload_n 23 C dX3_bringAll_22 rfl rfl ?_
                    refine g_icmp_eq 42 26 C dX3_bringAll_23 rfl rfl (by omega) (by omega) (fun c23 => ?_) (fun c23 => ?_)
                    · skip
                      have hS8 := hS19
                      have ho8 := ho1
                      have hk8 := hk1
                      have hT8 := hA.trans (if_pos c23)
                      refine g_iload_n 43 C dX3_bringAll_42 rfl rfl ?_
                      refine g_iload_n 44 C dX3_bringAll_43 rfl rfl ?_
                      refine g_icmp_eq 55 47 C dX3_bringAll_44 rfl rfl (by omega) (by omega) (fun c44 => ?_) (fun c44 => ?_)
                      · skip
                        refine g_iinc 58 [(3, _), (2, _), (1, _), (0, _)] C dX3_bringAll_55 rfl (by decide) rfl rfl ?_
                        refine g_goto 16 C dX3_bringAll_58 rfl ?_
                        refine g_loc [(3, _), (2, _), (1, _), (0, _)] ⟨rfl, rfl, rfl, rfl, trivial⟩ ?_
                        exact ih16 (o + 1) _ _ (by omega) hT8 hS8 ho8 hk8 (by omega)
                      · skip
                        exact absurd c44 (by omega)
                    · skip
                      refine g_aload_n 27 C dX3_bringAll_26 rfl rfl ?_
                      refine g_getf 30 C dX3_bringAll_27 fl_RX3_11 rfl (by omega) q1 rfl rfl ?_
                      refine g_iload_n 31 C dX3_bringAll_30 rfl rfl ?_
                      refine g_aald 32 C dX3_bringAll_31 (by omega) q2 rfl rfl (by omega) (by decide) (qf ((i : Int)) (by omega) (by omega)) rfl ?_
                      refine g_iload_n 33 C dX3_bringAll_32 rfl rfl ?_
                      refine g_iload_n 34 C dX3_bringAll_33 rfl rfl ?_
                      refine g_V2r 37 0 0 C dX3_bringAll_34 rfl lk_RX3_59 gi_X1_mayPull gv_X1_mayPull ⟨_, _, rfl⟩ (by omega) (q3 ((i : Int)) (by omega) (by omega)).1 ⟨⟨by decide, by decide⟩, by decide, by decide⟩ (Nat.le_of_ble_eq_true rfl) rfl rfl rfl (c_X1_mayPull (a + 2 + 21 * (i : Int).toNat) (T.1 (i : Int)) (j : Int) (o : Int) (by omega) (q3 (i : Int) (by omega) (by omega)) (ho1 (i : Int) (by omega) (by omega)) (by omega) (by omega)) g_no (fun h9 e34 => ?_)
                      subst e34
                      refine g_if_ne 42 40 C dX3_bringAll_37 rfl rfl (gbi_r _) (fun c37 => ?_) (fun c37 => ?_)
                      · skip
                        have hP := of_decide_eq_true (gbi_1 c37)
                        have hT8 := hA.trans ((if_neg c23).trans (if_pos hP))
                        refine g_iload_n 43 C dX3_bringAll_42 rfl rfl ?_
                        refine g_iload_n 44 C dX3_bringAll_43 rfl rfl ?_
                        refine g_icmp_eq 55 47 C dX3_bringAll_44 rfl rfl (by omega) (by omega) (fun c44 => ?_) (fun c44 => ?_)
                        · skip
                          exact absurd c44 (by omega)
                        · skip
                          refine g_aload_n 48 C dX3_bringAll_47 rfl rfl ?_
                          refine g_iload_n 49 C dX3_bringAll_48 rfl rfl ?_
                          refine g_iload_n 50 C dX3_bringAll_49 rfl rfl ?_
                          refine g_iload_n 51 C dX3_bringAll_50 rfl rfl ?_
                          refine g_V3r 54 0 0 C dX3_bringAll_51 rfl lk_RX3_63 gi_X3_bring gv_X3_bring ⟨_, _, rfl⟩ (by omega) q1 ⟨⟨by decide, by decide⟩, by decide, by decide⟩ (Nat.le_of_ble_eq_true rfl) rfl rfl rfl (c_X3_bring a T (j : Int) (o : Int) (i : Int) (by omega) hS19 ho1 (by omega) (by omega) (by omega) (fun e => c23 e)) g_no (fun h2 e51 => ?_)
                          obtain ⟨hS8, hk2⟩ := e51
                          have hk8 := gKp_tr hk1 hk2
                          have ho8 : okS (sBri T (j : Int) (o : Int) (i : Int)) := okS_set ho1 (okK_take (ho1 (i : Int) (by omega) (by omega)) (by omega) (by omega))
                          refine g_pop 55 C dX3_bringAll_54 rfl rfl ?_
                          refine g_iinc 58 [(3, _), (2, _), (1, _), (0, _)] C dX3_bringAll_55 rfl (by decide) rfl rfl ?_
                          refine g_goto 16 C dX3_bringAll_58 rfl ?_
                          refine g_loc [(3, _), (2, _), (1, _), (0, _)] ⟨rfl, rfl, rfl, rfl, trivial⟩ ?_
                          exact ih16 (o + 1) _ _ (by omega) hT8 hS8 ho8 hk8 (by omega)
                      · skip
                        have hP := of_decide_eq_false (gbi_0 c37)
                        have hN := hA.trans ((if_neg c23).trans (if_neg hP))
                        have hN9 : bAr S 27 = none := by
                          have e := bAr_no hN (27 - (9 * i + 3 * j + o + 1))
                          rw [show 9 * i + 3 * j + o + 1 + (27 - (9 * i + 3 * j + o + 1)) = 27 by omega] at e
                          exact e
                        refine g_iconst 41 C dX3_bringAll_40 rfl ?_
                        exact g_zret C dX3_bringAll_41 rfl rfl ⟨by decide, by decide⟩ (by rw [hN9]; exact ⟨rfl, rfl, rfl, ⟨T, hS19, ho1, fun U hU => by cases hU⟩, hk1⟩)
              refine g_loc [(3, _), (2, _), (1, _), (0, _)] ⟨rfl, rfl, rfl, rfl, trivial⟩ ?_
              exact lp16 _ 0 h1 T (by omega) hT hS1 ho1 hk1 (Nat.lt_succ_self _)
        refine g_loc [(2, _), (1, _), (0, _)] ⟨rfl, rfl, rfl, trivial⟩ ?_
        exact lp9 _ 0 h1 T (by omega) hT hS1 ho1 hk1 (Nat.lt_succ_self _)
  refine g_loc [(1, _), (0, _)] ⟨rfl, rfl, trivial⟩ ?_
  exact lp2 _ 0 h S (by omega) rfl hS hok gKp_rf (Nat.lt_succ_self _)
set_option maxRecDepth 100000 in
set_option maxHeartbeats 4000000 in
theorem c_X3_siblingsInAll {E : gEnv} {n : Nat} {σ : Option Nat} {h : gH} (a : Nat) (S : gSt) (hab : gB E ≤ a ∧ a + 65 ≤ gB E + n) (hS : isS E h a S) (hok : okS S)  : gM E mX3_siblingsInAll [.ref a] n σ h (gD (some (.int (gi (sAll S)))) n σ (fun h9 => h9 = h)) (gNo) := by
  obtain ⟨q1, ⟨qa, q2, qf⟩, q3⟩ := hS
  have hl : ∀ x y : Int, 0 ≤ x → x < 3 → 0 ≤ y → y < 3 → 0 ≤ sLen S x y ∧ sLen S x y ≤ 4 := fun x y x0 x3 y0 y3 => ⟨Int.natCast_nonneg _, by have e := ((hok x x0 x3).2.2.2 y y0 y3).1; show (((S.1 x).2.2.2 y).length : Int) ≤ 4; omega⟩
  refine gM_of (by decide) (Nat.le_of_ble_eq_true rfl) (fun F C => ?_)
  refine g_iconst 1 C dX3_siblingsInAll_0 rfl ?_
  refine g_istore_n 2 [(1, _), (0, _)] C dX3_siblingsInAll_1 (by decide) rfl rfl ?_
  refine g_iconst 3 C dX3_siblingsInAll_2 rfl ?_
  refine g_istore_n 4 [(2, _), (1, _), (0, _)] C dX3_siblingsInAll_3 (by decide) rfl rfl ?_
  have lp4 : ∀ (k9 : Nat) (i : Nat), i ≤ 3 → 3 - i < k9 → G E F mX3_siblingsInAll (gQ E F mX3_siblingsInAll n (gD (some (.int (gi (sAll S)))) n σ (fun h9 => h9 = h)) (gNo)) n σ h 0 0 4 [(2, .int (gi (i : Int))), (1, .int (gi (sumN (fun k => sumN (fun s => sLen S k s) 3) i))), (0, .ref a)] [] := by
    intro k9
    induction k9 with
    | zero => intro i hi h0; exact absurd h0 (Nat.not_lt_zero _)
    | succ k9 ih4 =>
      intro i hi hk4
      refine g_iload_n 5 C dX3_siblingsInAll_4 rfl rfl ?_
      refine g_iconst 6 C dX3_siblingsInAll_5 rfl ?_
      refine g_icmp_ge 45 9 C dX3_siblingsInAll_6 rfl rfl (by omega) (by omega) (fun c6 => ?_) (fun c6 => ?_)
      · skip
        refine g_iload_n 46 C dX3_siblingsInAll_45 rfl rfl ?_
        exact g_iret C dX3_siblingsInAll_46 rfl ⟨by decide, by decide⟩ (by rw [show i = 3 by omega]; exact ⟨rfl, rfl, rfl, rfl⟩)
      · skip
        refine g_iconst 10 C dX3_siblingsInAll_9 rfl ?_
        refine g_istore_n 11 [(3, _), (2, _), (1, _), (0, _)] C dX3_siblingsInAll_10 (by decide) rfl rfl ?_
        have lp11 : ∀ (k9 : Nat) (j : Nat), j ≤ 3 → 3 - j < k9 → G E F mX3_siblingsInAll (gQ E F mX3_siblingsInAll n (gD (some (.int (gi (sAll S)))) n σ (fun h9 => h9 = h)) (gNo)) n σ h 0 0 11 [(3, .int (gi (j : Int))), (2, .int (gi (i : Int))), (1, .int (gi ((sumN (fun k => sumN (fun s => sLen S k s) 3) i + sumN (fun s => sLen S (i : Int) s) j)))), (0, .ref a)] [] := by
          intro k9
          induction k9 with
          | zero => intro j hj h0; exact absurd h0 (Nat.not_lt_zero _)
          | succ k9 ih11 =>
            intro j hj hk11
            have hKk := q3 (i : Int) (by omega) (by omega)
            obtain ⟨k1, ⟨kc, k2, kfc⟩, ⟨kn, k3, kfk⟩, k4, k5, k6⟩ := hKk
            try dsimp only at k4 k5 k6
            refine g_iload_n 12 C dX3_siblingsInAll_11 rfl rfl ?_
            refine g_iconst 13 C dX3_siblingsInAll_12 rfl ?_
            refine g_icmp_ge 39 16 C dX3_siblingsInAll_13 rfl rfl (by omega) (by omega) (fun c13 => ?_) (fun c13 => ?_)
            · skip
              refine g_iinc 42 [(2, _), (3, _), (1, _), (0, _)] C dX3_siblingsInAll_39 rfl (by decide) rfl rfl ?_
              refine g_goto 4 C dX3_siblingsInAll_42 rfl ?_
              refine g_loc [(2, _), (1, .int (gi (sumN (fun k => sumN (fun s => sLen S k s) 3) (i + 1)))), (0, _)] ⟨rfl, (by rw [show j = 3 by omega]; rfl), rfl, trivial⟩ ?_
              exact ih4 (i + 1) (by omega) (by omega)
            · skip
              refine g_iload_n 17 C dX3_siblingsInAll_16 rfl rfl ?_
              refine g_aload_n 18 C dX3_siblingsInAll_17 rfl rfl ?_
              refine g_getf 21 C dX3_siblingsInAll_18 fl_RX3_11 rfl (by omega) q1 rfl rfl ?_
              refine g_iload_n 22 C dX3_siblingsInAll_21 rfl rfl ?_
              refine g_aald 23 C dX3_siblingsInAll_22 (by omega) q2 rfl rfl (by omega) (by decide) (qf ((i : Int)) (by omega) (by omega)) rfl ?_
              refine g_getf 26 C dX3_siblingsInAll_23 fl_RX3_49 rfl (by omega) k1 rfl rfl ?_
              refine g_iload_n 27 C dX3_siblingsInAll_26 rfl rfl ?_
              refine g_aald 28 C dX3_siblingsInAll_27 (by omega) k2 rfl rfl (by omega) (by decide) (kfc ((j : Int)) (by omega) (by omega)) rfl ?_
              refine g_getf 31 C dX3_siblingsInAll_28 fl_RX3_66 rfl (by omega) (isC.h0 (k6 ((j : Int)) (by omega) (by omega))) rfl rfl ?_
              refine g_iadd 32 C dX3_siblingsInAll_31 rfl ?_
              refine g_istore_n 33 [(1, _), (3, _), (2, _), (0, _)] C dX3_siblingsInAll_32 (by decide) rfl rfl ?_
              refine g_iinc 36 [(3, _), (1, _), (2, _), (0, _)] C dX3_siblingsInAll_33 rfl (by decide) rfl rfl ?_
              refine g_goto 11 C dX3_siblingsInAll_36 rfl ?_
              refine g_loc [(3, _), (2, _), (1, .int (gi ((sumN (fun k => sumN (fun s => sLen S k s) 3) i + sumN (fun s => sLen S (i : Int) s)  (j + 1))))), (0, _)] ⟨rfl, rfl, (by rw [show sumN (fun s => sLen S (i : Int) s) (j + 1) = sumN (fun s => sLen S (i : Int) s) j + sLen S (i : Int) (j : Int) from rfl, ← Int.add_assoc]; rfl), rfl, trivial⟩ ?_
              exact ih11 (j + 1) (by omega) (by omega)
        refine g_loc [(3, _), (2, _), (1, _), (0, _)] ⟨rfl, rfl, rfl, rfl, trivial⟩ ?_
        have e11 := lp11 _ 0 (by omega) (Nat.lt_succ_self _)
        rw [show sumN (fun k => sumN (fun s => sLen S k s) 3) i + sumN (fun s => sLen S (i : Int) s) 0 = sumN (fun k => sumN (fun s => sLen S k s) 3) i from Int.add_zero _] at e11
        exact e11
  refine g_loc [(2, _), (1, _), (0, _)] ⟨rfl, rfl, rfl, trivial⟩ ?_
  exact lp4 _ 0 (by omega) (Nat.lt_succ_self _)
set_option maxRecDepth 100000 in
set_option maxHeartbeats 4000000 in
theorem c_X3_mostSiblings {E : gEnv} {n : Nat} {σ : Option Nat} {h : gH} (a : Nat) (S : gSt) (hab : gB E ≤ a ∧ a + 65 ≤ gB E + n) (hS : isS E h a S) (hok : okS S)  : gM E mX3_mostSiblings [.ref a] n σ h (gD (some (.int (gi (sMst S 3)))) n σ (fun h9 => h9 = h)) (gNo) := by
  obtain ⟨q1, ⟨qa, q2, qf⟩, q3⟩ := hS
  have hl : ∀ x y : Int, 0 ≤ x → x < 3 → 0 ≤ y → y < 3 → 0 ≤ sLen S x y ∧ sLen S x y ≤ 4 := fun x y x0 x3 y0 y3 => ⟨Int.natCast_nonneg _, by have e := ((hok x x0 x3).2.2.2 y y0 y3).1; show (((S.1 x).2.2.2 y).length : Int) ≤ 4; omega⟩
  refine gM_of (by decide) (Nat.le_of_ble_eq_true rfl) (fun F C => ?_)
  refine g_iconst 1 C dX3_mostSiblings_0 rfl ?_
  refine g_istore_n 2 [(1, _), (0, _)] C dX3_mostSiblings_1 (by decide) rfl rfl ?_
  refine g_iconst 3 C dX3_mostSiblings_2 rfl ?_
  refine g_istore_n 4 [(2, _), (1, _), (0, _)] C dX3_mostSiblings_3 (by decide) rfl rfl ?_
  have lp4 : ∀ (k9 : Nat) (i : Nat), i ≤ 3 → 0 ≤ sMst S i ∧ sMst S i ≤ 4 → 3 - i < k9 → G E F mX3_mostSiblings (gQ E F mX3_mostSiblings n (gD (some (.int (gi (sMst S 3)))) n σ (fun h9 => h9 = h)) (gNo)) n σ h 0 0 4 [(2, .int (gi (i : Int))), (1, .int (gi (sMst S i))), (0, .ref a)] [] := by
    intro k9
    induction k9 with
    | zero => intro i hi hA h0; exact absurd h0 (Nat.not_lt_zero _)
    | succ k9 ih4 =>
      intro i hi hA hk4
      refine g_iload_n 5 C dX3_mostSiblings_4 rfl rfl ?_
      refine g_iconst 6 C dX3_mostSiblings_5 rfl ?_
      refine g_icmp_ge 47 9 C dX3_mostSiblings_6 rfl rfl (by omega) (by omega) (fun c6 => ?_) (fun c6 => ?_)
      · skip
        refine g_iload_n 48 C dX3_mostSiblings_47 rfl rfl ?_
        exact g_iret C dX3_mostSiblings_48 rfl ⟨by decide, by decide⟩ (by rw [show i = 3 by omega]; exact ⟨rfl, rfl, rfl, rfl⟩)
      · skip
        refine g_iconst 10 C dX3_mostSiblings_9 rfl ?_
        refine g_istore_n 11 [(3, _), (2, _), (1, _), (0, _)] C dX3_mostSiblings_10 (by decide) rfl rfl ?_
        have lp11 : ∀ (k9 : Nat) (j : Nat), j ≤ 3 → 0 ≤ maxN (fun s => sLen S (i : Int) s) (sMst S i) j ∧ maxN (fun s => sLen S (i : Int) s) (sMst S i) j ≤ 4 → 3 - j < k9 → G E F mX3_mostSiblings (gQ E F mX3_mostSiblings n (gD (some (.int (gi (sMst S 3)))) n σ (fun h9 => h9 = h)) (gNo)) n σ h 0 0 11 [(3, .int (gi (j : Int))), (2, .int (gi (i : Int))), (1, .int (gi (maxN (fun s => sLen S (i : Int) s) (sMst S i) j))), (0, .ref a)] [] := by
          intro k9
          induction k9 with
          | zero => intro j hj hBb h0; exact absurd h0 (Nat.not_lt_zero _)
          | succ k9 ih11 =>
            intro j hj hBb hk11
            have hKk := q3 (i : Int) (by omega) (by omega)
            obtain ⟨k1, ⟨kc, k2, kfc⟩, ⟨kn, k3, kfk⟩, k4, k5, k6⟩ := hKk
            try dsimp only at k4 k5 k6
            refine g_iload_n 12 C dX3_mostSiblings_11 rfl rfl ?_
            refine g_iconst 13 C dX3_mostSiblings_12 rfl ?_
            refine g_icmp_ge 41 16 C dX3_mostSiblings_13 rfl rfl (by omega) (by omega) (fun c13 => ?_) (fun c13 => ?_)
            · skip
              refine g_iinc 44 [(2, _), (3, _), (1, _), (0, _)] C dX3_mostSiblings_41 rfl (by decide) rfl rfl ?_
              refine g_goto 4 C dX3_mostSiblings_44 rfl ?_
              refine g_loc [(2, _), (1, .int (gi (sMst S (i + 1)))), (0, _)] ⟨rfl, (by rw [show j = 3 by omega]; rfl), rfl, trivial⟩ ?_
              exact ih4 (i + 1) (by omega) (by rw [show j = 3 by omega] at hBb; exact hBb) (by omega)
            · skip
              refine g_iload_n 17 C dX3_mostSiblings_16 rfl rfl ?_
              refine g_aload_n 18 C dX3_mostSiblings_17 rfl rfl ?_
              refine g_getf 21 C dX3_mostSiblings_18 fl_RX3_11 rfl (by omega) q1 rfl rfl ?_
              refine g_iload_n 22 C dX3_mostSiblings_21 rfl rfl ?_
              refine g_aald 23 C dX3_mostSiblings_22 (by omega) q2 rfl rfl (by omega) (by decide) (qf ((i : Int)) (by omega) (by omega)) rfl ?_
              refine g_getf 26 C dX3_mostSiblings_23 fl_RX3_49 rfl (by omega) k1 rfl rfl ?_
              refine g_iload_n 27 C dX3_mostSiblings_26 rfl rfl ?_
              refine g_aald 28 C dX3_mostSiblings_27 (by omega) k2 rfl rfl (by omega) (by decide) (kfc ((j : Int)) (by omega) (by omega)) rfl ?_
              refine g_getf 31 C dX3_mostSiblings_28 fl_RX3_66 rfl (by omega) (isC.h0 (k6 ((j : Int)) (by omega) (by omega))) rfl rfl ?_
              refine g_max 34 C dX3_mostSiblings_31 rfl sp_RX3_69 (by decide) (Nat.le_of_ble_eq_true rfl) (by decide) (by decide) (by omega) (by have e := hl (i : Int) (j : Int) (by omega) (by omega) (by omega) (by omega); exact ⟨Int.le_trans (by decide) e.1, Int.lt_of_le_of_lt e.2 (by decide)⟩) rfl ?_
              refine g_istore_n 35 [(1, _), (3, _), (2, _), (0, _)] C dX3_mostSiblings_34 (by decide) rfl rfl ?_
              refine g_iinc 38 [(3, _), (1, _), (2, _), (0, _)] C dX3_mostSiblings_35 rfl (by decide) rfl rfl ?_
              refine g_goto 11 C dX3_mostSiblings_38 rfl ?_
              refine g_loc [(3, _), (2, _), (1, .int (gi (maxN (fun s => sLen S (i : Int) s) (sMst S i) (j + 1)))), (0, _)] ⟨rfl, rfl, rfl, rfl, trivial⟩ ?_
              exact ih11 (j + 1) (by omega) (maxN_r hA (j + 1) (fun x hx => hl (i : Int) (x : Int) (by omega) (by omega) (by omega) (by omega))) (by omega)
        refine g_loc [(3, _), (2, _), (1, _), (0, _)] ⟨rfl, rfl, rfl, rfl, trivial⟩ ?_
        exact lp11 _ 0 (by omega) hA (Nat.lt_succ_self _)
  refine g_loc [(2, _), (1, _), (0, _)] ⟨rfl, rfl, rfl, trivial⟩ ?_
  exact lp4 _ 0 (by omega) (by show (0:Int) ≤ 0 ∧ (0:Int) ≤ 4; decide) (Nat.lt_succ_self _)
