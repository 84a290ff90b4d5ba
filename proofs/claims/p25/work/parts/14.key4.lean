/-! SiblingJoins$KeyState: unlike siblings, keyFact, erase, become, init -/
theorem agrP_r (K : gKy) : 0 ≤ agrP K ∧ agrP K ≤ 3 := by
  unfold agrP
  cases agr K 0 1 <;> cases agr K 0 2 <;> cases agr K 1 2 <;> decide
set_option maxRecDepth 100000 in
set_option maxHeartbeats 4000000 in
theorem c_X1_unlikeSiblings {E : gEnv} {n : Nat} {σ : Option Nat} {h : gH} (a : Nat) (K : gKy) (hab : gB E ≤ a ∧ a + 21 ≤ gB E + n) (hK : isK E h a K) (hok : okK K)  : gM E mX1_unlikeSiblings [.ref a] n σ h (gD (some (.int (gi (unlN K)))) n σ (fun h9 => h9 = h)) (gNo) := by
  have hK9 := hK
  obtain ⟨k1, ⟨fc, k2, hfc⟩, ⟨fk, k3, hfk⟩, k4, k5, k6⟩ := hK
  obtain ⟨oW, oN, oV, oL⟩ := hok
  refine gM_of (by decide) (Nat.le_of_ble_eq_true rfl) (fun F C => ?_)
  refine g_iconst 1 C dX1_unlikeSiblings_0 rfl ?_
  refine g_istore_n 2 [(1, _), (0, _)] C dX1_unlikeSiblings_1 (by decide) rfl rfl ?_
  refine g_iconst 3 C dX1_unlikeSiblings_2 rfl ?_
  refine g_istore_n 4 [(2, _), (1, _), (0, _)] C dX1_unlikeSiblings_3 (by decide) rfl rfl ?_
  have lp4 : ∀ (k9 : Nat) (i : Nat), i ≤ 3 → 3 - i < k9 → G E F mX1_unlikeSiblings (gQ E F mX1_unlikeSiblings n (gD (some (.int (gi (unlN K)))) n σ (fun h9 => h9 = h)) (gNo)) n σ h 0 0 4 [(2, .int (gi (i : Int))), (1, .int (gi (sumN (fun s => (((K.2.2.2 s).countP (fun p => decide (gmsk (fun j => hasM (K.2.2.2 j) p.1) s.toNat = 0)) : Nat) : Int)) i))), (0, .ref a)] [] := by
    intro k9
    induction k9 with
    | zero => intro i hi h0; exact absurd h0 (Nat.not_lt_zero _)
    | succ k9 ih4 =>
      intro i hi hk4
      refine g_iload_n 5 C dX1_unlikeSiblings_4 rfl rfl ?_
      refine g_iconst 6 C dX1_unlikeSiblings_5 rfl ?_
      refine g_icmp_ge 67 9 C dX1_unlikeSiblings_6 rfl rfl (by omega) (by omega) (fun c6 => ?_) (fun c6 => ?_)
      · skip
        refine g_iload_n 68 C dX1_unlikeSiblings_67 rfl rfl ?_
        exact g_iret C dX1_unlikeSiblings_68 rfl ⟨by decide, by decide⟩ (by rw [show i = 3 by omega]; exact ⟨rfl, rfl, rfl, rfl⟩)
      · skip
        obtain ⟨mk, vl, hl, q⟩ := k6 (i : Int) (by omega) (by omega)
        have hlen := (oL (i : Int) (by omega) (by omega)).1
        refine g_iconst 10 C dX1_unlikeSiblings_9 rfl ?_
        refine g_istore_n 11 [(3, _), (2, _), (1, _), (0, _)] C dX1_unlikeSiblings_10 (by decide) rfl rfl ?_
        have lp11 : ∀ (k9 : Nat) (j : Nat), j ≤ (K.2.2.2 (i : Int)).length → (K.2.2.2 (i : Int)).length - j < k9 → G E F mX1_unlikeSiblings (gQ E F mX1_unlikeSiblings n (gD (some (.int (gi (unlN K)))) n σ (fun h9 => h9 = h)) (gNo)) n σ h 0 0 11 [(3, .int (gi (j : Int))), (2, .int (gi (i : Int))), (1, .int (gi (sumN (fun s => (((K.2.2.2 s).countP (fun p => decide (gmsk (fun j => hasM (K.2.2.2 j) p.1) s.toNat = 0)) : Nat) : Int)) i + ((lst mk vl j).countP (fun p : Int × Int => decide (gmsk (fun j => hasM (K.2.2.2 j) p.1) (i : Int).toNat = 0)) : Int)))), (0, .ref a)] [] := by
          intro k9
          induction k9 with
          | zero => intro j hj h0; exact absurd h0 (Nat.not_lt_zero _)
          | succ k9 ih11 =>
            intro j hj hk11
            refine g_iload_n 12 C dX1_unlikeSiblings_11 rfl rfl ?_
            refine g_aload_n 13 C dX1_unlikeSiblings_12 rfl rfl ?_
            refine g_getf 16 C dX1_unlikeSiblings_13 fl_RX1_11 rfl (by omega) k1 rfl rfl ?_
            refine g_iload_n 17 C dX1_unlikeSiblings_16 rfl rfl ?_
            refine g_aald 18 C dX1_unlikeSiblings_17 (by omega) k2 rfl rfl (by omega) (by decide) (hfc ((i : Int)) (by omega) (by omega)) rfl ?_
            refine g_getf 21 C dX1_unlikeSiblings_18 fl_RX1_55 rfl (by omega) (isC.h0 (k6 ((i : Int)) (by omega) (by omega))) rfl rfl ?_
            refine g_icmp_ge 61 24 C dX1_unlikeSiblings_21 rfl rfl (by omega) (by omega) (fun c21 => ?_) (fun c21 => ?_)
            · skip
              have he : sumN (fun s => (((K.2.2.2 s).countP (fun p => decide (gmsk (fun j => hasM (K.2.2.2 j) p.1) s.toNat = 0)) : Nat) : Int)) (i + 1) = sumN (fun s => (((K.2.2.2 s).countP (fun p => decide (gmsk (fun j => hasM (K.2.2.2 j) p.1) s.toNat = 0)) : Nat) : Int)) i + ((lst mk vl j).countP (fun p : Int × Int => decide (gmsk (fun j => hasM (K.2.2.2 j) p.1) (i : Int).toNat = 0)) : Int) := by rw [show lst mk vl j = K.2.2.2 (i : Int) by rw [hl, lst_len] at hj; rw [show j = (K.2.2.2 (i : Int)).length by omega]; exact hl.symm]; rfl
              refine g_iinc 64 [(2, _), (3, _), (1, _), (0, _)] C dX1_unlikeSiblings_61 rfl (by decide) rfl rfl ?_
              refine g_goto 4 C dX1_unlikeSiblings_64 rfl ?_
              refine g_loc [(2, _), (1, .int (gi (sumN (fun s => (((K.2.2.2 s).countP (fun p => decide (gmsk (fun j => hasM (K.2.2.2 j) p.1) s.toNat = 0)) : Nat) : Int)) (i + 1)))), (0, _)] ⟨rfl, (by rw [he]; rfl), rfl, trivial⟩ ?_
              exact ih4 (i + 1) (by omega) (by omega)
            · skip
              have hv := okL_at hl (oL (i : Int) (by omega) (by omega)) (j := j) (by omega)
              refine g_aload_n 25 C dX1_unlikeSiblings_24 rfl rfl ?_
              refine g_aload_n 26 C dX1_unlikeSiblings_25 rfl rfl ?_
              refine g_getf 29 C dX1_unlikeSiblings_26 fl_RX1_11 rfl (by omega) k1 rfl rfl ?_
              refine g_iload_n 30 C dX1_unlikeSiblings_29 rfl rfl ?_
              refine g_aald 31 C dX1_unlikeSiblings_30 (by omega) k2 rfl rfl (by omega) (by decide) (hfc ((i : Int)) (by omega) (by omega)) rfl ?_
              refine g_getf 34 C dX1_unlikeSiblings_31 fl_RX1_78 rfl (by omega) (isC.h0 (k6 ((i : Int)) (by omega) (by omega))) rfl rfl ?_
              refine g_iload_n 35 C dX1_unlikeSiblings_34 rfl rfl ?_
              refine g_iald 36 C dX1_unlikeSiblings_35 (by omega) q.2.2.1 (by omega) (by decide) rfl ?_
              refine g_V1r 39 0 0 C dX1_unlikeSiblings_36 rfl lk_RX1_94 gi_X1_holders gv_X1_holders ⟨_, _, rfl⟩ (by omega) k1 ⟨⟨by decide, by decide⟩, by decide, by decide⟩ (Nat.le_of_ble_eq_true rfl) rfl rfl rfl (c_X1_holders a K (mk (j : Int)) hab hK9 ⟨oW, oN, oV, oL⟩ (by omega)) g_no (fun h9 e36 => ?_)
              subst e36
              refine g_iconst 40 C dX1_unlikeSiblings_39 rfl ?_
              refine g_iload_n 41 C dX1_unlikeSiblings_40 rfl rfl ?_
              refine g_ishl 42 C dX1_unlikeSiblings_41 (g_shl (by omega)) rfl ?_
              refine g_iconst 43 C dX1_unlikeSiblings_42 rfl ?_
              refine g_isub 44 C dX1_unlikeSiblings_43 rfl ?_
              refine g_iand 45 C dX1_unlikeSiblings_44 (gmsk_low _ (i := i) (by omega)) rfl ?_
              have hgr := gmsk_r (fun j9 => hasM (K.2.2.2 j9) (mk (j : Int))) (i := i) (by omega)
              refine g_istore 47 [(4, _), (3, _), (2, _), (1, _), (0, _)] C dX1_unlikeSiblings_45 (by decide) rfl rfl ?_
              refine g_iload 49 C dX1_unlikeSiblings_47 rfl rfl ?_
              refine g_if_ne 55 52 C dX1_unlikeSiblings_49 rfl rfl (by omega) (fun c49 => ?_) (fun c49 => ?_)
              · skip
                have hb9 : gbi ((fun p : Int × Int => decide (gmsk (fun j => hasM (K.2.2.2 j) p.1) (i : Int).toNat = 0)) (mk (j : Int), vl (j : Int))) = 0 := gbi_f (decide_eq_false c49)
                refine g_iinc 58 [(3, _), (4, _), (2, _), (1, _), (0, _)] C dX1_unlikeSiblings_55 rfl (by decide) rfl rfl ?_
                refine g_goto 11 C dX1_unlikeSiblings_58 rfl ?_
                refine g_loc [(3, _), (2, _), (1, .int (gi (sumN (fun s => (((K.2.2.2 s).countP (fun p => decide (gmsk (fun j => hasM (K.2.2.2 j) p.1) s.toNat = 0)) : Nat) : Int)) i + ((lst mk vl (j + 1)).countP (fun p : Int × Int => decide (gmsk (fun j => hasM (K.2.2.2 j) p.1) (i : Int).toNat = 0)) : Int)))), (0, _)] ⟨rfl, rfl, (by rw [lst_ct, hb9, ← Int.add_assoc]; first | rfl | (rw [Int.add_zero]; rfl)), rfl, trivial⟩ ?_
                exact ih11 (j + 1) (by omega) (by omega)
              · skip
                have hb9 : gbi ((fun p : Int × Int => decide (gmsk (fun j => hasM (K.2.2.2 j) p.1) (i : Int).toNat = 0)) (mk (j : Int), vl (j : Int))) = 1 := gbi_t (decide_eq_true c49)
                refine g_iinc 55 [(1, _), (4, _), (3, _), (2, _), (0, _)] C dX1_unlikeSiblings_52 rfl (by decide) rfl rfl ?_
                refine g_iinc 58 [(3, _), (1, _), (4, _), (2, _), (0, _)] C dX1_unlikeSiblings_55 rfl (by decide) rfl rfl ?_
                refine g_goto 11 C dX1_unlikeSiblings_58 rfl ?_
                refine g_loc [(3, _), (2, _), (1, .int (gi (sumN (fun s => (((K.2.2.2 s).countP (fun p => decide (gmsk (fun j => hasM (K.2.2.2 j) p.1) s.toNat = 0)) : Nat) : Int)) i + ((lst mk vl (j + 1)).countP (fun p : Int × Int => decide (gmsk (fun j => hasM (K.2.2.2 j) p.1) (i : Int).toNat = 0)) : Int)))), (0, _)] ⟨rfl, rfl, (by rw [lst_ct, hb9, ← Int.add_assoc]; first | rfl | (rw [Int.add_zero]; rfl)), rfl, trivial⟩ ?_
                exact ih11 (j + 1) (by omega) (by omega)
        refine g_loc [(3, _), (2, _), (1, _), (0, _)] ⟨rfl, rfl, rfl, rfl, trivial⟩ ?_
        refine g_loc [(3, .int (gi ((0 : Nat) : Int))), (2, _), (1, .int (gi (sumN (fun s => (((K.2.2.2 s).countP (fun p => decide (gmsk (fun j => hasM (K.2.2.2 j) p.1) s.toNat = 0)) : Nat) : Int)) i + ((lst mk vl 0).countP (fun p : Int × Int => decide (gmsk (fun j => hasM (K.2.2.2 j) p.1) (i : Int).toNat = 0)) : Int)))), (0, _)] ⟨rfl, rfl, by show _ = some (Value.int (gi (_ + 0))); rw [Int.add_zero]; rfl, rfl, trivial⟩ ?_
        exact lp11 _ 0 (by omega) (Nat.lt_succ_self _)
  refine g_loc [(2, _), (1, _), (0, _)] ⟨rfl, rfl, rfl, trivial⟩ ?_
  exact lp4 _ 0 (by omega) (Nat.lt_succ_self _)
set_option maxRecDepth 100000 in
set_option maxHeartbeats 4000000 in
theorem c_X1_keyFact {E : gEnv} {n : Nat} {σ : Option Nat} {h : gH} (a : Nat) (K : gKy) (what : Int) (hab : gB E ≤ a ∧ a + 21 ≤ gB E + n) (hK : isK E h a K) (hok : okK K) (hwh : 0 ≤ what ∧ what ≤ 7) : gM E mX1_keyFact [.ref a, .int (gi what)] n σ h (gD (some (.int (gi (keyF K what)))) n σ (fun h9 => h9 = h)) (gNo) := by
  have hK9 := hK
  obtain ⟨k1, ⟨fc, k2, hfc⟩, ⟨fk, k3, hfk⟩, k4, k5, k6⟩ := hK
  obtain ⟨oW, oN, oV, oL⟩ := hok
  refine gM_of (by decide) (Nat.le_of_ble_eq_true rfl) (fun F C => ?_)
  refine g_iload_n 1 C dX1_keyFact_0 rfl rfl ?_
  skip
  by_cases z1_3 : what = 3
  · skip
    refine g_table 36 C dX1_keyFact_1 (by omega) (by omega) (by omega) (off := 35) (by rw [z1_3]; rfl) rfl ?_
    refine g_aload_n 37 C dX1_keyFact_36 rfl rfl ?_
    refine g_V0r 40 0 0 C dX1_keyFact_37 rfl lk_RX1_104 gi_X1_unlikeSiblings gv_X1_unlikeSiblings ⟨_, _, rfl⟩ (by omega) k1 ⟨⟨by decide, by decide⟩, by decide, by decide⟩ (Nat.le_of_ble_eq_true rfl) rfl rfl rfl (c_X1_unlikeSiblings a K hab hK9 ⟨oW, oN, oV, oL⟩) g_no (fun h9 e37 => ?_)
    subst e37
    exact g_iret C dX1_keyFact_40 rfl ⟨by decide, by decide⟩ (by rw [show keyF K what = unlN K from if_pos z1_3]; exact ⟨rfl, rfl, rfl, rfl⟩)
  by_cases z1_4 : what = 4
  · skip
    refine g_table 41 C dX1_keyFact_1 (by omega) (by omega) (by omega) (off := 40) (by rw [z1_4]; rfl) rfl ?_
    refine g_aload_n 42 C dX1_keyFact_41 rfl rfl ?_
    refine g_V0r 45 0 0 C dX1_keyFact_42 rfl lk_RX1_108 gi_X1_writesInAll gv_X1_writesInAll ⟨_, _, rfl⟩ (by omega) k1 ⟨⟨by decide, by decide⟩, by decide, by decide⟩ (Nat.le_of_ble_eq_true rfl) rfl rfl rfl (c_X1_writesInAll a K hab hK9 ⟨oW, oN, oV, oL⟩) g_no (fun h9 e42 => ?_)
    subst e42
    exact g_iret C dX1_keyFact_45 rfl ⟨by decide, by decide⟩ (by rw [show keyF K what = sumN K.1 5 by unfold keyF; rw [if_neg z1_3, if_pos z1_4]]; exact ⟨rfl, rfl, rfl, rfl⟩)
  by_cases z1_5 : what = 5
  · skip
    refine g_table 46 C dX1_keyFact_1 (by omega) (by omega) (by omega) (off := 45) (by rw [z1_5]; rfl) rfl ?_
    refine g_aload_n 47 C dX1_keyFact_46 rfl rfl ?_
    refine g_V0r 50 0 0 C dX1_keyFact_47 rfl lk_RX1_111 gi_X1_agreeingPairs gv_X1_agreeingPairs ⟨_, _, rfl⟩ (by omega) k1 ⟨⟨by decide, by decide⟩, by decide, by decide⟩ (Nat.le_of_ble_eq_true rfl) rfl rfl rfl (c_X1_agreeingPairs a K hab hK9 ⟨oW, oN, oV, oL⟩) g_no (fun h9 e47 => ?_)
    subst e47
    have har := agrP_r K
    refine g_iconst 51 C dX1_keyFact_50 rfl ?_
    refine g_icmp_ne 58 54 C dX1_keyFact_51 rfl rfl (by omega) (by omega) (fun c51 => ?_) (fun c51 => ?_)
    · skip
      have ec : keyF K what = 0 := by unfold keyF; rw [if_neg z1_3, if_neg z1_4, if_pos z1_5, if_neg c51]
      refine g_iconst 59 C dX1_keyFact_58 rfl ?_
      exact g_iret C dX1_keyFact_59 rfl ⟨by decide, by decide⟩ (by rw [ec]; exact ⟨rfl, rfl, rfl, rfl⟩)
    · skip
      have ec : keyF K what = 1 := by unfold keyF; rw [if_neg z1_3, if_neg z1_4, if_pos z1_5, if_pos c51]
      refine g_iconst 55 C dX1_keyFact_54 rfl ?_
      refine g_goto 59 C dX1_keyFact_55 rfl ?_
      exact g_iret C dX1_keyFact_59 rfl ⟨by decide, by decide⟩ (by rw [ec]; exact ⟨rfl, rfl, rfl, rfl⟩)
  by_cases z1_6 : what = 6
  · skip
    refine g_table 60 C dX1_keyFact_1 (by omega) (by omega) (by omega) (off := 59) (by rw [z1_6]; rfl) rfl ?_
    refine g_aload_n 61 C dX1_keyFact_60 rfl rfl ?_
    refine g_V0r 64 0 0 C dX1_keyFact_61 rfl lk_RX1_114 gi_X1_allSeeTheSame gv_X1_allSeeTheSame ⟨_, _, rfl⟩ (by omega) k1 ⟨⟨by decide, by decide⟩, by decide, by decide⟩ (Nat.le_of_ble_eq_true rfl) rfl rfl rfl (c_X1_allSeeTheSame a K hab hK9 ⟨oW, oN, oV, oL⟩) g_no (fun h9 e61 => ?_)
    subst e61
    refine g_if_eq 71 67 C dX1_keyFact_64 rfl rfl (gbi_r _) (fun c64 => ?_) (fun c64 => ?_)
    · skip
      have ec : keyF K what = 0 := by unfold keyF; rw [if_neg z1_3, if_neg z1_4, if_neg z1_5, if_pos z1_6]; exact c64
      refine g_iconst 72 C dX1_keyFact_71 rfl ?_
      exact g_iret C dX1_keyFact_72 rfl ⟨by decide, by decide⟩ (by rw [ec]; exact ⟨rfl, rfl, rfl, rfl⟩)
    · skip
      have ec : keyF K what = 1 := by unfold keyF; rw [if_neg z1_3, if_neg z1_4, if_neg z1_5, if_pos z1_6]; exact gbi_t (gbi_1 c64)
      refine g_iconst 68 C dX1_keyFact_67 rfl ?_
      refine g_goto 72 C dX1_keyFact_68 rfl ?_
      exact g_iret C dX1_keyFact_72 rfl ⟨by decide, by decide⟩ (by rw [ec]; exact ⟨rfl, rfl, rfl, rfl⟩)
  by_cases z1_7 : what = 7
  · skip
    refine g_table 73 C dX1_keyFact_1 (by omega) (by omega) (by omega) (off := 72) (by rw [z1_7]; rfl) rfl ?_
    refine g_aload_n 74 C dX1_keyFact_73 rfl rfl ?_
    refine g_V0r 77 0 0 C dX1_keyFact_74 rfl lk_RX1_118 gi_X1_forgettable gv_X1_forgettable ⟨_, _, rfl⟩ (by omega) k1 ⟨⟨by decide, by decide⟩, by decide, by decide⟩ (Nat.le_of_ble_eq_true rfl) rfl rfl rfl (c_X1_forgettable a K hab hK9 ⟨oW, oN, oV, oL⟩) g_no (fun h9 e74 => ?_)
    subst e74
    exact g_iret C dX1_keyFact_77 rfl ⟨by decide, by decide⟩ (by rw [show keyF K what = fgtM K by unfold keyF; rw [if_neg z1_3, if_neg z1_4, if_neg z1_5, if_neg z1_6, if_pos z1_7]]; exact ⟨rfl, rfl, rfl, rfl⟩)
  refine g_tableD 78 C dX1_keyFact_1 (by omega) (by omega) rfl ?_
  refine g_iload_n 79 C dX1_keyFact_78 rfl rfl ?_
  refine g_if_lt 99 82 C dX1_keyFact_79 rfl rfl (by omega) (fun c79 => ?_) (fun c79 => ?_)
  · skip
    exact absurd c79 (by omega)
  · skip
    refine g_iload_n 83 C dX1_keyFact_82 rfl rfl ?_
    refine g_iconst 84 C dX1_keyFact_83 rfl ?_
    refine g_icmp_ge 99 87 C dX1_keyFact_84 rfl rfl (by omega) (by omega) (fun c84 => ?_) (fun c84 => ?_)
    · skip
      exact absurd c84 (by omega)
    · skip
      refine g_aload_n 88 C dX1_keyFact_87 rfl rfl ?_
      refine g_getf 91 C dX1_keyFact_88 fl_RX1_11 rfl (by omega) k1 rfl rfl ?_
      refine g_iload_n 92 C dX1_keyFact_91 rfl rfl ?_
      refine g_aald 93 C dX1_keyFact_92 (by omega) k2 rfl rfl (by omega) (by decide) (hfc (what) (by omega) (by omega)) rfl ?_
      refine g_getf 96 C dX1_keyFact_93 fl_RX1_55 rfl (by omega) (isC.h0 (k6 (what) (by omega) (by omega))) rfl rfl ?_
      refine g_goto 100 C dX1_keyFact_96 rfl ?_
      exact g_iret C dX1_keyFact_100 rfl ⟨by decide, by decide⟩ (by rw [show keyF K what = ((K.2.2.2 what).length : Int) by unfold keyF; rw [if_neg z1_3, if_neg z1_4, if_neg z1_5, if_neg z1_6, if_neg z1_7]]; exact ⟨rfl, rfl, rfl, rfl⟩)
set_option maxRecDepth 100000 in
set_option maxHeartbeats 4000000 in
theorem c_X1_erase {E : gEnv} {n : Nat} {σ : Option Nat} {h : gH} (a : Nat) (K : gKy) (w : Int) (hab : gB E ≤ a ∧ a + 21 ≤ gB E + n) (hK : isK E h a K) (hok : okK K) (hw : 0 ≤ w ∧ w < 5)  : gM E mX1_erase [.ref a, .int (gi w)] n σ h (gD none n σ (fun h9 => isK E h9 a (kErase K w) ∧ gKp a (a + 21) h h9)) (gNo) := by
  have hK9 := hK
  obtain ⟨k1, ⟨fc, k2, hfc⟩, ⟨fk, k3, hfk⟩, k4, k5, k6⟩ := hK
  obtain ⟨oW, oN, oV, oL⟩ := hok
  refine gM_of (by decide) (Nat.le_of_ble_eq_true rfl) (fun F C => ?_)
  refine g_iconst 1 C dX1_erase_0 rfl ?_
  refine g_istore_n 2 [(2, _), (0, _), (1, _)] C dX1_erase_1 (by decide) rfl rfl ?_
  have lp2 : ∀ (k9 : Nat) (i : Nat) (h1 : gH), i ≤ 3 → isK E h1 a (K.1, K.2.1, (mix (fun s => gup (K.2.2.1 s) w 0) K.2.2.1 (i : Int)), K.2.2.2) → gKp a (a + 21) h h1 → 3 - i < k9 → G E F mX1_erase (gQ E F mX1_erase n (gD none n σ (fun h9 => isK E h9 a (kErase K w) ∧ gKp a (a + 21) h h9)) (gNo)) n σ h1 0 0 2 [(2, .int (gi (i : Int))), (0, .ref a), (1, .int (gi w))] [] := by
    intro k9
    induction k9 with
    | zero => intro i h1 hi hK1 hk h0; exact absurd h0 (Nat.not_lt_zero _)
    | succ k9 ih2 =>
      intro i h1 hi hK1 hk hk2
      have hK19 := hK1
      obtain ⟨k1, ⟨fc, k2, hfc⟩, ⟨fk, k3, hfk⟩, k4, k5, k6⟩ := hK1
      try dsimp only at k4 k5 k6
      have em : (mix (fun s => gup (K.2.2.1 s) w 0) K.2.2.1 (i : Int)) (i : Int) = K.2.2.1 (i : Int) := mix_hi (Int.le_refl _)
      refine g_iload_n 3 C dX1_erase_2 rfl rfl ?_
      refine g_iconst 4 C dX1_erase_3 rfl ?_
      refine g_icmp_ge 25 7 C dX1_erase_4 rfl rfl (by omega) (by omega) (fun c4 => ?_) (fun c4 => ?_)
      · skip
        refine g_iconst 26 C dX1_erase_25 rfl ?_
        refine g_istore_n 27 [(2, _), (0, _), (1, _)] C dX1_erase_26 (by decide) rfl rfl ?_
        have lp27 : ∀ (k9 : Nat) (i : Nat) (h1 : gH), i ≤ 5 → isK E h1 a (K.1, (mix (fun x => gup (K.2.1 x) w 0) K.2.1 (i : Int)), fun s => gup (K.2.2.1 s) w 0, K.2.2.2) → gKp a (a + 21) h h1 → 5 - i < k9 → G E F mX1_erase (gQ E F mX1_erase n (gD none n σ (fun h9 => isK E h9 a (kErase K w) ∧ gKp a (a + 21) h h9)) (gNo)) n σ h1 0 0 27 [(2, .int (gi (i : Int))), (0, .ref a), (1, .int (gi w))] [] := by
          intro k9
          induction k9 with
          | zero => intro i h1 hi hK1 hk h0; exact absurd h0 (Nat.not_lt_zero _)
          | succ k9 ih27 =>
            intro i h1 hi hK1 hk hk27
            have hK19 := hK1
            obtain ⟨k1, ⟨fc, k2, hfc⟩, ⟨fk, k3, hfk⟩, k4, k5, k6⟩ := hK1
            try dsimp only at k4 k5 k6
            have em : (mix (fun x => gup (K.2.1 x) w 0) K.2.1 (i : Int)) (i : Int) = K.2.1 (i : Int) := mix_hi (Int.le_refl _)
            refine g_iload_n 28 C dX1_erase_27 rfl rfl ?_
            refine g_iconst 29 C dX1_erase_28 rfl ?_
            refine g_icmp_ge 47 32 C dX1_erase_29 rfl rfl (by omega) (by omega) (fun c29 => ?_) (fun c29 => ?_)
            · skip
              refine g_aload_n 48 C dX1_erase_47 rfl rfl ?_
              refine g_getf 51 C dX1_erase_48 fl_RX1_22 rfl (by omega) k1 rfl rfl ?_
              refine g_iload_n 52 C dX1_erase_51 rfl rfl ?_
              refine g_iconst 53 C dX1_erase_52 rfl ?_
              refine g_iast 54 C dX1_erase_53 (by omega) k5 (by omega) (by decide) rfl ?_
              have hK8 := (hK19.setW (h1 := va_up h1 (a + 8) (gI E 5 (gup K.1 w 0))) up_s (gKp_up (by omega))).ext (K' := kErase K w) (fun _ _ _ => rfl) (fun x h0 h5 o o0 o5 => by dsimp only; rw [mix_lo (show x < (i : Int) by omega)]; try rfl) (fun _ _ _ _ _ _ => rfl) (fun _ _ _ => rfl)
              have hk8 := gKp_tr hk (gKp_up (a := a) (b := a + 21) (h := h1) (q := a + 8) (e := gI E 5 (gup K.1 w 0)) (by omega))
              exact g_vret C dX1_erase_54 rfl ⟨by decide, by decide⟩ (⟨rfl, rfl, rfl, hK8, hk8⟩)
            · skip
              refine g_aload_n 33 C dX1_erase_32 rfl rfl ?_
              refine g_getf 36 C dX1_erase_33 fl_RX1_19 rfl (by omega) k1 rfl rfl ?_
              refine g_iload_n 37 C dX1_erase_36 rfl rfl ?_
              refine g_aald 38 C dX1_erase_37 (by omega) k3 rfl rfl (by omega) (by decide) (hfk ((i : Int)) (by omega) (by omega)) rfl ?_
              refine g_iload_n 39 C dX1_erase_38 rfl rfl ?_
              refine g_iconst 40 C dX1_erase_39 rfl ?_
              refine g_iast 41 C dX1_erase_40 (by omega) (k4 ((i : Int)) (by omega) (by omega)) (by omega) (by decide) rfl ?_
              have hK8 := hK19.setN (w := (i : Int)) (f' := gup ((mix (fun x => gup (K.2.1 x) w 0) K.2.1 (i : Int)) (i : Int)) w 0) (h1 := va_up h1 (a + 3 + (i : Int).toNat) (gI E 5 (gup ((mix (fun x => gup (K.2.1 x) w 0) K.2.1 (i : Int)) (i : Int)) w 0))) (by omega) (by omega) up_s (gKp_up (by omega))
              try dsimp only at hK8
              have e9 := mix_up (f := fun x => gup (K.2.1 x) w 0) (g := K.2.1) (i := (i : Int))
              try dsimp only at e9
              rw [em, e9] at hK8
              rw [em]
              have hk8 := gKp_tr hk (gKp_up (a := a) (b := a + 21) (h := h1) (q := a + 3 + (i : Int).toNat) (e := gI E 5 (gup (K.2.1 (i : Int)) w 0)) (by omega))
              refine g_iinc 44 [(2, _), (0, _), (1, _)] C dX1_erase_41 rfl (by decide) rfl rfl ?_
              refine g_goto 27 C dX1_erase_44 rfl ?_
              refine g_loc [(2, _), (0, _), (1, _)] ⟨rfl, rfl, rfl, trivial⟩ ?_
              exact ih27 (i + 1) _ (by omega) hK8 hk8 (by omega)
        refine g_loc [(2, _), (0, _), (1, _)] ⟨rfl, rfl, rfl, trivial⟩ ?_
        exact lp27 _ 0 h1 (by omega) (hK19.ext (fun _ _ _ => rfl) (fun x h0 h5 o o0 o5 => by dsimp only; rw [mix_hi (show ((0 : Nat) : Int) ≤ x by omega)]) (fun x h0 h5 o o0 o5 => by dsimp only; rw [mix_lo (show x < (i : Int) by omega)]; try rfl) (fun _ _ _ => rfl)) hk (Nat.lt_succ_self _)
      · skip
        refine g_aload_n 8 C dX1_erase_7 rfl rfl ?_
        refine g_getf 11 C dX1_erase_8 fl_RX1_11 rfl (by omega) k1 rfl rfl ?_
        refine g_iload_n 12 C dX1_erase_11 rfl rfl ?_
        refine g_aald 13 C dX1_erase_12 (by omega) k2 rfl rfl (by omega) (by decide) (hfc ((i : Int)) (by omega) (by omega)) rfl ?_
        refine g_getf 16 C dX1_erase_13 fl_RX1_37 rfl (by omega) (isC.h0 (k6 ((i : Int)) (by omega) (by omega))) rfl rfl ?_
        refine g_iload_n 17 C dX1_erase_16 rfl rfl ?_
        refine g_iconst 18 C dX1_erase_17 rfl ?_
        refine g_iast 19 C dX1_erase_18 (by omega) (isC.h1 (k6 ((i : Int)) (by omega) (by omega))) (by omega) (by decide) rfl ?_
        have hC8 := (k6 (i : Int) (by omega) (by omega)).setV (h1 := va_up h1 ((a + 9 + 4 * (i : Int).toNat) + 1) (gI E 5 (gup ((mix (fun s => gup (K.2.2.1 s) w 0) K.2.2.1 (i : Int)) (i : Int)) w 0))) up_s (gKp_up (by omega))
        have hK8 := hK19.setC (s := (i : Int)) (by omega) (by omega) hC8 (gKp_up (by omega))
        try dsimp only at hK8
        have e9 := mix_up (f := fun s => gup (K.2.2.1 s) w 0) (g := K.2.2.1) (i := (i : Int))
        try dsimp only at e9
        rw [em, e9, gup_same] at hK8
        rw [em]
        have hk8 := gKp_tr hk (gKp_up (a := a) (b := a + 21) (h := h1) (q := (a + 9 + 4 * (i : Int).toNat) + 1) (e := gI E 5 (gup (K.2.2.1 (i : Int)) w 0)) (by omega))
        refine g_iinc 22 [(2, _), (0, _), (1, _)] C dX1_erase_19 rfl (by decide) rfl rfl ?_
        refine g_goto 2 C dX1_erase_22 rfl ?_
        refine g_loc [(2, _), (0, _), (1, _)] ⟨rfl, rfl, rfl, trivial⟩ ?_
        exact ih2 (i + 1) _ (by omega) hK8 hk8 (by omega)
  refine g_loc [(2, _), (0, _), (1, _)] ⟨rfl, rfl, rfl, trivial⟩ ?_
  exact lp2 _ 0 h (by omega) (hK9.ext (fun _ _ _ => rfl) (fun _ _ _ _ _ _ => rfl) (fun x h0 h5 o o0 o5 => by dsimp only; rw [mix_hi (show ((0 : Nat) : Int) ≤ x by omega)]) (fun _ _ _ => rfl)) gKp_rf (Nat.lt_succ_self _)
