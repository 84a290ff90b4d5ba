/-! SiblingJoins: the digest -/
def stN (K : gKy) (s : Int) (h : Int64) : Nat → Int64
  | 0 => h
  | p + 1 => fldN (fun what => sibF K s (p : Int) what) (stN K s h p) 5
def kmB (K : gKy) (h : Int64) : Nat → Int64
  | 0 => h
  | i + 1 => fldN (K.2.2.1 (i : Int)) (stN K (i : Int) (kmB K h i) (K.2.2.2 (i : Int)).length) 5
def kmC (K : gKy) (h : Int64) : Nat → Int64
  | 0 => h
  | i + 1 => mxi (mxi (mxi (fldN (K.2.1 (i : Int)) (kmC K h i) 5) (hind K (i : Int))) (wOut K (i : Int) 0 0)) (wOut K (i : Int) 0 1)
def kMix (K : gKy) (h : Int64) : Int64 := kmC K (kmB K (fldN (keyF K) h 8) 3) 5
def dgB (T : gTt) (h : Int64) : Nat → Int64
  | 0 => h
  | i + 1 => kMix (T.1.1 (i : Int)) (dgB T h i)
def dgC (T : gTt) (h : Int64) : Nat → Int64
  | 0 => h
  | i + 1 => fldN (fun what => pOut (T.1.1 (i : Int)) 1 0 what) (dgC T h i) 3
def tAgN (T : gTt) : Int := 0 + agrP (T.1.1 0) + agrP (T.1.1 1) + agrP (T.1.1 2)
def tDig (T : gTt) : Int64 := fldN T.2.2.2 (mxi (31 * dgC T (dgB T (fldN (tTal T) 2719 8) 3) 3 + gShB (tAgN T)) (T.2.2.1 : Int)) T.2.2.1
set_option maxRecDepth 100000 in
set_option maxHeartbeats 4000000 in
theorem c_X4_mixStore {E : gEnv} {n : Nat} {σ : Option Nat} {h : gH} (a : Int64) (b : Nat) (K : gKy) (s : Int) (hbb : gB E ≤ b ∧ b + 21 ≤ gB E + n) (hK : isK E h b K) (hok : okK K) (hs : 0 ≤ s ∧ s < 3)  : gM E mX4_mixStore [.long a, .ref b, .int (gi s)] n σ h (gD (some (.long (fldN (K.2.2.1 s) (stN K s a (K.2.2.2 s).length) 5))) n σ (fun h9 => h9 = h)) (gNo) := by
  have hK9 := hK
  have hok9 := hok
  obtain ⟨k1, ⟨kc, k2, kfc⟩, ⟨kn, k3, kfk⟩, k4, k5, k6⟩ := hK
  try dsimp only at k4 k5 k6
  obtain ⟨oW, oN, oV, oL⟩ := hok
  have hlen := (oL s (by omega) (by omega)).1
  refine gM_of (by decide) (Nat.le_of_ble_eq_true rfl) (fun F C => ?_)
  refine g_lload_n 1 C dX4_mixStore_0 rfl rfl ?_
  refine g_lstore 3 [(4, _), (0, _), (2, _), (3, _)] C dX4_mixStore_1 (by decide) rfl rfl ?_
  refine g_iconst 4 C dX4_mixStore_3 rfl ?_
  refine g_istore 6 [(6, _), (4, _), (0, _), (2, _), (3, _)] C dX4_mixStore_4 (by decide) rfl rfl ?_
  have lp6 : ∀ (k9 : Nat) (i : Nat), (i ≤ (K.2.2.2 s).length) → (K.2.2.2 s).length - i < k9 → G E F mX4_mixStore (gQ E F mX4_mixStore n (gD (some (.long (fldN (K.2.2.1 s) (stN K s a (K.2.2.2 s).length) 5))) n σ (fun h9 => h9 = h)) (gNo)) n σ h 0 0 6 [(6, .int (gi (i : Int))), (4, .long (stN K s a i)), (2, .ref b), (3, .int (gi s)), (0, .long a)] [] := by
    intro k9
    induction k9 with
    | zero => intro i hi h0; exact absurd h0 (Nat.not_lt_zero _)
    | succ k9 ih6 =>
      intro i hi hk6
      refine g_iload 8 C dX4_mixStore_6 rfl rfl ?_
      refine g_aload_n 9 C dX4_mixStore_8 rfl rfl ?_
      refine g_getf 12 C dX4_mixStore_9 fl_RX4_51 rfl (by omega) k1 rfl rfl ?_
      refine g_iload_n 13 C dX4_mixStore_12 rfl rfl ?_
      refine g_aald 14 C dX4_mixStore_13 (by omega) k2 rfl rfl (by omega) (by decide) (kfc (s) (by omega) (by omega)) rfl ?_
      refine g_getf 17 C dX4_mixStore_14 fl_RX4_55 rfl (by omega) (isC.h0 (k6 (s) (by omega) (by omega))) rfl rfl ?_
      refine g_icmp_ge 58 20 C dX4_mixStore_17 rfl rfl (by omega) (by omega) (fun c17 => ?_) (fun c17 => ?_)
      · skip
        have hil : i = (K.2.2.2 s).length := by omega
        refine g_lload 60 C dX4_mixStore_58 rfl rfl ?_
        refine g_aload_n 61 C dX4_mixStore_60 rfl rfl ?_
        refine g_getf 64 C dX4_mixStore_61 fl_RX4_51 rfl (by omega) k1 rfl rfl ?_
        refine g_iload_n 65 C dX4_mixStore_64 rfl rfl ?_
        refine g_aald 66 C dX4_mixStore_65 (by omega) k2 rfl rfl (by omega) (by decide) (kfc (s) (by omega) (by omega)) rfl ?_
        refine g_getf 69 C dX4_mixStore_66 fl_RX4_162 rfl (by omega) (isC.h0 (k6 (s) (by omega) (by omega))) rfl rfl ?_
        refine g_S2r 72 0 0 C dX4_mixStore_69 rfl lk_RX4_260 gs_X4_mixRow ⟨⟨by decide, by decide⟩, by decide, by decide⟩ (Nat.le_of_ble_eq_true rfl) rfl rfl rfl (c_X4_mixRow (stN K s a i) (b + 9 + 4 * s.toNat + 1) (K.2.2.1 s) (by omega) (isC.h1 (k6 (s) (by omega) (by omega)))) g_no (fun h9 e69 => ?_)
        subst e69
        exact g_lret C dX4_mixStore_72 rfl ⟨by decide, by decide⟩ (by rw [hil]; exact ⟨rfl, rfl, rfl, rfl⟩)
      · skip
        refine g_iconst 21 C dX4_mixStore_20 rfl ?_
        refine g_istore 23 [(7, _), (6, _), (4, _), (2, _), (3, _), (0, _)] C dX4_mixStore_21 (by decide) rfl rfl ?_
        have lp23 : ∀ (k9 : Nat) (j : Nat), (j ≤ 5) → 5 - j < k9 → G E F mX4_mixStore (gQ E F mX4_mixStore n (gD (some (.long (fldN (K.2.2.1 s) (stN K s a (K.2.2.2 s).length) 5))) n σ (fun h9 => h9 = h)) (gNo)) n σ h 0 0 23 [(7, .int (gi (j : Int))), (6, .int (gi (i : Int))), (4, .long (fldN (fun what => sibF K s (i : Int) what) (stN K s a i) j)), (2, .ref b), (3, .int (gi s)), (0, .long a)] [] := by
          intro k9
          induction k9 with
          | zero => intro j hj h0; exact absurd h0 (Nat.not_lt_zero _)
          | succ k9 ih23 =>
            intro j hj hk23
            refine g_iload 25 C dX4_mixStore_23 rfl rfl ?_
            refine g_iconst 26 C dX4_mixStore_25 rfl ?_
            refine g_icmp_gt 52 29 C dX4_mixStore_26 rfl rfl (by omega) (by omega) (fun c26 => ?_) (fun c26 => ?_)
            · skip
              refine g_iinc 55 [(6, _), (7, _), (4, _), (2, _), (3, _), (0, _)] C dX4_mixStore_52 rfl (by decide) rfl rfl ?_
              refine g_goto 6 C dX4_mixStore_55 rfl ?_
              refine g_loc [(6, _), (4, .long (stN K s a (i + 1))), (2, _), (3, _), (0, _)] ⟨rfl, (by rw [show j = 5 by omega]; rfl), rfl, rfl, rfl, trivial⟩ ?_
              exact ih6 (i + 1) (by omega) (by omega)
            · skip
              refine g_lload 31 C dX4_mixStore_29 rfl rfl ?_
              refine g_aload_n 32 C dX4_mixStore_31 rfl rfl ?_
              refine g_iload_n 33 C dX4_mixStore_32 rfl rfl ?_
              refine g_iload 35 C dX4_mixStore_33 rfl rfl ?_
              refine g_iload 37 C dX4_mixStore_35 rfl rfl ?_
              refine g_V3r 40 0 0 C dX4_mixStore_37 rfl lk_RX4_159 gi_X1_siblingFact gv_X1_siblingFact ⟨_, _, rfl⟩ (by omega) k1 ⟨⟨by decide, by decide⟩, by decide, by decide⟩ (Nat.le_of_ble_eq_true rfl) rfl rfl rfl (c_X1_siblingFact b K s i (j : Int) hbb hK9 hok9 (by omega) (by omega) (by omega)) g_no (fun h9 e37 => ?_)
              subst e37
              refine g_i2l 41 C dX4_mixStore_40 rfl ?_
              refine g_S2r 44 0 0 C dX4_mixStore_41 rfl lk_RX4_187 gs_X4_mix ⟨⟨by decide, by decide⟩, by decide, by decide⟩ (Nat.le_of_ble_eq_true rfl) rfl rfl rfl (c_X4_mix (fldN (fun what => sibF K s (i : Int) what) (stN K s a i) j) (gi (sibF K s (i : Int) (j : Int))).toInt64) g_no (fun h9 e41 => ?_)
              subst e41
              refine g_lstore 46 [(4, _), (7, _), (6, _), (2, _), (3, _), (0, _)] C dX4_mixStore_44 (by decide) rfl rfl ?_
              refine g_iinc 49 [(7, _), (4, _), (6, _), (2, _), (3, _), (0, _)] C dX4_mixStore_46 rfl (by decide) rfl rfl ?_
              refine g_goto 23 C dX4_mixStore_49 rfl ?_
              refine g_loc [(7, _), (6, _), (4, .long (fldN (fun what => sibF K s (i : Int) what) (stN K s a i) (j + 1))), (2, _), (3, _), (0, _)] ⟨rfl, rfl, rfl, rfl, rfl, rfl, trivial⟩ ?_
              exact ih23 (j + 1) (by omega) (by omega)
        refine g_loc [(7, _), (6, _), (4, _), (2, _), (3, _), (0, _)] ⟨rfl, rfl, rfl, rfl, rfl, rfl, trivial⟩ ?_
        exact lp23 _ 0 (Nat.zero_le _) (Nat.lt_succ_self _)
  refine g_loc [(6, _), (4, _), (2, _), (3, _), (0, _)] ⟨rfl, rfl, rfl, rfl, rfl, trivial⟩ ?_
  exact lp6 _ 0 (Nat.zero_le _) (Nat.lt_succ_self _)
set_option maxRecDepth 100000 in
set_option maxHeartbeats 4000000 in
theorem c_X4_mixKey {E : gEnv} {n : Nat} {σ : Option Nat} {h : gH} (a : Int64) (b : Nat) (K : gKy) (hbb : gB E ≤ b ∧ b + 21 ≤ gB E + n) (hK : isK E h b K) (hok : okK K)  : gM E mX4_mixKey [.long a, .ref b] n σ h (gD (some (.long (kMix K a))) n σ (fun h9 => h9 = h)) (gNo) := by
  have hK9 := hK
  have hok9 := hok
  obtain ⟨k1, ⟨kc, k2, kfc⟩, ⟨kn, k3, kfk⟩, k4, k5, k6⟩ := hK
  try dsimp only at k4 k5 k6
  obtain ⟨oW, oN, oV, oL⟩ := hok
  refine gM_of (by decide) (Nat.le_of_ble_eq_true rfl) (fun F C => ?_)
  refine g_lload_n 1 C dX4_mixKey_0 rfl rfl ?_
  refine g_lstore_n 2 [(3, _), (0, _), (2, _)] C dX4_mixKey_1 (by decide) rfl rfl ?_
  refine g_iconst 3 C dX4_mixKey_2 rfl ?_
  refine g_istore 5 [(5, _), (3, _), (0, _), (2, _)] C dX4_mixKey_3 (by decide) rfl rfl ?_
  have lp5 : ∀ (k9 : Nat) (i : Nat), (i ≤ 8) → 8 - i < k9 → G E F mX4_mixKey (gQ E F mX4_mixKey n (gD (some (.long (kMix K a))) n σ (fun h9 => h9 = h)) (gNo)) n σ h 0 0 5 [(5, .int (gi (i : Int))), (3, .long (fldN (keyF K) a i)), (2, .ref b), (0, .long a)] [] := by
    intro k9
    induction k9 with
    | zero => intro i hi h0; exact absurd h0 (Nat.not_lt_zero _)
    | succ k9 ih5 =>
      intro i hi hk5
      refine g_iload 7 C dX4_mixKey_5 rfl rfl ?_
      refine g_bipush 9 C dX4_mixKey_7 (by decide) rfl ?_
      refine g_icmp_gt 30 12 C dX4_mixKey_9 rfl rfl (by omega) (by omega) (fun c9 => ?_) (fun c9 => ?_)
      · skip
        have hi8 : i = 8 := by omega
        subst hi8
        refine g_iconst 31 C dX4_mixKey_30 rfl ?_
        refine g_istore 33 [(5, _), (3, _), (2, _), (0, _)] C dX4_mixKey_31 (by decide) rfl rfl ?_
        have lp33 : ∀ (k9 : Nat) (i : Nat), (i ≤ 3) → 3 - i < k9 → G E F mX4_mixKey (gQ E F mX4_mixKey n (gD (some (.long (kMix K a))) n σ (fun h9 => h9 = h)) (gNo)) n σ h 0 0 33 [(5, .int (gi (i : Int))), (3, .long (kmB K (fldN (keyF K) a 8) i)), (2, .ref b), (0, .long a)] [] := by
          intro k9
          induction k9 with
          | zero => intro i hi h0; exact absurd h0 (Nat.not_lt_zero _)
          | succ k9 ih33 =>
            intro i hi hk33
            refine g_iload 35 C dX4_mixKey_33 rfl rfl ?_
            refine g_iconst 36 C dX4_mixKey_35 rfl ?_
            refine g_icmp_ge 53 39 C dX4_mixKey_36 rfl rfl (by omega) (by omega) (fun c36 => ?_) (fun c36 => ?_)
            · skip
              have hi3 : i = 3 := by omega
              subst hi3
              refine g_iconst 54 C dX4_mixKey_53 rfl ?_
              refine g_istore 56 [(5, _), (3, _), (2, _), (0, _)] C dX4_mixKey_54 (by decide) rfl rfl ?_
              have lp56 : ∀ (k9 : Nat) (i : Nat), (i ≤ 5) → 5 - i < k9 → G E F mX4_mixKey (gQ E F mX4_mixKey n (gD (some (.long (kMix K a))) n σ (fun h9 => h9 = h)) (gNo)) n σ h 0 0 56 [(5, .int (gi (i : Int))), (3, .long (kmC K (kmB K (fldN (keyF K) a 8) 3) i)), (2, .ref b), (0, .long a)] [] := by
                intro k9
                induction k9 with
                | zero => intro i hi h0; exact absurd h0 (Nat.not_lt_zero _)
                | succ k9 ih56 =>
                  intro i hi hk56
                  refine g_iload 58 C dX4_mixKey_56 rfl rfl ?_
                  refine g_iconst 59 C dX4_mixKey_58 rfl ?_
                  refine g_icmp_ge 120 62 C dX4_mixKey_59 rfl rfl (by omega) (by omega) (fun c59 => ?_) (fun c59 => ?_)
                  · skip
                    have hi5 : i = 5 := by omega
                    subst hi5
                    refine g_lload_n 121 C dX4_mixKey_120 rfl rfl ?_
                    exact g_lret C dX4_mixKey_121 rfl ⟨by decide, by decide⟩ (⟨rfl, rfl, rfl, rfl⟩)
                  · skip
                    refine g_lload_n 63 C dX4_mixKey_62 rfl rfl ?_
                    refine g_aload_n 64 C dX4_mixKey_63 rfl rfl ?_
                    refine g_getf 67 C dX4_mixKey_64 fl_RX4_165 rfl (by omega) k1 rfl rfl ?_
                    refine g_iload 69 C dX4_mixKey_67 rfl rfl ?_
                    refine g_aald 70 C dX4_mixKey_69 (by omega) k3 rfl rfl (by omega) (by decide) (kfk ((i : Int)) (by omega) (by omega)) rfl ?_
                    refine g_S2r 73 0 0 C dX4_mixKey_70 rfl lk_RX4_260 gs_X4_mixRow ⟨⟨by decide, by decide⟩, by decide, by decide⟩ (Nat.le_of_ble_eq_true rfl) rfl rfl rfl (c_X4_mixRow _ (b + 3 + (i : Int).toNat) (K.2.1 (i : Int)) (by omega) (k4 (i : Int) (by omega) (by omega))) g_no (fun h9 e70 => ?_)
                    subst e70
                    refine g_lstore_n 74 [(3, _), (5, _), (2, _), (0, _)] C dX4_mixKey_73 (by decide) rfl rfl ?_
                    refine g_lload_n 75 C dX4_mixKey_74 rfl rfl ?_
                    refine g_aload_n 76 C dX4_mixKey_75 rfl rfl ?_
                    refine g_iload 78 C dX4_mixKey_76 rfl rfl ?_
                    refine g_V1r 81 0 0 C dX4_mixKey_78 rfl lk_RX4_109 gi_X1_hindrance gv_X1_hindrance ⟨_, _, rfl⟩ (by omega) k1 ⟨⟨by decide, by decide⟩, by decide, by decide⟩ (Nat.le_of_ble_eq_true rfl) rfl rfl rfl (c_X1_hindrance b K (i : Int) hbb hK9 hok9 (by omega)) g_no (fun h9 e78 => ?_)
                    subst e78
                    refine g_i2l 82 C dX4_mixKey_81 rfl ?_
                    refine g_S2r 85 0 0 C dX4_mixKey_82 rfl lk_RX4_187 gs_X4_mix ⟨⟨by decide, by decide⟩, by decide, by decide⟩ (Nat.le_of_ble_eq_true rfl) rfl rfl rfl (c_X4_mix _ (gi (hind K (i : Int))).toInt64) g_no (fun h9 e82 => ?_)
                    subst e82
                    refine g_lstore_n 86 [(3, _), (5, _), (2, _), (0, _)] C dX4_mixKey_85 (by decide) rfl rfl ?_
                    refine g_lload_n 87 C dX4_mixKey_86 rfl rfl ?_
                    refine g_aload_n 88 C dX4_mixKey_87 rfl rfl ?_
                    refine g_iload 90 C dX4_mixKey_88 rfl rfl ?_
                    refine g_iconst 91 C dX4_mixKey_90 rfl ?_
                    refine g_iconst 92 C dX4_mixKey_91 rfl ?_
                    refine g_V3r 95 0 0 C dX4_mixKey_92 rfl lk_RX4_175 gi_X1_writeOutlook gv_X1_writeOutlook ⟨_, _, rfl⟩ (by omega) k1 ⟨⟨by decide, by decide⟩, by decide, by decide⟩ (Nat.le_of_ble_eq_true rfl) rfl rfl rfl (c_X1_writeOutlook b K (i : Int) 0 0 hbb hK9 hok9 (by omega) (by omega) (by omega)) g_no (fun h9 e92 => ?_)
                    subst e92
                    refine g_i2l 96 C dX4_mixKey_95 rfl ?_
                    refine g_S2r 99 0 0 C dX4_mixKey_96 rfl lk_RX4_187 gs_X4_mix ⟨⟨by decide, by decide⟩, by decide, by decide⟩ (Nat.le_of_ble_eq_true rfl) rfl rfl rfl (c_X4_mix _ (gi (wOut K (i : Int) 0 0)).toInt64) g_no (fun h9 e96 => ?_)
                    subst e96
                    refine g_lstore_n 100 [(3, _), (5, _), (2, _), (0, _)] C dX4_mixKey_99 (by decide) rfl rfl ?_
                    refine g_lload_n 101 C dX4_mixKey_100 rfl rfl ?_
                    refine g_aload_n 102 C dX4_mixKey_101 rfl rfl ?_
                    refine g_iload 104 C dX4_mixKey_102 rfl rfl ?_
                    refine g_iconst 105 C dX4_mixKey_104 rfl ?_
                    refine g_iconst 106 C dX4_mixKey_105 rfl ?_
                    refine g_V3r 109 0 0 C dX4_mixKey_106 rfl lk_RX4_175 gi_X1_writeOutlook gv_X1_writeOutlook ⟨_, _, rfl⟩ (by omega) k1 ⟨⟨by decide, by decide⟩, by decide, by decide⟩ (Nat.le_of_ble_eq_true rfl) rfl rfl rfl (c_X1_writeOutlook b K (i : Int) 0 1 hbb hK9 hok9 (by omega) (by omega) (by omega)) g_no (fun h9 e106 => ?_)
                    subst e106
                    refine g_i2l 110 C dX4_mixKey_109 rfl ?_
                    refine g_S2r 113 0 0 C dX4_mixKey_110 rfl lk_RX4_187 gs_X4_mix ⟨⟨by decide, by decide⟩, by decide, by decide⟩ (Nat.le_of_ble_eq_true rfl) rfl rfl rfl (c_X4_mix _ (gi (wOut K (i : Int) 0 1)).toInt64) g_no (fun h9 e110 => ?_)
                    subst e110
                    refine g_lstore_n 114 [(3, _), (5, _), (2, _), (0, _)] C dX4_mixKey_113 (by decide) rfl rfl ?_
                    refine g_iinc 117 [(5, _), (3, _), (2, _), (0, _)] C dX4_mixKey_114 rfl (by decide) rfl rfl ?_
                    refine g_goto 56 C dX4_mixKey_117 rfl ?_
                    refine g_loc [(5, _), (3, .long (kmC K (kmB K (fldN (keyF K) a 8) 3) (i + 1))), (2, _), (0, _)] ⟨rfl, rfl, rfl, rfl, trivial⟩ ?_
                    exact ih56 (i + 1) (by omega) (by omega)
              refine g_loc [(5, _), (3, _), (2, _), (0, _)] ⟨rfl, rfl, rfl, rfl, trivial⟩ ?_
              exact lp56 _ 0 (Nat.zero_le _) (Nat.lt_succ_self _)
            · skip
              refine g_lload_n 40 C dX4_mixKey_39 rfl rfl ?_
              refine g_aload_n 41 C dX4_mixKey_40 rfl rfl ?_
              refine g_iload 43 C dX4_mixKey_41 rfl rfl ?_
              refine g_S3r 46 0 0 C dX4_mixKey_43 rfl lk_RX4_256 gs_X4_mixStore ⟨⟨by decide, by decide⟩, by decide, by decide⟩ (Nat.le_of_ble_eq_true rfl) rfl rfl rfl (c_X4_mixStore _ b K (i : Int) hbb hK9 hok9 (by omega)) g_no (fun h9 e43 => ?_)
              subst e43
              refine g_lstore_n 47 [(3, _), (5, _), (2, _), (0, _)] C dX4_mixKey_46 (by decide) rfl rfl ?_
              refine g_iinc 50 [(5, _), (3, _), (2, _), (0, _)] C dX4_mixKey_47 rfl (by decide) rfl rfl ?_
              refine g_goto 33 C dX4_mixKey_50 rfl ?_
              refine g_loc [(5, _), (3, .long (kmB K (fldN (keyF K) a 8) (i + 1))), (2, _), (0, _)] ⟨rfl, rfl, rfl, rfl, trivial⟩ ?_
              exact ih33 (i + 1) (by omega) (by omega)
        refine g_loc [(5, _), (3, _), (2, _), (0, _)] ⟨rfl, rfl, rfl, rfl, trivial⟩ ?_
        exact lp33 _ 0 (Nat.zero_le _) (Nat.lt_succ_self _)
      · skip
        refine g_lload_n 13 C dX4_mixKey_12 rfl rfl ?_
        refine g_aload_n 14 C dX4_mixKey_13 rfl rfl ?_
        refine g_iload 16 C dX4_mixKey_14 rfl rfl ?_
        refine g_V1r 19 0 0 C dX4_mixKey_16 rfl lk_RX4_169 gi_X1_keyFact gv_X1_keyFact ⟨_, _, rfl⟩ (by omega) k1 ⟨⟨by decide, by decide⟩, by decide, by decide⟩ (Nat.le_of_ble_eq_true rfl) rfl rfl rfl (c_X1_keyFact b K (i : Int) hbb hK9 hok9 (by omega)) g_no (fun h9 e16 => ?_)
        subst e16
        refine g_i2l 20 C dX4_mixKey_19 rfl ?_
        refine g_S2r 23 0 0 C dX4_mixKey_20 rfl lk_RX4_187 gs_X4_mix ⟨⟨by decide, by decide⟩, by decide, by decide⟩ (Nat.le_of_ble_eq_true rfl) rfl rfl rfl (c_X4_mix _ (gi (keyF K (i : Int))).toInt64) g_no (fun h9 e20 => ?_)
        subst e20
        refine g_lstore_n 24 [(3, _), (5, _), (2, _), (0, _)] C dX4_mixKey_23 (by decide) rfl rfl ?_
        refine g_iinc 27 [(5, _), (3, _), (2, _), (0, _)] C dX4_mixKey_24 rfl (by decide) rfl rfl ?_
        refine g_goto 5 C dX4_mixKey_27 rfl ?_
        refine g_loc [(5, _), (3, .long (fldN (keyF K) a (i + 1))), (2, _), (0, _)] ⟨rfl, rfl, rfl, rfl, trivial⟩ ?_
        exact ih5 (i + 1) (by omega) (by omega)
  refine g_loc [(5, _), (3, _), (2, _), (0, _)] ⟨rfl, rfl, rfl, rfl, trivial⟩ ?_
  exact lp5 _ 0 (Nat.zero_le _) (Nat.lt_succ_self _)
set_option maxRecDepth 100000 in
set_option maxHeartbeats 4000000 in
theorem c_X4_agreement {E : gEnv} {n : Nat} {σ : Option Nat} {h : gH} (x : Nat) (T : gTt) (hxb : gB E ≤ x ∧ x + 524 ≤ gB E + n) (hJ : isJ E h x T) (hok : okT T)  : gM E mX4_agreement [.ref x] n σ h (gD (some (.double (gShr (tAgN T)))) n σ (fun h9 => h9 = h)) (gNo) := by
  have hok9 := hok
  have hJ9 := hJ
  obtain ⟨j1, j2, j3, j4, j5, j6⟩ := hJ
  obtain ⟨o1, o2, o3, o4, o5⟩ := hok
  unfold isJo at j1
  refine gM_of (by decide) (Nat.le_of_ble_eq_true rfl) (fun F C => ?_)
  refine g_aload_n 1 C dX4_agreement_0 rfl rfl ?_
  refine g_V0r 4 0 0 C dX4_agreement_1 rfl lk_RX4_181 gi_X4_shareOfAgreement gv_X4_shareOfAgreement ⟨_, _, rfl⟩ (by omega) j1 ⟨⟨by decide, by decide⟩, by decide, by decide⟩ (Nat.le_of_ble_eq_true rfl) rfl rfl rfl (c_X4_shareOfAgreement x T hxb hJ9 hok9) g_no (fun h9 e1 => ?_)
  subst e1
  exact g_dret C dX4_agreement_4 rfl ⟨by decide, by decide⟩ (⟨rfl, rfl, rfl, rfl⟩)
set_option maxRecDepth 100000 in
set_option maxHeartbeats 4000000 in
theorem c_X4_digest {E : gEnv} {n : Nat} {σ : Option Nat} {h : gH} (x : Nat) (T : gTt) (hxb : gB E ≤ x ∧ x + 524 ≤ gB E + n) (hJ : isJ E h x T) (hok : okT T)  : gM E mX4_digest [.ref x] n σ h (gD (some (.long (tDig T))) n σ (fun h9 => h9 = h)) (gNo) := by
  have hok9 := hok
  have hJ9 := hJ
  obtain ⟨j1, j2, j3, j4, j5, j6⟩ := hJ
  obtain ⟨o1, o2, o3, o4, o5⟩ := hok
  unfold isJo at j1
  have j29 := j2
  obtain ⟨-, ⟨jkk, jk, jkf⟩, jK⟩ := j2
  have j2 := j29
  obtain ⟨b, jb, jbe⟩ := j5
  have ha0 := agrP_r (T.1.1 0)
  have ha1 := agrP_r (T.1.1 1)
  have ha2 := agrP_r (T.1.1 2)
  have hta : tAgN T = 0 + agrP (T.1.1 0) + agrP (T.1.1 1) + agrP (T.1.1 2) := rfl
  refine gM_of (by decide) (Nat.le_of_ble_eq_true rfl) (fun F C => ?_)
  refine g_ldc2l 3 C dX4_digest_0 ld_RX4_185 rfl ?_
  refine g_lstore_n 4 [(1, _), (0, _)] C dX4_digest_3 (by decide) rfl rfl ?_
  refine g_iconst 5 C dX4_digest_4 rfl ?_
  refine g_istore_n 6 [(3, _), (1, _), (0, _)] C dX4_digest_5 (by decide) rfl rfl ?_
  have lp6 : ∀ (k9 : Nat) (i : Nat), (i ≤ 8) → 8 - i < k9 → G E F mX4_digest (gQ E F mX4_digest n (gD (some (.long (tDig T))) n σ (fun h9 => h9 = h)) (gNo)) n σ h 0 0 6 [(3, .int (gi (i : Int))), (1, .long (fldN (tTal T) 2719 i)), (0, .ref x)] [] := by
    intro k9
    induction k9 with
    | zero => intro i hi h0; exact absurd h0 (Nat.not_lt_zero _)
    | succ k9 ih6 =>
      intro i hi hk6
      refine g_iload_n 7 C dX4_digest_6 rfl rfl ?_
      refine g_bipush 9 C dX4_digest_7 (by decide) rfl ?_
      refine g_icmp_gt 29 12 C dX4_digest_9 rfl rfl (by omega) (by omega) (fun c9 => ?_) (fun c9 => ?_)
      · skip
        have hi8 : i = 8 := by omega
        subst hi8
        refine g_iconst 30 C dX4_digest_29 rfl ?_
        refine g_istore_n 31 [(3, _), (1, _), (0, _)] C dX4_digest_30 (by decide) rfl rfl ?_
        have lp31 : ∀ (k9 : Nat) (i : Nat), (i ≤ 3) → 3 - i < k9 → G E F mX4_digest (gQ E F mX4_digest n (gD (some (.long (tDig T))) n σ (fun h9 => h9 = h)) (gNo)) n σ h 0 0 31 [(3, .int (gi (i : Int))), (1, .long (dgB T (fldN (tTal T) 2719 8) i)), (0, .ref x)] [] := by
          intro k9
          induction k9 with
          | zero => intro i hi h0; exact absurd h0 (Nat.not_lt_zero _)
          | succ k9 ih31 =>
            intro i hi hk31
            refine g_iload_n 32 C dX4_digest_31 rfl rfl ?_
            refine g_iconst 33 C dX4_digest_32 rfl ?_
            refine g_icmp_ge 56 36 C dX4_digest_33 rfl rfl (by omega) (by omega) (fun c33 => ?_) (fun c33 => ?_)
            · skip
              have hi3 : i = 3 := by omega
              subst hi3
              refine g_iconst 57 C dX4_digest_56 rfl ?_
              refine g_istore_n 58 [(3, _), (1, _), (0, _)] C dX4_digest_57 (by decide) rfl rfl ?_
              have lp58 : ∀ (k9 : Nat) (i : Nat), (i ≤ 3) → 3 - i < k9 → G E F mX4_digest (gQ E F mX4_digest n (gD (some (.long (tDig T))) n σ (fun h9 => h9 = h)) (gNo)) n σ h 0 0 58 [(3, .int (gi (i : Int))), (1, .long (dgC T (dgB T (fldN (tTal T) 2719 8) 3) i)), (0, .ref x)] [] := by
                intro k9
                induction k9 with
                | zero => intro i hi h0; exact absurd h0 (Nat.not_lt_zero _)
                | succ k9 ih58 =>
                  intro i hi hk58
                  refine g_iload_n 59 C dX4_digest_58 rfl rfl ?_
                  refine g_iconst 60 C dX4_digest_59 rfl ?_
                  refine g_icmp_ge 106 63 C dX4_digest_60 rfl rfl (by omega) (by omega) (fun c60 => ?_) (fun c60 => ?_)
                  · skip
                    have hi5 : i = 3 := by omega
                    subst hi5
                    refine g_lload_n 107 C dX4_digest_106 rfl rfl ?_
                    refine g_aload_n 108 C dX4_digest_107 rfl rfl ?_
                    refine g_V0r 111 0 0 C dX4_digest_108 rfl lk_RX4_181 gi_X4_shareOfAgreement gv_X4_shareOfAgreement ⟨_, _, rfl⟩ (by omega) j1 ⟨⟨by decide, by decide⟩, by decide, by decide⟩ (Nat.le_of_ble_eq_true rfl) rfl rfl rfl (c_X4_shareOfAgreement x T hxb hJ9 hok9) g_no (fun h9 e108 => ?_)
                    subst e108
                    refine g_S1r 114 0 0 C dX4_digest_111 rfl lk_RX4_195 gs_X4_bitsOfShare ⟨⟨by decide, by decide⟩, by decide, by decide⟩ (Nat.le_of_ble_eq_true rfl) rfl rfl rfl (c_bits (tAgN T) (by omega)) g_no (fun h9 e111 => ?_)
                    subst e111
                    refine g_S2r 117 0 0 C dX4_digest_114 rfl lk_RX4_187 gs_X4_mix ⟨⟨by decide, by decide⟩, by decide, by decide⟩ (Nat.le_of_ble_eq_true rfl) rfl rfl rfl (c_X4_mix _ (gShB (tAgN T))) g_no (fun h9 e114 => ?_)
                    subst e114
                    refine g_lstore_n 118 [(1, _), (3, _), (0, _)] C dX4_digest_117 (by decide) rfl rfl ?_
                    refine g_lload_n 119 C dX4_digest_118 rfl rfl ?_
                    refine g_aload_n 120 C dX4_digest_119 rfl rfl ?_
                    refine g_getf 123 C dX4_digest_120 fl_RX4_137 rfl (by omega) j1 rfl rfl ?_
                    refine g_i2l 124 C dX4_digest_123 rfl ?_
                    refine g_S2r 127 0 0 C dX4_digest_124 rfl lk_RX4_187 gs_X4_mix ⟨⟨by decide, by decide⟩, by decide, by decide⟩ (Nat.le_of_ble_eq_true rfl) rfl rfl rfl (c_X4_mix _ (gi (T.2.2.1 : Int)).toInt64) g_no (fun h9 e124 => ?_)
                    subst e124
                    refine g_lstore_n 128 [(1, _), (3, _), (0, _)] C dX4_digest_127 (by decide) rfl rfl ?_
                    refine g_iconst 129 C dX4_digest_128 rfl ?_
                    refine g_istore_n 130 [(3, _), (1, _), (0, _)] C dX4_digest_129 (by decide) rfl rfl ?_
                    have lp130 : ∀ (k9 : Nat) (i : Nat), (i ≤ T.2.2.1) → T.2.2.1 - i < k9 → G E F mX4_digest (gQ E F mX4_digest n (gD (some (.long (tDig T))) n σ (fun h8 => h8 = h9)) gNo) n σ h9 0 0 130 [(3, .int (gi (i : Int))), (1, .long (fldN T.2.2.2 (mxi (31 * (dgC T (dgB T (fldN (tTal T) 2719 8) 3) 3) + gShB (tAgN T)) (T.2.2.1 : Int)) i)), (0, .ref x)] [] := by
                      intro k9
                      induction k9 with
                      | zero => intro i hi h0; exact absurd h0 (Nat.not_lt_zero _)
                      | succ k9 ih130 =>
                        intro i hi hk130
                        refine g_iload_n 131 C dX4_digest_130 rfl rfl ?_
                        refine g_aload_n 132 C dX4_digest_131 rfl rfl ?_
                        refine g_getf 135 C dX4_digest_132 fl_RX4_137 rfl (by omega) j1 rfl rfl ?_
                        refine g_icmp_ge 156 138 C dX4_digest_135 rfl rfl (by omega) (by omega) (fun c135 => ?_) (fun c135 => ?_)
                        · skip
                          refine g_lload_n 157 C dX4_digest_156 rfl rfl ?_
                          exact g_lret C dX4_digest_157 rfl ⟨by decide, by decide⟩ (by rw [show i = T.2.2.1 by omega]; exact ⟨rfl, rfl, rfl, rfl⟩)
                        · skip
                          refine g_lload_n 139 C dX4_digest_138 rfl rfl ?_
                          refine g_aload_n 140 C dX4_digest_139 rfl rfl ?_
                          refine g_getf 143 C dX4_digest_140 fl_RX4_23 rfl (by omega) j1 rfl rfl ?_
                          refine g_iload_n 144 C dX4_digest_143 rfl rfl ?_
                          refine g_iald 145 C dX4_digest_144 (by omega) jb (by omega) (by decide) rfl ?_
                          rw [jbe (i : Int) (by omega) (by omega)]
                          refine g_i2l 146 C dX4_digest_145 rfl ?_
                          refine g_S2r 149 0 0 C dX4_digest_146 rfl lk_RX4_187 gs_X4_mix ⟨⟨by decide, by decide⟩, by decide, by decide⟩ (Nat.le_of_ble_eq_true rfl) rfl rfl rfl (c_X4_mix _ (gi (T.2.2.2 (i : Int))).toInt64) g_no (fun h9 e146 => ?_)
                          subst e146
                          refine g_lstore_n 150 [(1, _), (3, _), (0, _)] C dX4_digest_149 (by decide) rfl rfl ?_
                          refine g_iinc 153 [(3, _), (1, _), (0, _)] C dX4_digest_150 rfl (by decide) rfl rfl ?_
                          refine g_goto 130 C dX4_digest_153 rfl ?_
                          refine g_loc [(3, _), (1, .long (fldN T.2.2.2 (mxi (31 * (dgC T (dgB T (fldN (tTal T) 2719 8) 3) 3) + gShB (tAgN T)) (T.2.2.1 : Int)) (i + 1))), (0, _)] ⟨rfl, rfl, rfl, trivial⟩ ?_
                          exact ih130 (i + 1) (by omega) (by omega)
                    refine g_loc [(3, _), (1, _), (0, _)] ⟨rfl, rfl, rfl, trivial⟩ ?_
                    exact lp130 _ 0 (Nat.zero_le _) (Nat.lt_succ_self _)
                  · skip
                    refine g_iconst 64 C dX4_digest_63 rfl ?_
                    refine g_istore 66 [(4, _), (3, _), (1, _), (0, _)] C dX4_digest_64 (by decide) rfl rfl ?_
                    have lp66 : ∀ (k9 : Nat) (j : Nat), (j ≤ 3) → 3 - j < k9 → G E F mX4_digest (gQ E F mX4_digest n (gD (some (.long (tDig T))) n σ (fun h9 => h9 = h)) (gNo)) n σ h 0 0 66 [(4, .int (gi (j : Int))), (3, .int (gi (i : Int))), (1, .long (fldN (fun what => pOut (T.1.1 (i : Int)) 1 0 what) (dgC T (dgB T (fldN (tTal T) 2719 8) 3) i) j)), (0, .ref x)] [] := by
                      intro k9
                      induction k9 with
                      | zero => intro j hj h0; exact absurd h0 (Nat.not_lt_zero _)
                      | succ k9 ih66 =>
                        intro j hj hk66
                        refine g_iload 68 C dX4_digest_66 rfl rfl ?_
                        refine g_iconst 69 C dX4_digest_68 rfl ?_
                        refine g_icmp_gt 100 72 C dX4_digest_69 rfl rfl (by omega) (by omega) (fun c69 => ?_) (fun c69 => ?_)
                        · skip
                          refine g_iinc 103 [(3, _), (4, _), (1, _), (0, _)] C dX4_digest_100 rfl (by decide) rfl rfl ?_
                          refine g_goto 58 C dX4_digest_103 rfl ?_
                          refine g_loc [(3, _), (1, .long (dgC T (dgB T (fldN (tTal T) 2719 8) 3) (i + 1))), (0, _)] ⟨rfl, (by rw [show j = 3 by omega]; rfl), rfl, trivial⟩ ?_
                          exact ih58 (i + 1) (by omega) (by omega)
                        · skip
                          refine g_lload_n 73 C dX4_digest_72 rfl rfl ?_
                          refine g_aload_n 74 C dX4_digest_73 rfl rfl ?_
                          refine g_getf 77 C dX4_digest_74 fl_RX4_10 rfl (by omega) j1 rfl rfl ?_
                          refine g_getf 80 C dX4_digest_77 fl_RX4_41 rfl (by omega) j2.1 rfl rfl ?_
                          refine g_iload_n 81 C dX4_digest_80 rfl rfl ?_
                          refine g_aald 82 C dX4_digest_81 (by omega) jk rfl rfl (by omega) (by decide) (jkf ((i : Int)) (by omega) (by omega)) rfl ?_
                          refine g_iconst 83 C dX4_digest_82 rfl ?_
                          refine g_iconst 84 C dX4_digest_83 rfl ?_
                          refine g_iload 86 C dX4_digest_84 rfl rfl ?_
                          refine g_V3r 89 0 0 C dX4_digest_86 rfl lk_RX4_178 gi_X1_pullOutlook gv_X1_pullOutlook ⟨_, _, rfl⟩ (by omega) (jK ((i : Int)) (by omega) (by omega)).1 ⟨⟨by decide, by decide⟩, by decide, by decide⟩ (Nat.le_of_ble_eq_true rfl) rfl rfl rfl (c_X1_pullOutlook (x + 1 + 2 + 21 * ((i : Nat) : Int).toNat) (T.1.1 (i : Int)) 1 0 (j : Int) (by omega) (jK (i : Int) (by omega) (by omega)) (o1 (i : Int) (by omega) (by omega)) (by omega) (by omega) (by omega)) g_no (fun h9 e86 => ?_)
                          subst e86
                          refine g_i2l 90 C dX4_digest_89 rfl ?_
                          refine g_S2r 93 0 0 C dX4_digest_90 rfl lk_RX4_187 gs_X4_mix ⟨⟨by decide, by decide⟩, by decide, by decide⟩ (Nat.le_of_ble_eq_true rfl) rfl rfl rfl (c_X4_mix _ (gi (pOut (T.1.1 (i : Int)) 1 0 (j : Int))).toInt64) g_no (fun h9 e90 => ?_)
                          subst e90
                          refine g_lstore_n 94 [(1, _), (4, _), (3, _), (0, _)] C dX4_digest_93 (by decide) rfl rfl ?_
                          refine g_iinc 97 [(4, _), (1, _), (3, _), (0, _)] C dX4_digest_94 rfl (by decide) rfl rfl ?_
                          refine g_goto 66 C dX4_digest_97 rfl ?_
                          refine g_loc [(4, _), (3, _), (1, .long (fldN (fun what => pOut (T.1.1 (i : Int)) 1 0 what) (dgC T (dgB T (fldN (tTal T) 2719 8) 3) i) (j + 1))), (0, _)] ⟨rfl, rfl, rfl, rfl, trivial⟩ ?_
                          exact ih66 (j + 1) (by omega) (by omega)
                    refine g_loc [(4, _), (3, _), (1, _), (0, _)] ⟨rfl, rfl, rfl, rfl, trivial⟩ ?_
                    exact lp66 _ 0 (Nat.zero_le _) (Nat.lt_succ_self _)
              refine g_loc [(3, _), (1, _), (0, _)] ⟨rfl, rfl, rfl, trivial⟩ ?_
              exact lp58 _ 0 (Nat.zero_le _) (Nat.lt_succ_self _)
            · skip
              refine g_lload_n 37 C dX4_digest_36 rfl rfl ?_
              refine g_aload_n 38 C dX4_digest_37 rfl rfl ?_
              refine g_getf 41 C dX4_digest_38 fl_RX4_10 rfl (by omega) j1 rfl rfl ?_
              refine g_getf 44 C dX4_digest_41 fl_RX4_41 rfl (by omega) j2.1 rfl rfl ?_
              refine g_iload_n 45 C dX4_digest_44 rfl rfl ?_
              refine g_aald 46 C dX4_digest_45 (by omega) jk rfl rfl (by omega) (by decide) (jkf ((i : Int)) (by omega) (by omega)) rfl ?_
              refine g_S2r 49 0 0 C dX4_digest_46 rfl lk_RX4_191 gs_X4_mixKey ⟨⟨by decide, by decide⟩, by decide, by decide⟩ (Nat.le_of_ble_eq_true rfl) rfl rfl rfl (c_X4_mixKey _ (x + 1 + 2 + 21 * ((i : Nat) : Int).toNat) (T.1.1 (i : Int)) (by omega) (jK (i : Int) (by omega) (by omega)) (o1 (i : Int) (by omega) (by omega))) g_no (fun h9 e46 => ?_)
              subst e46
              refine g_lstore_n 50 [(1, _), (3, _), (0, _)] C dX4_digest_49 (by decide) rfl rfl ?_
              refine g_iinc 53 [(3, _), (1, _), (0, _)] C dX4_digest_50 rfl (by decide) rfl rfl ?_
              refine g_goto 31 C dX4_digest_53 rfl ?_
              refine g_loc [(3, _), (1, .long (dgB T (fldN (tTal T) 2719 8) (i + 1))), (0, _)] ⟨rfl, rfl, rfl, trivial⟩ ?_
              exact ih31 (i + 1) (by omega) (by omega)
        refine g_loc [(3, _), (1, _), (0, _)] ⟨rfl, rfl, rfl, trivial⟩ ?_
        exact lp31 _ 0 (Nat.zero_le _) (Nat.lt_succ_self _)
      · skip
        refine g_lload_n 13 C dX4_digest_12 rfl rfl ?_
        refine g_aload_n 14 C dX4_digest_13 rfl rfl ?_
        refine g_iload_n 15 C dX4_digest_14 rfl rfl ?_
        refine g_V1r 18 0 0 C dX4_digest_15 rfl lk_RX4_172 gi_X4_tally gv_X4_tally ⟨_, _, rfl⟩ (by omega) j1 ⟨⟨by decide, by decide⟩, by decide, by decide⟩ (Nat.le_of_ble_eq_true rfl) rfl rfl rfl (c_X4_tally x T (i : Int) hxb hJ9 hok9 (by omega)) g_no (fun h9 e15 => ?_)
        subst e15
        refine g_i2l 19 C dX4_digest_18 rfl ?_
        refine g_S2r 22 0 0 C dX4_digest_19 rfl lk_RX4_187 gs_X4_mix ⟨⟨by decide, by decide⟩, by decide, by decide⟩ (Nat.le_of_ble_eq_true rfl) rfl rfl rfl (c_X4_mix _ (gi (tTal T (i : Int))).toInt64) g_no (fun h9 e19 => ?_)
        subst e19
        refine g_lstore_n 23 [(1, _), (3, _), (0, _)] C dX4_digest_22 (by decide) rfl rfl ?_
        refine g_iinc 26 [(3, _), (1, _), (0, _)] C dX4_digest_23 rfl (by decide) rfl rfl ?_
        refine g_goto 6 C dX4_digest_26 rfl ?_
        refine g_loc [(3, _), (1, .long (fldN (tTal T) 2719 (i + 1))), (0, _)] ⟨rfl, rfl, rfl, trivial⟩ ?_
        exact ih6 (i + 1) (by omega) (by omega)
  refine g_loc [(3, _), (1, _), (0, _)] ⟨rfl, rfl, rfl, trivial⟩ ?_
  exact lp6 _ 0 (Nat.zero_le _) (Nat.lt_succ_self _)
