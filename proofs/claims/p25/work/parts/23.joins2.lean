/-! SiblingJoins: save, the numbers of the whole -/
set_option maxRecDepth 100000 in
set_option maxHeartbeats 4000000 in
theorem c_X4_save {E : gEnv} {n : Nat} {σ : Option Nat} {h : gH} (x : Nat) (T : gTt) (hxb : gB E ≤ x ∧ x + 524 ≤ gB E + n) (hJ : isJ E h x T) (hok : okT T)  : gM E mX4_save [.ref x] n none h (gD none n none (fun h9 => isJ E h9 x (tSave T) ∧ gKp x (x + 524) h h9 ∧ ∀ q : Nat, x + 1 ≤ q → q < x + 131 → h9 q = h q)) (gNo) := by
  have hok9 := hok
  have hJ9 := hJ
  obtain ⟨j1, j2, j3, j4, j5, j6⟩ := hJ
  obtain ⟨o1, o2, o3, o4, o5⟩ := hok
  unfold isJo at j1
  refine gM_of (by decide) (Nat.le_of_ble_eq_true rfl) (fun F C => ?_)
  refine g_aload_n 1 C dX4_save_0 rfl rfl ?_
  refine g_getf 4 C dX4_save_1 fl_RX4_154 rfl (by omega) j1 rfl rfl ?_
  refine g_bipush 6 C dX4_save_4 (by decide) rfl ?_
  refine g_icmp_ne 13 9 C dX4_save_6 rfl rfl (by omega) (by omega) (fun c6 => ?_) (fun c6 => ?_)
  · skip
    have hd : tDrop T.2.1 = T.2.1 := if_neg (by omega)
    have hJ2 : isJ E h x (T.1, tDrop T.2.1, T.2.2) := by rw [hd]; exact hJ9
    have hk2 : gKp x (x + 524) h h := gKp_rf
    have hkt : ∀ q : Nat, x + 1 ≤ q → q < x + 131 → h q = h q := fun _ _ _ => rfl
    have hlt : (tDrop T.2.1).1 ≤ 5 := by rw [hd]; omega
    obtain ⟨j1, j2, j3, j4, j5, j6⟩ := hJ2
    try dsimp only at j1 j2 j4 j5
    unfold isJo at j1
    obtain ⟨f, g, jf, jg, jp, jS⟩ := j4
    have gbc := jp.1 ((tDrop T.2.1).1 : Int) (by omega) (by omega)
    obtain ⟨Sc, hSc, hoc, -⟩ := jS ((tDrop T.2.1).1 : Int) (by omega) (by omega)
    refine g_aload_n 14 C dX4_save_13 rfl rfl ?_
    refine g_getf 17 C dX4_save_14 fl_RX4_19 rfl (by omega) j1 rfl rfl ?_
    refine g_aload_n 18 C dX4_save_17 rfl rfl ?_
    refine g_getf 21 C dX4_save_18 fl_RX4_154 rfl (by omega) j1 rfl rfl ?_
    refine g_aald 22 C dX4_save_21 (by omega) jf rfl rfl (by omega) (by decide) (jg (((tDrop T.2.1).1 : Int)) (by omega) (by omega)) rfl ?_
    refine g_aload_n 23 C dX4_save_22 rfl rfl ?_
    refine g_getf 26 C dX4_save_23 fl_RX4_10 rfl (by omega) j1 rfl rfl ?_
    refine g_V1v 29 0 0 C dX4_save_26 rfl lk_RX4_121 gi_X3_become gv_X3_become ⟨_, _, rfl⟩ (by omega) hSc.1 ⟨⟨by decide, by decide⟩, by decide, by decide⟩ (Nat.le_of_ble_eq_true rfl) rfl rfl rfl (c_X3_become (σ := none) (g ((tDrop T.2.1).1 : Int)) (x + 1) Sc T.1 (by omega) (by omega) (by omega) hSc hoc j2 o1) g_no (fun h3 e26 => ?_)
    obtain ⟨hS3, hk3⟩ := e26
    have k3 := (hk3 x (by omega)).trans j1
    refine g_aload_n 30 C dX4_save_29 rfl rfl ?_
    refine g_dup 31 C dX4_save_30 rfl rfl ?_
    refine g_getf 34 C dX4_save_31 fl_RX4_154 rfl (by omega) k3 rfl rfl ?_
    refine g_iconst 35 C dX4_save_34 rfl ?_
    refine g_iadd 36 C dX4_save_35 rfl ?_
    refine g_putf 39 C dX4_save_36 fp_RX4_154 rfl (by omega) k3 rfl rfl (Nat.le_of_ble_eq_true rfl) rfl ?_
    exact g_vret C dX4_save_39 rfl ⟨by decide, by decide⟩ (by
        refine ⟨rfl, rfl, rfl, ⟨up_s, ?_, ?_, ?_, ?_, ?_⟩, gKp_tr hk2 (gKp_tr (gKp_wd hk3 (by omega) (by omega)) (gKp_up (by omega))), fun q q1 q2 => (up_n (by omega)).trans ((hk3 q (by omega)).trans (hkt q q1 q2))⟩
        · exact j2.kept (fun q q1 q2 => (up_n (by omega)).trans (hk3 q (by omega)))
        · obtain ⟨S9, s1, s2⟩ := j3
          exact ⟨S9, s1.kept (fun q q1 q2 => (up_n (by omega)).trans (hk3 q (by omega))), s2⟩
        · refine ⟨f, g, ((up_n (by omega)).trans (hk3 _ (by omega))).trans jf, jg, jp, fun i i0 i6 => ?_⟩
          have gbi := jp.1 i i0 i6
          by_cases e : i = ((tDrop T.2.1).1 : Int)
          · subst e
            refine ⟨T.1, hS3.kept (fun q q1 q2 => up_n (by omega)), o1, fun _ => ?_⟩
            show T.1 = gup _ _ _ _
            rw [gup_at]
          · obtain ⟨S9, s1, s2, s3⟩ := jS i i0 i6
            have gbd := jp.2 i ((tDrop T.2.1).1 : Int) i0 i6 (by omega) (by omega) e
            refine ⟨S9, s1.kept (fun q q1 q2 => (up_n (by omega)).trans (hk3 q (by omega))), s2, fun hi => ?_⟩
            have hi : i < (((tDrop T.2.1).1 + 1 : Nat) : Int) := hi
            show S9 = gup _ _ _ _
            rw [gup_ne e]
            exact s3 (by omega)
        · exact j5.kept ((up_n (by omega)).trans (hk3 _ (by omega)))
        · exact j6.kept ((up_n (by omega)).trans (hk3 _ (by omega))))
  · skip
    refine g_aload_n 10 C dX4_save_9 rfl rfl ?_
    refine g_V0v 13 0 0 C dX4_save_10 rfl lk_RX4_208 gi_X4_dropOldest gv_X4_dropOldest ⟨_, _, rfl⟩ (by omega) j1 ⟨⟨by decide, by decide⟩, by decide, by decide⟩ (Nat.le_of_ble_eq_true rfl) rfl rfl rfl (c_X4_dropOldest x T hxb hJ9 hok9 (by omega)) g_no (fun h2 e10 => ?_)
    obtain ⟨hJ2, hk2, hkt⟩ := e10
    have hd : tDrop T.2.1 = (5, fun i => T.2.1.2 (i + 1)) := if_pos (by omega)
    rw [← hd] at hJ2
    have hlt : (tDrop T.2.1).1 ≤ 5 := by rw [hd]; exact Nat.le_refl _
    obtain ⟨j1, j2, j3, j4, j5, j6⟩ := hJ2
    try dsimp only at j1 j2 j4 j5
    unfold isJo at j1
    obtain ⟨f, g, jf, jg, jp, jS⟩ := j4
    have gbc := jp.1 ((tDrop T.2.1).1 : Int) (by omega) (by omega)
    obtain ⟨Sc, hSc, hoc, -⟩ := jS ((tDrop T.2.1).1 : Int) (by omega) (by omega)
    refine g_aload_n 14 C dX4_save_13 rfl rfl ?_
    refine g_getf 17 C dX4_save_14 fl_RX4_19 rfl (by omega) j1 rfl rfl ?_
    refine g_aload_n 18 C dX4_save_17 rfl rfl ?_
    refine g_getf 21 C dX4_save_18 fl_RX4_154 rfl (by omega) j1 rfl rfl ?_
    refine g_aald 22 C dX4_save_21 (by omega) jf rfl rfl (by omega) (by decide) (jg (((tDrop T.2.1).1 : Int)) (by omega) (by omega)) rfl ?_
    refine g_aload_n 23 C dX4_save_22 rfl rfl ?_
    refine g_getf 26 C dX4_save_23 fl_RX4_10 rfl (by omega) j1 rfl rfl ?_
    refine g_V1v 29 0 0 C dX4_save_26 rfl lk_RX4_121 gi_X3_become gv_X3_become ⟨_, _, rfl⟩ (by omega) hSc.1 ⟨⟨by decide, by decide⟩, by decide, by decide⟩ (Nat.le_of_ble_eq_true rfl) rfl rfl rfl (c_X3_become (σ := none) (g ((tDrop T.2.1).1 : Int)) (x + 1) Sc T.1 (by omega) (by omega) (by omega) hSc hoc j2 o1) g_no (fun h3 e26 => ?_)
    obtain ⟨hS3, hk3⟩ := e26
    have k3 := (hk3 x (by omega)).trans j1
    refine g_aload_n 30 C dX4_save_29 rfl rfl ?_
    refine g_dup 31 C dX4_save_30 rfl rfl ?_
    refine g_getf 34 C dX4_save_31 fl_RX4_154 rfl (by omega) k3 rfl rfl ?_
    refine g_iconst 35 C dX4_save_34 rfl ?_
    refine g_iadd 36 C dX4_save_35 rfl ?_
    refine g_putf 39 C dX4_save_36 fp_RX4_154 rfl (by omega) k3 rfl rfl (Nat.le_of_ble_eq_true rfl) rfl ?_
    exact g_vret C dX4_save_39 rfl ⟨by decide, by decide⟩ (by
        refine ⟨rfl, rfl, rfl, ⟨up_s, ?_, ?_, ?_, ?_, ?_⟩, gKp_tr hk2 (gKp_tr (gKp_wd hk3 (by omega) (by omega)) (gKp_up (by omega))), fun q q1 q2 => (up_n (by omega)).trans ((hk3 q (by omega)).trans (hkt q q1 q2))⟩
        · exact j2.kept (fun q q1 q2 => (up_n (by omega)).trans (hk3 q (by omega)))
        · obtain ⟨S9, s1, s2⟩ := j3
          exact ⟨S9, s1.kept (fun q q1 q2 => (up_n (by omega)).trans (hk3 q (by omega))), s2⟩
        · refine ⟨f, g, ((up_n (by omega)).trans (hk3 _ (by omega))).trans jf, jg, jp, fun i i0 i6 => ?_⟩
          have gbi := jp.1 i i0 i6
          by_cases e : i = ((tDrop T.2.1).1 : Int)
          · subst e
            refine ⟨T.1, hS3.kept (fun q q1 q2 => up_n (by omega)), o1, fun _ => ?_⟩
            show T.1 = gup _ _ _ _
            rw [gup_at]
          · obtain ⟨S9, s1, s2, s3⟩ := jS i i0 i6
            have gbd := jp.2 i ((tDrop T.2.1).1 : Int) i0 i6 (by omega) (by omega) e
            refine ⟨S9, s1.kept (fun q q1 q2 => (up_n (by omega)).trans (hk3 q (by omega))), s2, fun hi => ?_⟩
            have hi : i < (((tDrop T.2.1).1 + 1 : Nat) : Int) := hi
            show S9 = gup _ _ _ _
            rw [gup_ne e]
            exact s3 (by omega)
        · exact j5.kept ((up_n (by omega)).trans (hk3 _ (by omega)))
        · exact j6.kept ((up_n (by omega)).trans (hk3 _ (by omega))))
def tTal (T : gTt) (what : Int) : Int := if what = 0 then sAll T.1 else if what = 1 then sMst T.1 3 else if what = 7 then (T.2.1.1 : Int) else T.1.2 (what - 1)
def tAgr (T : gTt) : Int := agrP (T.1.1 0) + agrP (T.1.1 1) + agrP (T.1.1 2)
set_option maxRecDepth 100000 in
set_option maxHeartbeats 4000000 in
theorem c_X4_tally {E : gEnv} {n : Nat} {σ : Option Nat} {h : gH} (x : Nat) (T : gTt) (what : Int) (hxb : gB E ≤ x ∧ x + 524 ≤ gB E + n) (hJ : isJ E h x T) (hok : okT T) (hwh : 0 ≤ what ∧ what ≤ 7)  : gM E mX4_tally [.ref x, .int (gi what)] n σ h (gD (some (.int (gi (tTal T what)))) n σ (fun h9 => h9 = h)) (gNo) := by
  have hJ9 := hJ
  obtain ⟨j1, j2, j3, j4, j5, j6⟩ := hJ
  obtain ⟨o1, o2, o3, o4, o5⟩ := hok
  unfold isJo at j1
  have j29 := j2
  obtain ⟨-, ⟨jkk, jk, jkf⟩, jK⟩ := j2
  have j2 := j29
  refine gM_of (by decide) (Nat.le_of_ble_eq_true rfl) (fun F C => ?_)
  refine g_iload_n 1 C dX4_tally_0 rfl rfl ?_
  skip
  by_cases z1_0 : what = 0
  · skip
    refine g_table 44 C dX4_tally_1 (by omega) (by omega) (by omega) (off := 43) (by rw [z1_0]; rfl) rfl ?_
    refine g_aload_n 45 C dX4_tally_44 rfl rfl ?_
    refine g_getf 48 C dX4_tally_45 fl_RX4_10 rfl (by omega) j1 rfl rfl ?_
    refine g_V0r 51 0 0 C dX4_tally_48 rfl lk_RX4_237 gi_X3_siblingsInAll gv_X3_siblingsInAll ⟨_, _, rfl⟩ (by omega) j2.1 ⟨⟨by decide, by decide⟩, by decide, by decide⟩ (Nat.le_of_ble_eq_true rfl) rfl rfl rfl (c_X3_siblingsInAll (x + 1) T.1 (by omega) j2 o1) g_no (fun h9 e48 => ?_)
    subst e48
    exact g_iret C dX4_tally_51 rfl ⟨by decide, by decide⟩ (by rw [show tTal T what = sAll T.1 from if_pos z1_0]; exact ⟨rfl, rfl, rfl, rfl⟩)
  by_cases z1_1 : what = 1
  · skip
    refine g_table 52 C dX4_tally_1 (by omega) (by omega) (by omega) (off := 51) (by rw [z1_1]; rfl) rfl ?_
    refine g_aload_n 53 C dX4_tally_52 rfl rfl ?_
    refine g_getf 56 C dX4_tally_53 fl_RX4_10 rfl (by omega) j1 rfl rfl ?_
    refine g_V0r 59 0 0 C dX4_tally_56 rfl lk_RX4_240 gi_X3_mostSiblings gv_X3_mostSiblings ⟨_, _, rfl⟩ (by omega) j2.1 ⟨⟨by decide, by decide⟩, by decide, by decide⟩ (Nat.le_of_ble_eq_true rfl) rfl rfl rfl (c_X3_mostSiblings (x + 1) T.1 (by omega) j2 o1) g_no (fun h9 e56 => ?_)
    subst e56
    exact g_iret C dX4_tally_59 rfl ⟨by decide, by decide⟩ (by rw [show tTal T what = sMst T.1 3 by unfold tTal; rw [if_neg z1_0, if_pos z1_1]]; exact ⟨rfl, rfl, rfl, rfl⟩)
  by_cases z1_2 : what = 2
  · skip
    refine g_table 60 C dX4_tally_1 (by omega) (by omega) (by omega) (off := 59) (by rw [z1_2]; rfl) rfl ?_
    refine g_aload_n 61 C dX4_tally_60 rfl rfl ?_
    refine g_getf 64 C dX4_tally_61 fl_RX4_10 rfl (by omega) j1 rfl rfl ?_
    refine g_getf 67 C dX4_tally_64 fl_RX4_243 rfl (by omega) j2.1 rfl rfl ?_
    exact g_iret C dX4_tally_67 rfl ⟨by decide, by decide⟩ (by rw [show tTal T what = T.1.2 1 by unfold tTal; rw [if_neg (show ¬ what = 0 by omega), if_neg (show ¬ what = 1 by omega), if_neg (show ¬ what = 7 by omega), show what - 1 = 1 by omega]]; exact ⟨rfl, rfl, rfl, rfl⟩)
  by_cases z1_3 : what = 3
  · skip
    refine g_table 68 C dX4_tally_1 (by omega) (by omega) (by omega) (off := 67) (by rw [z1_3]; rfl) rfl ?_
    refine g_aload_n 69 C dX4_tally_68 rfl rfl ?_
    refine g_getf 72 C dX4_tally_69 fl_RX4_10 rfl (by omega) j1 rfl rfl ?_
    refine g_getf 75 C dX4_tally_72 fl_RX4_246 rfl (by omega) j2.1 rfl rfl ?_
    exact g_iret C dX4_tally_75 rfl ⟨by decide, by decide⟩ (by rw [show tTal T what = T.1.2 2 by unfold tTal; rw [if_neg (show ¬ what = 0 by omega), if_neg (show ¬ what = 1 by omega), if_neg (show ¬ what = 7 by omega), show what - 1 = 2 by omega]]; exact ⟨rfl, rfl, rfl, rfl⟩)
  by_cases z1_4 : what = 4
  · skip
    refine g_table 76 C dX4_tally_1 (by omega) (by omega) (by omega) (off := 75) (by rw [z1_4]; rfl) rfl ?_
    refine g_aload_n 77 C dX4_tally_76 rfl rfl ?_
    refine g_getf 80 C dX4_tally_77 fl_RX4_10 rfl (by omega) j1 rfl rfl ?_
    refine g_getf 83 C dX4_tally_80 fl_RX4_129 rfl (by omega) j2.1 rfl rfl ?_
    exact g_iret C dX4_tally_83 rfl ⟨by decide, by decide⟩ (by rw [show tTal T what = T.1.2 3 by unfold tTal; rw [if_neg (show ¬ what = 0 by omega), if_neg (show ¬ what = 1 by omega), if_neg (show ¬ what = 7 by omega), show what - 1 = 3 by omega]]; exact ⟨rfl, rfl, rfl, rfl⟩)
  by_cases z1_5 : what = 5
  · skip
    refine g_table 84 C dX4_tally_1 (by omega) (by omega) (by omega) (off := 83) (by rw [z1_5]; rfl) rfl ?_
    refine g_aload_n 85 C dX4_tally_84 rfl rfl ?_
    refine g_getf 88 C dX4_tally_85 fl_RX4_10 rfl (by omega) j1 rfl rfl ?_
    refine g_getf 91 C dX4_tally_88 fl_RX4_100 rfl (by omega) j2.1 rfl rfl ?_
    exact g_iret C dX4_tally_91 rfl ⟨by decide, by decide⟩ (by rw [show tTal T what = T.1.2 4 by unfold tTal; rw [if_neg (show ¬ what = 0 by omega), if_neg (show ¬ what = 1 by omega), if_neg (show ¬ what = 7 by omega), show what - 1 = 4 by omega]]; exact ⟨rfl, rfl, rfl, rfl⟩)
  by_cases z1_6 : what = 6
  · skip
    refine g_table 92 C dX4_tally_1 (by omega) (by omega) (by omega) (off := 91) (by rw [z1_6]; rfl) rfl ?_
    refine g_aload_n 93 C dX4_tally_92 rfl rfl ?_
    refine g_getf 96 C dX4_tally_93 fl_RX4_10 rfl (by omega) j1 rfl rfl ?_
    refine g_getf 99 C dX4_tally_96 fl_RX4_118 rfl (by omega) j2.1 rfl rfl ?_
    exact g_iret C dX4_tally_99 rfl ⟨by decide, by decide⟩ (by rw [show tTal T what = T.1.2 5 by unfold tTal; rw [if_neg (show ¬ what = 0 by omega), if_neg (show ¬ what = 1 by omega), if_neg (show ¬ what = 7 by omega), show what - 1 = 5 by omega]]; exact ⟨rfl, rfl, rfl, rfl⟩)
  refine g_tableD 100 C dX4_tally_1 (by omega) (by omega) rfl ?_
  refine g_aload_n 101 C dX4_tally_100 rfl rfl ?_
  refine g_getf 104 C dX4_tally_101 fl_RX4_154 rfl (by omega) j1 rfl rfl ?_
  exact g_iret C dX4_tally_104 rfl ⟨by decide, by decide⟩ (by rw [show tTal T what = (T.2.1.1 : Int) by unfold tTal; rw [if_neg (show ¬ what = 0 by omega), if_neg (show ¬ what = 1 by omega), if_pos (show what = 7 by omega)]]; exact ⟨rfl, rfl, rfl, rfl⟩)
