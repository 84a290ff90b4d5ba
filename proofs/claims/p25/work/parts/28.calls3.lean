/-! SiblingJoins: the public calls, continued -/
set_option maxRecDepth 100000 in
set_option maxHeartbeats 4000000 in
theorem c_X4_join {E : gEnv} {n : Nat} {σ : Option Nat} {h : gH} (x : Nat) (T : gTt) (w k s rule : Int) (hl : E.1.stackTraces = false) (hxb : gB E ≤ x ∧ x + 524 ≤ gB E + n) (hJ : isJ E h x T) (hok : okT T) (hwr : -2147483648 ≤ w ∧ w < 2147483648) (hkr : -2147483648 ≤ k ∧ k < 2147483648) (hsr : -2147483648 ≤ s ∧ s < 2147483648) (hruler : -2147483648 ≤ rule ∧ rule < 2147483648) : gM E mX4_join [.ref x, .int (gi w), .int (gi k), .int (gi s), .int (gi rule)] n none h (gRT E h x n (oJoin T w k s rule)) (gXT E h x (exc xIO xIA xIS) (oJoin T w k s rule)) := by
  have hok9 := hok
  have hJ9 := hJ
  obtain ⟨j1, j2, j3, j4, j5, j6⟩ := hJ
  obtain ⟨o1, o2, o3, o4, o5⟩ := hok
  unfold isJo at j1
  have j29 := j2
  obtain ⟨-, ⟨jkk, jk, jkf⟩, jK⟩ := j2
  have j2 := j29
  refine gM_of (by decide) (Nat.le_of_ble_eq_true rfl) (fun F C => ?_)
  refine g_iload_n 1 C dX4_join_0 rfl rfl ?_
  refine g_iload_n 2 C dX4_join_1 rfl rfl ?_
  refine g_iload_n 3 C dX4_join_2 rfl rfl ?_
  refine g_S3v 6 3 18 C dX4_join_3 rfl lk_RX4_34 gs_X4_checkWriterKeyStore ⟨⟨by decide, by decide⟩, by decide, by decide⟩ (Nat.le_of_ble_eq_true rfl) rfl rfl rfl (c_X4_checkWriterKeyStore w k s hl hwr hkr hsr) (g_thr (n0 := 0) (fun X h9 z9 => thr_ok 1 hJ9 (show oJoin T w k s rule = (1, 0, T) by unfold oJoin; exact if_neg z9.2.2) (z9.1.trans (by first | rfl | decide)) (by decide) z9.2.1)) (fun h9 e3 => ?_)
  obtain ⟨e3, hv3⟩ := e3
  subst e3
  refine g_iload 8 C dX4_join_6 rfl rfl ?_
  refine g_iconst 9 C dX4_join_8 rfl ?_
  refine g_S2v 12 4 24 C dX4_join_9 rfl lk_RX4_61 gs_X4_checkUpTo ⟨⟨by decide, by decide⟩, by decide, by decide⟩ (Nat.le_of_ble_eq_true rfl) rfl rfl rfl (c_X4_checkUpTo rule 3 hl hruler (by decide)) (g_thr (n0 := 0) (fun X h9 z9 => thr_ok 2 hJ9 (show oJoin T w k s rule = (2, 0, T) by unfold oJoin; rw [if_pos hv3]; exact if_neg z9.2.2) (z9.1.trans (by first | rfl | decide)) (by decide) z9.2.1)) (fun h9 e9 => ?_)
  obtain ⟨e9, hv9⟩ := e9
  subst e9
  refine g_aload_n 13 C dX4_join_12 rfl rfl ?_
  refine g_getf 16 C dX4_join_13 fl_RX4_10 rfl (by omega) j1 rfl rfl ?_
  refine g_getf 19 C dX4_join_16 fl_RX4_41 rfl (by omega) j2.1 rfl rfl ?_
  refine g_iload_n 20 C dX4_join_19 rfl rfl ?_
  refine g_aald 21 C dX4_join_20 (by omega) jk rfl rfl (by omega) (by decide) (jkf (k) (by omega) (by omega)) rfl ?_
  have hKk := jK k (by omega) (by omega)
  have hoK := o1 k (by omega) (by omega)
  obtain ⟨oW, oN, oV, oL⟩ := id hoK
  obtain ⟨k1, ⟨kc, k2, kfc⟩, ⟨kn, k3, kfk⟩, k4, k5, k6⟩ := id hKk
  try dsimp only at k4 k5 k6
  have hcs := k6 s (by omega) (by omega)
  have hls : isC E _ ((x + 1 + 2 + 21 * (k).toNat) + 9 + 4 * (s).toNat) ((T.1.1 k).2.2.1 s) ((T.1.1 k).2.2.2 s) := hcs
  have hlen := (oL s (by omega) (by omega)).1
  have hsl : sLen T.1 k s = (((T.1.1 k).2.2.2 s).length : Int) := rfl
  have hWw := oW w (by omega) (by omega)
  refine g_astore 23 [(5, _), (0, _), (1, _), (2, _), (3, _), (4, _)] C dX4_join_21 (by decide) rfl rfl ?_
  refine g_aload 25 C dX4_join_23 rfl rfl ?_
  refine g_getf 28 C dX4_join_25 fl_RX4_51 rfl (by omega) k1 rfl rfl ?_
  refine g_iload_n 29 C dX4_join_28 rfl rfl ?_
  refine g_aald 30 C dX4_join_29 (by omega) k2 rfl rfl (by omega) (by decide) (kfc (s) (by omega) (by omega)) rfl ?_
  refine g_getf 33 C dX4_join_30 fl_RX4_55 rfl (by omega) (isC.h0 hls) rfl rfl ?_
  refine g_if_eq 49 36 C dX4_join_33 rfl rfl (by omega) (fun c33 => ?_) (fun c33 => ?_)
  · skip
    have hno : sLen T.1 k s = 0 ∨ 999 ≤ (T.1.1 k).1 w := Or.inl (by rw [hsl]; omega)
    exact g_throw C hl rfl gth_s (i := 12) rfl dX4_join_49 dX4_join_52 dX4_join_53 dX4_join_55 dX4_join_58 (by decide) (Nat.le_of_ble_eq_true rfl) (by decide) (by decide) (thr_ok 3 hJ9 (by unfold oJoin; rw [if_pos hv3, if_pos hv9]; exact if_pos hno) (by first | rfl | decide) (by decide) rfl)
  · skip
    refine g_aload 38 C dX4_join_36 rfl rfl ?_
    refine g_getf 41 C dX4_join_38 fl_RX4_91 rfl (by omega) k1 rfl rfl ?_
    refine g_iload_n 42 C dX4_join_41 rfl rfl ?_
    refine g_iald 43 C dX4_join_42 (by omega) k5 (by omega) (by decide) rfl ?_
    refine g_sipush 46 C dX4_join_43 (by decide) rfl ?_
    refine g_icmp_lt 59 49 C dX4_join_46 rfl rfl (by omega) (by omega) (fun c46 => ?_) (fun c46 => ?_)
    · skip
      have hyes : ¬ (sLen T.1 k s = 0 ∨ 999 ≤ (T.1.1 k).1 w) := by rw [hsl]; omega
      refine g_aload_n 60 C dX4_join_59 rfl rfl ?_
      refine g_V0v 63 4 24 C dX4_join_60 rfl lk_RX4_38 gi_X4_save gv_X4_save ⟨_, _, rfl⟩ (by omega) j1 ⟨⟨by decide, by decide⟩, by decide, by decide⟩ (Nat.le_of_ble_eq_true rfl) rfl rfl rfl (c_X4_save (σ := none) x T hxb hJ9 hok9) g_no (fun h2 e60 => ?_)
      obtain ⟨hJ2, hk2, hkt⟩ := e60
      obtain ⟨j1, j2, j3, j4, j5, j6⟩ := id hJ2
      have j2 : isS E h2 (x + 1) T.1 := j2
      unfold isJo at j1
      obtain ⟨-, ⟨jkk, jk, jkf⟩, jK⟩ := id j2
      have hKk := jK k (by omega) (by omega)
      have hoK := o1 k (by omega) (by omega)
      obtain ⟨oW, oN, oV, oL⟩ := id hoK
      obtain ⟨k1, ⟨kc, k2, kfc⟩, ⟨kn, k3, kfk⟩, k4, k5, k6⟩ := id hKk
      try dsimp only at k4 k5 k6
      have hcs := k6 s (by omega) (by omega)
      have hls : isC E h2 ((x + 1 + 2 + 21 * (k).toNat) + 9 + 4 * (s).toNat) ((T.1.1 k).2.2.1 s) ((T.1.1 k).2.2.2 s) := hcs
      obtain ⟨x0, hx0⟩ : ∃ x0, ((T.1.1 k).2.2.2 s)[0]? = some x0 := by
        cases e : ((T.1.1 k).2.2.2 s)[0]? with
        | none => exact absurd (List.getElem?_eq_none_iff.mp e) (by omega)
        | some y => exact ⟨y, rfl⟩
      have hjv : jval rule x0.2 ((T.1.1 k).2.2.2 s) = jVal (T.1.1 k) s rule := by unfold jVal jv0; rw [hx0]; rfl
      refine g_aload 65 C dX4_join_63 rfl rfl ?_
      refine g_getf 68 C dX4_join_65 fl_RX4_51 rfl (by omega) k1 rfl rfl ?_
      refine g_iload_n 69 C dX4_join_68 rfl rfl ?_
      refine g_aald 70 C dX4_join_69 (by omega) k2 rfl rfl (by omega) (by decide) (kfc (s) (by omega) (by omega)) rfl ?_
      refine g_iload 72 C dX4_join_70 rfl rfl ?_
      refine g_V1r 75 4 24 C dX4_join_72 rfl lk_RX4_96 gi_X0_valueBy gv_X0_valueBy ⟨_, _, rfl⟩ (by omega) (isC.h0 hls) ⟨⟨by decide, by decide⟩, by decide, by decide⟩ (Nat.le_of_ble_eq_true rfl) rfl rfl rfl (c_X0_valueBy ((x + 1 + 2 + 21 * (k).toNat) + 9 + 4 * (s).toNat) ((T.1.1 k).2.2.1 s) ((T.1.1 k).2.2.2 s) rule x0 (by omega) hls (oL s (by omega) (by omega)) hv9 hx0) g_no (fun h9 e72 => ?_)
      subst e72
      rw [hjv]
      refine g_istore 77 [(6, _), (5, _), (0, _), (1, _), (2, _), (3, _), (4, _)] C dX4_join_75 (by decide) rfl rfl ?_
      refine g_aload 79 C dX4_join_77 rfl rfl ?_
      refine g_iload_n 80 C dX4_join_79 rfl rfl ?_
      refine g_iload_n 81 C dX4_join_80 rfl rfl ?_
      refine g_V2v 84 4 24 C dX4_join_81 rfl lk_RX4_45 gi_X1_learn gv_X1_learn ⟨_, _, rfl⟩ (by omega) k1 ⟨⟨by decide, by decide⟩, by decide, by decide⟩ (Nat.le_of_ble_eq_true rfl) rfl rfl rfl (c_X1_learn (x + 1 + 2 + 21 * (k).toNat) (T.1.1 k) w s (by omega) hKk hoK hv3.1 hv3.2.2) g_no (fun h3 e81 => ?_)
      obtain ⟨hc3, hk3⟩ := e81
      have hS3 : isS E h3 (x + 1) (tKey T.1 k (kLearn (T.1.1 k) w s)) := j2.setK (k := k) (by omega) (by omega) hc3 hk3
      have l1 := (hk3 x (by omega)).trans j1
      have ho3 : okS (tKey T.1 k (kLearn (T.1.1 k) w s)) := okS_set o1 (okK_learn hoK hv3.1 hv3.2.2)
      have hw9 : ((tKey T.1 k (kLearn (T.1.1 k) w s)).1 k).1 w < 999 := by show (gup T.1.1 k _ k).1 w < 999; rw [gup_at]; show (T.1.1 k).1 w < 999; omega
      refine g_aload_n 85 C dX4_join_84 rfl rfl ?_
      refine g_getf 88 C dX4_join_85 fl_RX4_10 rfl (by omega) l1 rfl rfl ?_
      refine g_iload_n 89 C dX4_join_88 rfl rfl ?_
      refine g_iload_n 90 C dX4_join_89 rfl rfl ?_
      refine g_iload_n 91 C dX4_join_90 rfl rfl ?_
      refine g_iload 93 C dX4_join_91 rfl rfl ?_
      refine g_V4r 96 4 24 C dX4_join_93 rfl lk_RX4_75 gi_X3_replace gv_X3_replace ⟨_, _, rfl⟩ (by omega) hS3.1 ⟨⟨by decide, by decide⟩, by decide, by decide⟩ (Nat.le_of_ble_eq_true rfl) rfl rfl rfl (c_X3_replace (x + 1) (tKey T.1 k (kLearn (T.1.1 k) w s)) w k s (jVal (T.1.1 k) s rule) (by omega) hS3 ho3 hv3.1 hv3.2.1 hv3.2.2 hw9) g_no (fun h4 e93 => ?_)
      obtain ⟨hS4, hk4⟩ := e93
      have l4 := (hk4 x (by omega)).trans l1
      refine g_pop 97 C dX4_join_96 rfl rfl ?_
      refine g_aload_n 98 C dX4_join_97 rfl rfl ?_
      refine g_getf 101 C dX4_join_98 fl_RX4_10 rfl (by omega) l4 rfl rfl ?_
      refine g_dup 102 C dX4_join_101 rfl rfl ?_
      refine g_getf 105 C dX4_join_102 fl_RX4_100 rfl (by omega) hS4.1 rfl rfl ?_
      refine g_iconst 106 C dX4_join_105 rfl ?_
      refine g_iadd 107 C dX4_join_106 rfl ?_
      refine g_putf 110 C dX4_join_107 fp_RX4_100 rfl (by omega) hS4.1 rfl rfl (Nat.le_of_ble_eq_true rfl) rfl ?_
      refine g_iload 112 C dX4_join_110 rfl rfl ?_
      exact g_iret C dX4_join_112 rfl ⟨by decide, by decide⟩ (ret_ok (by unfold oJoin; rw [if_pos hv3, if_pos hv9]; exact if_neg hyes) rfl (hJ2.setS (hS4.setN (C' := gup _ 4 (_ + 1)) up_s (gKp_up (by omega))) (gKp_tr (gKp_wd hk3 (by omega) (by omega)) (gKp_tr (gKp_wd hk4 (by omega) (by omega)) (gKp_up (by omega))))) (gKp_tr hk2 (gKp_tr (gKp_wd hk3 (by omega) (by omega)) (gKp_tr (gKp_wd hk4 (by omega) (by omega)) (gKp_up (by omega))))))
    · skip
      have hno : sLen T.1 k s = 0 ∨ 999 ≤ (T.1.1 k).1 w := Or.inr (by omega)
      exact g_throw C hl rfl gth_s (i := 12) rfl dX4_join_49 dX4_join_52 dX4_join_53 dX4_join_55 dX4_join_58 (by decide) (Nat.le_of_ble_eq_true rfl) (by decide) (by decide) (thr_ok 3 hJ9 (by unfold oJoin; rw [if_pos hv3, if_pos hv9]; exact if_pos hno) (by first | rfl | decide) (by decide) rfl)
set_option maxRecDepth 100000 in
set_option maxHeartbeats 4000000 in
theorem c_X4_pullAll {E : gEnv} {n : Nat} {σ : Option Nat} {h : gH} (x : Nat) (T : gTt) (hl : E.1.stackTraces = false) (hxb : gB E ≤ x ∧ x + 524 ≤ gB E + n) (hJ : isJ E h x T) (hok : okT T)  : gM E mX4_pullAll [.ref x] n none h (gRT E h x n (oPullAll T)) (gXT E h x (exc xIS xIS xIS) (oPullAll T)) := by
  have hok9 := hok
  have hJ9 := hJ
  obtain ⟨j1, j2, j3, j4, j5, j6⟩ := hJ
  obtain ⟨o1, o2, o3, o4, o5⟩ := hok
  unfold isJo at j1
  have j29 := j2
  obtain ⟨-, ⟨jkk, jk, jkf⟩, jK⟩ := j2
  have j2 := j29
  refine gM_of (by decide) (Nat.le_of_ble_eq_true rfl) (fun F C => ?_)
  refine g_aload_n 1 C dX4_pullAll_0 rfl rfl ?_
  refine g_getf 4 C dX4_pullAll_1 fl_RX4_16 rfl (by omega) j1 rfl rfl ?_
  refine g_aload_n 5 C dX4_pullAll_4 rfl rfl ?_
  refine g_getf 8 C dX4_pullAll_5 fl_RX4_10 rfl (by omega) j1 rfl rfl ?_
  obtain ⟨St, jt, jto⟩ := id j3
  refine g_V1v 11 0 0 C dX4_pullAll_8 rfl lk_RX4_121 gi_X3_become gv_X3_become ⟨_, _, rfl⟩ (by omega) jt.1 ⟨⟨by decide, by decide⟩, by decide, by decide⟩ (Nat.le_of_ble_eq_true rfl) rfl rfl rfl (c_X3_become (σ := none) (x + 66) (x + 1) St T.1 (by omega) (by omega) (by omega) jt jto j2 o1) g_no (fun h2 e8 => ?_)
  obtain ⟨hS2, hk2⟩ := e8
  have hJ2 := hJ9.setT hS2 o1 (gKp_wd hk2 (by omega) (by omega))
  have l1 := (hk2 x (by omega)).trans j1
  refine g_aload_n 12 C dX4_pullAll_11 rfl rfl ?_
  refine g_getf 15 C dX4_pullAll_12 fl_RX4_16 rfl (by omega) l1 rfl rfl ?_
  refine g_V0r 18 0 0 C dX4_pullAll_15 rfl lk_RX4_125 gi_X3_bringAll gv_X3_bringAll ⟨_, _, rfl⟩ (by omega) hS2.1 ⟨⟨by decide, by decide⟩, by decide, by decide⟩ (Nat.le_of_ble_eq_true rfl) rfl rfl rfl (c_X3_bringAll (x + 66) T.1 (by omega) hS2 o1) g_no (fun h3 e15 => ?_)
  obtain ⟨⟨U, hS3, hoU, hU⟩, hk3⟩ := e15
  have hJ3 := hJ2.setT hS3 hoU (gKp_wd hk3 (by omega) (by omega))
  have l2 := (hk3 x (by omega)).trans l1
  have hJ39 := hJ3
  obtain ⟨-, s2, -, -, -, -⟩ := hJ3
  have hkA : gKp x (x + 524) h h3 := gKp_tr (gKp_wd hk2 (by omega) (by omega)) (gKp_wd hk3 (by omega) (by omega))
  refine g_if_ne 31 21 C dX4_pullAll_18 rfl rfl (gbi_r _) (fun c18 => ?_) (fun c18 => ?_)
  · skip
    obtain ⟨V, hV⟩ := Option.isSome_iff_exists.mp (gbi_1 c18)
    cases hU V hV
    have eO : oPullAll T = (0, U.2 3 - T.1.2 3, U, (tSave T).2) := by unfold oPullAll; rw [hV]
    refine g_aload_n 32 C dX4_pullAll_31 rfl rfl ?_
    refine g_getf 35 C dX4_pullAll_32 fl_RX4_16 rfl (by omega) l2 rfl rfl ?_
    refine g_getf 38 C dX4_pullAll_35 fl_RX4_129 rfl (by omega) hS3.1 rfl rfl ?_
    refine g_aload_n 39 C dX4_pullAll_38 rfl rfl ?_
    refine g_getf 42 C dX4_pullAll_39 fl_RX4_10 rfl (by omega) l2 rfl rfl ?_
    refine g_getf 45 C dX4_pullAll_42 fl_RX4_129 rfl (by omega) s2.1 rfl rfl ?_
    refine g_isub 46 C dX4_pullAll_45 rfl ?_
    refine g_istore_n 47 [(1, _), (0, _)] C dX4_pullAll_46 (by decide) rfl rfl ?_
    refine g_aload_n 48 C dX4_pullAll_47 rfl rfl ?_
    refine g_V0v 51 0 0 C dX4_pullAll_48 rfl lk_RX4_38 gi_X4_save gv_X4_save ⟨_, _, rfl⟩ (by omega) l2 ⟨⟨by decide, by decide⟩, by decide, by decide⟩ (Nat.le_of_ble_eq_true rfl) rfl rfl rfl (c_X4_save (σ := none) x T hxb hJ39 hok9) g_no (fun h4 e48 => ?_)
    obtain ⟨hJ4, hk4, hkt⟩ := e48
    have hS4 := hS3.kept (fun q q1 q2 => hkt q (by omega) (by omega))
    have hJ49 := hJ4
    obtain ⟨j1, j2, j3, j4, j5, j6⟩ := hJ4
    have j2 : isS E h4 (x + 1) T.1 := j2
    unfold isJo at j1
    
    refine g_aload_n 52 C dX4_pullAll_51 rfl rfl ?_
    refine g_getf 55 C dX4_pullAll_52 fl_RX4_10 rfl (by omega) j1 rfl rfl ?_
    refine g_aload_n 56 C dX4_pullAll_55 rfl rfl ?_
    refine g_getf 59 C dX4_pullAll_56 fl_RX4_16 rfl (by omega) j1 rfl rfl ?_
    refine g_V1v 62 0 0 C dX4_pullAll_59 rfl lk_RX4_121 gi_X3_become gv_X3_become ⟨_, _, rfl⟩ (by omega) j2.1 ⟨⟨by decide, by decide⟩, by decide, by decide⟩ (Nat.le_of_ble_eq_true rfl) rfl rfl rfl (c_X3_become (σ := none) (x + 1) (x + 66) T.1 U (by omega) (by omega) (by omega) j2 o1 hS4 hoU) g_no (fun h5 e59 => ?_)
    obtain ⟨hS5, hk5⟩ := e59
    have hJ5 := hJ49.setS hS5 (gKp_wd hk5 (by omega) (by omega))
    refine g_iload_n 63 C dX4_pullAll_62 rfl rfl ?_
    exact g_iret C dX4_pullAll_63 rfl ⟨by decide, by decide⟩ (ret_ok eO rfl hJ5 (gKp_tr hkA (gKp_tr hk4 (gKp_wd hk5 (by omega) (by omega)))))
  · skip
    have hno : bAr T.1 27 = none := by
      cases e : bAr T.1 27 with
      | none => rfl
      | some V => have z := gbi_0 c18; rw [e] at z; cases z
    have eO : oPullAll T = (1, 0, T) := by unfold oPullAll; rw [hno]
    exact g_throw C hl rfl gth_s (i := 11) rfl dX4_pullAll_21 dX4_pullAll_24 dX4_pullAll_25 dX4_pullAll_27 dX4_pullAll_30 (by decide) (Nat.le_of_ble_eq_true rfl) (by decide) (by decide) (by rw [eO]; exact ⟨by first | rfl | decide, (show (1 : Int) ≠ 0 by decide), hJ39, hkA⟩)
set_option maxRecDepth 100000 in
set_option maxHeartbeats 4000000 in
theorem c_X4_append {E : gEnv} {n : Nat} {σ : Option Nat} {h : gH} (x : Nat) (T : gTt) (c : Int) (hl : E.1.stackTraces = false) (hxb : gB E ≤ x ∧ x + 524 ≤ gB E + n) (hJ : isJ E h x T) (hok : okT T) (hcr : -2147483648 ≤ c ∧ c < 2147483648) : gM E mX4_append [.ref x, .int (gi c)] n none h (gRT E h x n (oAppend T c)) (gXT E h x (exc xIA xIS xIS) (oAppend T c)) := by
  have hok9 := hok
  have hJ9 := hJ
  obtain ⟨j1, j2, j3, j4, j5, j6⟩ := hJ
  obtain ⟨o1, o2, o3, o4, o5⟩ := hok
  unfold isJo at j1
  have j29 := j2
  obtain ⟨-, ⟨jkk, jk, jkf⟩, jK⟩ := j2
  have j2 := j29
  refine gM_of (by decide) (Nat.le_of_ble_eq_true rfl) (fun F C => ?_)
  refine g_iload_n 1 C dX4_append_0 rfl rfl ?_
  refine g_bipush 3 C dX4_append_1 (by decide) rfl ?_
  refine g_icmp_lt 12 6 C dX4_append_3 rfl rfl hcr (by omega) (fun c3 => ?_) (fun c3 => ?_)
  · skip
    have hn : ¬ (33 ≤ c ∧ c ≤ 126) := by omega
    exact g_throw C hl rfl gth_a (i := 3) rfl dX4_append_12 dX4_append_15 dX4_append_16 dX4_append_18 dX4_append_21 (by decide) (Nat.le_of_ble_eq_true rfl) (by decide) (by decide) (thr_ok 1 hJ9 (by unfold oAppend; exact if_neg hn) (by first | rfl | decide) (by decide) rfl)
  · skip
    refine g_iload_n 7 C dX4_append_6 rfl rfl ?_
    refine g_bipush 9 C dX4_append_7 (by decide) rfl ?_
    refine g_icmp_le 22 12 C dX4_append_9 rfl rfl hcr (by omega) (fun c9 => ?_) (fun c9 => ?_)
    · skip
      have hy : 33 ≤ c ∧ c ≤ 126 := by omega
      refine g_aload_n 23 C dX4_append_22 rfl rfl ?_
      refine g_getf 26 C dX4_append_23 fl_RX4_137 rfl (by omega) j1 rfl rfl ?_
      refine g_bipush 28 C dX4_append_26 (by decide) rfl ?_
      refine g_icmp_lt 41 31 C dX4_append_28 rfl rfl (by omega) (by omega) (fun c28 => ?_) (fun c28 => ?_)
      · skip
        obtain ⟨b, jb, jbe⟩ := id j5
        refine g_aload_n 42 C dX4_append_41 rfl rfl ?_
        refine g_getf 45 C dX4_append_42 fl_RX4_23 rfl (by omega) j1 rfl rfl ?_
        refine g_aload_n 46 C dX4_append_45 rfl rfl ?_
        refine g_getf 49 C dX4_append_46 fl_RX4_137 rfl (by omega) j1 rfl rfl ?_
        refine g_iload_n 50 C dX4_append_49 rfl rfl ?_
        refine g_iast 51 C dX4_append_50 (by omega) jb (by omega) (by decide) rfl ?_
        refine g_aload_n 52 C dX4_append_51 rfl rfl ?_
        refine g_dup 53 C dX4_append_52 rfl rfl ?_
        refine g_getf 56 C dX4_append_53 fl_RX4_137 rfl (by omega) ((up_n (by omega)).trans j1) rfl rfl ?_
        refine g_iconst 57 C dX4_append_56 rfl ?_
        refine g_iadd 58 C dX4_append_57 rfl ?_
        refine g_putf 61 C dX4_append_58 fp_RX4_137 rfl (by omega) ((up_n (by omega)).trans j1) rfl rfl (Nat.le_of_ble_eq_true rfl) rfl ?_
        refine g_aload_n 62 C dX4_append_61 rfl rfl ?_
        refine g_getf 65 C dX4_append_62 fl_RX4_137 rfl (by omega) up_s rfl rfl ?_
        exact g_iret C dX4_append_65 rfl ⟨by decide, by decide⟩ (ret_ok (by unfold oAppend; rw [if_pos hy]; exact if_pos (by omega)) rfl (by
            refine ⟨up_s, j2.kept (fun q q1 q2 => (up_n (by omega)).trans (up_n (by omega))), ?_, j4.kept (fun q q1 q2 => (up_n (by omega)).trans (up_n (by omega))), ⟨_, (up_n (by omega)).trans up_s, fun j j0 jb9 => ?_⟩, j6.kept ((up_n (by omega)).trans (up_n (by omega)))⟩
            · obtain ⟨S9, s1, s2⟩ := j3
              exact ⟨S9, s1.kept (fun q q1 q2 => (up_n (by omega)).trans (up_n (by omega))), s2⟩
            · have jb9 : j < ((T.2.2.1 + 1 : Nat) : Int) := jb9
              show gup b (T.2.2.1 : Int) c j = gup T.2.2.2 (T.2.2.1 : Int) c j
              by_cases e : j = (T.2.2.1 : Int)
              · rw [e, gup_at, gup_at]
              · rw [gup_ne e, gup_ne e]
                exact jbe j j0 (by omega)) (gKp_tr (gKp_up (by omega)) (gKp_up (by omega))))
      · skip
        exact g_throw C hl rfl gth_s (i := 4) rfl dX4_append_31 dX4_append_34 dX4_append_35 dX4_append_37 dX4_append_40 (by decide) (Nat.le_of_ble_eq_true rfl) (by decide) (by decide) (thr_ok 2 hJ9 (by unfold oAppend; rw [if_pos hy]; exact if_neg (by omega)) (by first | rfl | decide) (by decide) rfl)
    · skip
      have hn : ¬ (33 ≤ c ∧ c ≤ 126) := by omega
      exact g_throw C hl rfl gth_a (i := 3) rfl dX4_append_12 dX4_append_15 dX4_append_16 dX4_append_18 dX4_append_21 (by decide) (Nat.le_of_ble_eq_true rfl) (by decide) (by decide) (thr_ok 1 hJ9 (by unfold oAppend; exact if_neg hn) (by first | rfl | decide) (by decide) rfl)
set_option maxRecDepth 100000 in
set_option maxHeartbeats 4000000 in
theorem c_X4_clearBuffer {E : gEnv} {n : Nat} {σ : Option Nat} {h : gH} (x : Nat) (T : gTt) (hxb : gB E ≤ x ∧ x + 524 ≤ gB E + n) (hJ : isJ E h x T) (hok : okT T)  : gM E mX4_clearBuffer [.ref x] n none h (gRT E h x n (oClear T)) (gNo) := by
  have hok9 := hok
  have hJ9 := hJ
  obtain ⟨j1, j2, j3, j4, j5, j6⟩ := hJ
  obtain ⟨o1, o2, o3, o4, o5⟩ := hok
  unfold isJo at j1
  have j29 := j2
  obtain ⟨-, ⟨jkk, jk, jkf⟩, jK⟩ := j2
  have j2 := j29
  refine gM_of (by decide) (Nat.le_of_ble_eq_true rfl) (fun F C => ?_)
  refine g_aload_n 1 C dX4_clearBuffer_0 rfl rfl ?_
  refine g_getf 4 C dX4_clearBuffer_1 fl_RX4_137 rfl (by omega) j1 rfl rfl ?_
  refine g_istore_n 5 [(1, _), (0, _)] C dX4_clearBuffer_4 (by decide) rfl rfl ?_
  refine g_aload_n 6 C dX4_clearBuffer_5 rfl rfl ?_
  refine g_iconst 7 C dX4_clearBuffer_6 rfl ?_
  refine g_putf 10 C dX4_clearBuffer_7 fp_RX4_137 rfl (by omega) j1 rfl rfl (Nat.le_of_ble_eq_true rfl) rfl ?_
  refine g_iload_n 11 C dX4_clearBuffer_10 rfl rfl ?_
  exact g_iret C dX4_clearBuffer_11 rfl ⟨by decide, by decide⟩ (ret_ok rfl rfl (hJ9.setO (c := T.2.1.1) (bl := 0) up_s (gKp_up (by omega)) (Nat.le_refl _) (Nat.zero_le _)) (gKp_up (by omega)))
set_option maxRecDepth 100000 in
set_option maxHeartbeats 4000000 in
theorem c_X4_firstError {E : gEnv} {n : Nat} {σ : Option Nat} {h : gH} (x : Nat) (T : gTt) (hxb : gB E ≤ x ∧ x + 524 ≤ gB E + n) (hJ : isJ E h x T) (hok : okT T)  : gM E mX4_firstError [.ref x] n none h (gRT E h x n (oFirst T)) (gNo) := by
  have hok9 := hok
  have hJ9 := hJ
  obtain ⟨j1, j2, j3, j4, j5, j6⟩ := hJ
  obtain ⟨o1, o2, o3, o4, o5⟩ := hok
  unfold isJo at j1
  have j29 := j2
  obtain ⟨-, ⟨jkk, jk, jkf⟩, jK⟩ := j2
  have j2 := j29
  refine gM_of (by decide) (Nat.le_of_ble_eq_true rfl) (fun F C => ?_)
  refine g_aload_n 1 C dX4_firstError_0 rfl rfl ?_
  refine g_V0r 4 0 0 C dX4_firstError_1 rfl lk_RX4_142 gi_X4_scanBuffer gv_X4_scanBuffer ⟨_, _, rfl⟩ (by omega) j1 ⟨⟨by decide, by decide⟩, by decide, by decide⟩ (Nat.le_of_ble_eq_true rfl) rfl rfl rfl (c_X4_scanBuffer x T hxb hJ9 hok9) g_no (fun h2 e1 => ?_)
  obtain ⟨hk2, P, hP, hPo, -⟩ := e1
  exact g_iret C dX4_firstError_4 rfl ⟨by decide, by decide⟩ (ret_ok rfl rfl (hJ9.setP hP hPo hk2) (gKp_wd hk2 (by omega) (by omega)))
set_option maxRecDepth 100000 in
set_option maxHeartbeats 4000000 in
theorem c_X4_undo {E : gEnv} {n : Nat} {σ : Option Nat} {h : gH} (x : Nat) (T : gTt) (hl : E.1.stackTraces = false) (hxb : gB E ≤ x ∧ x + 524 ≤ gB E + n) (hJ : isJ E h x T) (hok : okT T)  : gM E mX4_undo [.ref x] n none h (gRT E h x n (oUndo T)) (gXT E h x (exc xIS xIS xIS) (oUndo T)) := by
  have hok9 := hok
  have hJ9 := hJ
  obtain ⟨j1, j2, j3, j4, j5, j6⟩ := hJ
  obtain ⟨o1, o2, o3, o4, o5⟩ := hok
  unfold isJo at j1
  have j29 := j2
  obtain ⟨-, ⟨jkk, jk, jkf⟩, jK⟩ := j2
  have j2 := j29
  refine gM_of (by decide) (Nat.le_of_ble_eq_true rfl) (fun F C => ?_)
  refine g_aload_n 1 C dX4_undo_0 rfl rfl ?_
  refine g_getf 4 C dX4_undo_1 fl_RX4_154 rfl (by omega) j1 rfl rfl ?_
  refine g_if_ne 17 7 C dX4_undo_4 rfl rfl (by omega) (fun c4 => ?_) (fun c4 => ?_)
  · skip
    have hne : ¬ T.2.1.1 = 0 := by omega
    obtain ⟨f, g, jf, jg, jp, jS⟩ := id j4
    have gbc := jp.1 ((T.2.1.1 : Int) - 1) (by omega) (by omega)
    obtain ⟨Sc, hSc, hoc, hSe⟩ := jS ((T.2.1.1 : Int) - 1) (by omega) (by omega)
    have hSe := hSe (by omega)
    subst hSe
    refine g_aload_n 18 C dX4_undo_17 rfl rfl ?_
    refine g_dup 19 C dX4_undo_18 rfl rfl ?_
    refine g_getf 22 C dX4_undo_19 fl_RX4_154 rfl (by omega) j1 rfl rfl ?_
    refine g_iconst 23 C dX4_undo_22 rfl ?_
    refine g_isub 24 C dX4_undo_23 rfl ?_
    refine g_putf 27 C dX4_undo_24 fp_RX4_154 rfl (by omega) j1 rfl rfl (Nat.le_of_ble_eq_true rfl) rfl ?_
    refine g_aload_n 28 C dX4_undo_27 rfl rfl ?_
    refine g_getf 31 C dX4_undo_28 fl_RX4_10 rfl (by omega) up_s rfl rfl ?_
    refine g_aload_n 32 C dX4_undo_31 rfl rfl ?_
    refine g_getf 35 C dX4_undo_32 fl_RX4_19 rfl (by omega) up_s rfl rfl ?_
    refine g_aload_n 36 C dX4_undo_35 rfl rfl ?_
    refine g_getf 39 C dX4_undo_36 fl_RX4_154 rfl (by omega) up_s rfl rfl ?_
    refine g_aald 40 C dX4_undo_39 (by omega) ((up_n (by omega)).trans jf) rfl rfl (by omega) (by decide) (jg ((T.2.1.1 : Int) - 1) (by omega) (by omega)) rfl ?_
    refine g_V1v 43 0 0 C dX4_undo_40 rfl lk_RX4_121 gi_X3_become gv_X3_become ⟨_, _, rfl⟩ (by omega) ((up_n (by omega)).trans j2.1) ⟨⟨by decide, by decide⟩, by decide, by decide⟩ (Nat.le_of_ble_eq_true rfl) rfl rfl rfl (c_X3_become (σ := none) (x + 1) (g ((T.2.1.1 : Int) - 1)) T.1 (T.2.1.2 ((T.2.1.1 : Int) - 1)) (by omega) (by omega) (by omega) (j2.kept (fun q q1 q2 => up_n (by omega))) o1 (hSc.kept (fun q q1 q2 => up_n (by omega))) hoc) g_no (fun h2 e40 => ?_)
    obtain ⟨hS2, hk2⟩ := e40
    have hJo : isJo (va_up h x (gO 4 [.ref (x + 1), .ref (x + 66), .ref (x + 131), .int (gi ((T.2.1.1 - 1 : Nat) : Int)), .ref (x + 132), .int (gi (T.2.2.1 : Int)), .ref (x + 133)])) x (T.2.1.1 - 1) T.2.2.1 := up_s
    have hJ2 := hJ9.setO hJo (gKp_up (by omega)) (Nat.sub_le _ _) (Nat.le_refl _)
    rw [show ((T.2.1.1 - 1 : Nat) : Int) = (T.2.1.1 : Int) - 1 by omega] at hJ2
    have hJ3 := hJ2.setS hS2 (gKp_wd hk2 (by omega) (by omega))
    have l2 := (hk2 x (by omega)).trans up_s
    refine g_aload_n 44 C dX4_undo_43 rfl rfl ?_
    refine g_getf 47 C dX4_undo_44 fl_RX4_154 rfl (by omega) l2 rfl rfl ?_
    exact g_iret C dX4_undo_47 rfl ⟨by decide, by decide⟩ (ret_ok (by unfold oUndo; exact if_neg hne) rfl hJ3 (gKp_tr (gKp_up (by omega)) (gKp_wd hk2 (by omega) (by omega))))
  · skip
    exact g_throw C hl rfl gth_s (i := 6) rfl dX4_undo_7 dX4_undo_10 dX4_undo_11 dX4_undo_13 dX4_undo_16 (by decide) (Nat.le_of_ble_eq_true rfl) (by decide) (by decide) (thr_ok 1 hJ9 (by unfold oUndo; exact if_pos (by omega)) (by first | rfl | decide) (by decide) rfl)
