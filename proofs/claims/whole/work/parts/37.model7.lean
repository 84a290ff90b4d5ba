/-! SiblingJoinsModel: a writing -/
theorem okK_L {K : gKy} {s : Int} {l : List (Int × Int)} (h : okK K) (hl : okL l) : okK (K.1, K.2.1, K.2.2.1, gup K.2.2.2 s l) := ⟨h.1, h.2.1, h.2.2.1, fun r r0 r3 => by
  by_cases e : r = s
  · subst e
    show okL (gup K.2.2.2 r l r)
    rw [gup_at]
    exact hl
  · show okL (gup K.2.2.2 s l r)
    rw [gup_ne e]
    exact h.2.2.2 r r0 r3⟩
theorem okK_W {K : gKy} {v : Int → Int} (h : okK K) (hv : okV v) : okK (v, K.2) := ⟨hv, h.2.1, h.2.2.1, h.2.2.2⟩
theorem okK_N {K : gKy} {w : Int} {v : Int → Int} (h : okK K) (hv : okV v) : okK (K.1, gup K.2.1 w v, K.2.2) := ⟨h.1, fun r r0 r5 => by
  by_cases e : r = w
  · subst e
    show okV (gup K.2.1 r v r)
    rw [gup_at]
    exact hv
  · show okV (gup K.2.1 w v r)
    rw [gup_ne e]
    exact h.2.1 r r0 r5, h.2.2.1, h.2.2.2⟩
theorem Rv.set {f : Int → Int} {a w : Int} {v : Int → Int} {x : Int} (hv : Rv f a v) (hw : 0 ≤ w ∧ w < 5) : Rv (gup f (a + w) x) a (gup v w x) := fun r r0 r5 => by
  by_cases e : r = w
  · rw [e, gup_at, gup_at]
  · rw [gup_ne (by omega), gup_ne e]
    exact hv r r0 r5
theorem fKy_L {k s : Int} {f f1 : Int → Int} (hs : 0 ≤ s ∧ s < 3) (x : fKp (135 + 19 * (3 * k + s)) 19 f f1) : fKy k f f1 := fun i h1 h2 h3 h4 => x i (by omega)
theorem fKy_V {k s : Int} {f f1 : Int → Int} (hs : 0 ≤ s ∧ s < 3) (x : fKp (90 + 15 * k + 5 * s) 5 f f1) : fKy k f f1 := fun i h1 h2 h3 h4 => x i (by omega)
theorem fKy_N {k w : Int} {f f1 : Int → Int} (hs : 0 ≤ w ∧ w < 5) (x : fKp (15 + 25 * k + 5 * w) 5 f f1) : fKy k f f1 := fun i h1 h2 h3 h4 => x i (by omega)
theorem fKy_W {k : Int} {f f1 : Int → Int} (x : fKp (5 * k) 5 f f1) : fKy k f f1 := fun i h1 h2 h3 h4 => x i (by omega)
theorem fKy_tr {k : Int} {f f1 f2 : Int → Int} (x : fKy k f f1) (y : fKy k f1 f2) : fKy k f f2 := fun i h1 h2 h3 h4 => (y i h1 h2 h3 h4).trans (x i h1 h2 h3 h4)
set_option maxRecDepth 100000 in
set_option maxHeartbeats 4000000 in
theorem c_X5_writes {E : gEnv} {n : Nat} {σ : Option Nat} {h : gH} (m : Nat) (g : Int → Int) (hs : Int64) (f : Int → Int) (S : gSt) (w k s val : Int) (hmb : gB E ≤ m ∧ m + 7 ≤ gB E + n) (hm : isMo h m g hs) (hz : h (m + 1) = gI E 311 f) (hR : Rz f S) (hok : okS S) (hk : 0 ≤ k ∧ k < 3) (hw : 0 ≤ w ∧ w < 5) (hss : 0 ≤ s ∧ s < 3) (hval : 0 ≤ val ∧ val ≤ 99) (h999 : (S.1 k).1 w < 999) (hroom : (((S.1 k).2.2.2 s).filter (fun p : Int × Int => !(cov ((S.1 k).2.1 w) p.1))).length < 4)  : gM E mX5_writes [.ref m, .int (gi w), .int (gi k), .int (gi s), .int (gi val)] n σ h (gD (some (.int (gi (wDrop (S.1 k) w s)))) n σ (fun h9 => (∃ f9 : Int → Int, h9 (m + 1) = gI E 311 f9 ∧ Rz f9 (sRep S w k s val)) ∧ gKp (m + 1) (m + 2) h h9)) (gNo) := by
  have hm9 := hm
  unfold isMo at hm
  have m1 := hm
  have hz1 := hz
  have hRk := hR.1 k hk.1 hk.2
  have hoK := hok k hk.1 hk.2
  obtain ⟨rW, rN, rV, rL⟩ := id hRk
  obtain ⟨oW, oN, oV, oL⟩ := id hoK
  have oWw := oW w hw.1 hw.2
  refine gM_of (by decide) (Nat.le_of_ble_eq_true rfl) (fun F C => ?_)
  refine g_aload_n 1 C dX5_writes_0 rfl rfl ?_
  refine g_iload_n 2 C dX5_writes_1 rfl rfl ?_
  refine g_iload_n 3 C dX5_writes_2 rfl rfl ?_
  refine g_iload_n 4 C dX5_writes_3 rfl rfl ?_
  refine g_V3r 7 0 0 C dX5_writes_4 rfl lk_RX5_61 gi_X5_coveredBy gv_X5_coveredBy ⟨_, _, rfl⟩ (by omega) hm ⟨⟨by decide, by decide⟩, by decide, by decide⟩ (Nat.le_of_ble_eq_true rfl) rfl rfl rfl (c_X5_coveredBy m g hs f k (S.1 k) w s hmb hm9 hz hk hRk hoK hw hss) g_no (fun h9 e4 => ?_)
  replace e4 := e4.symm
  subst e4
  refine g_istore 9 [(5, _), (0, _), (1, _), (2, _), (3, _), (4, _)] C dX5_writes_7 (by decide) rfl rfl ?_
  refine g_aload_n 10 C dX5_writes_9 rfl rfl ?_
  refine g_iload_n 11 C dX5_writes_10 rfl rfl ?_
  refine g_iload_n 12 C dX5_writes_11 rfl rfl ?_
  refine g_iload_n 13 C dX5_writes_12 rfl rfl ?_
  refine g_V3v 16 0 0 C dX5_writes_13 rfl lk_RX5_67 gi_X5_drops gv_X5_drops ⟨_, _, rfl⟩ (by omega) hm ⟨⟨by decide, by decide⟩, by decide, by decide⟩ (Nat.le_of_ble_eq_true rfl) rfl rfl rfl (c_X5_drops m g hs f k (S.1 k) w s hmb hm9 hz hk hRk hoK hw hss) g_no (fun h1 e13 => ?_)
  obtain ⟨⟨f1, hz1, rl1, fk1⟩, hk1⟩ := e13
  have m1 := (hk1 m (by omega)).trans hm
  have R1 := hRk.setL hoK hk hss rl1 fk1
  have olF : okL (((S.1 k).2.2.2 s).filter (fun p : Int × Int => !(cov ((S.1 k).2.1 w) p.1))) := okL_filter (oL s hss.1 hss.2)
  have oK1 := okK_L (s := s) hoK olF
  have fy1 := fKy_L hss fk1
  have eW : f1 (0 + 5 * k + w) = (S.1 k).1 w := (fk1 (0 + 5 * k + w) (by omega)).trans (by rw [show (0 + 5 * k + w) = 5 * k + w by omega]; exact rW w hw.1 hw.2)
  refine g_aload_n 17 C dX5_writes_16 rfl rfl ?_
  refine g_getf 20 C dX5_writes_17 fl_RX5_7 rfl (by omega) m1 rfl rfl ?_
  refine g_iload_n 21 C dX5_writes_20 rfl rfl ?_
  refine g_iload_n 22 C dX5_writes_21 rfl rfl ?_
  refine g_S2r 25 0 0 C dX5_writes_22 rfl lk_RX5_64 gs_X5_countAt ⟨⟨by decide, by decide⟩, by decide, by decide⟩ (Nat.le_of_ble_eq_true rfl) rfl rfl rfl (c_X5_countAt k w) g_no (fun h9 e22 => ?_)
  replace e22 := e22.symm
  subst e22
  refine g_dup2 26 C dX5_writes_25 rfl rfl rfl ?_
  refine g_iald 27 C dX5_writes_26 (by omega) hz1 (by omega) (by decide) rfl ?_
  rw [eW]
  refine g_iconst 28 C dX5_writes_27 rfl ?_
  refine g_iadd 29 C dX5_writes_28 rfl ?_
  refine g_iast 30 C dX5_writes_29 (by omega) hz1 (by omega) (by decide) rfl ?_
  refine g_ab (fun z => z (m + 1) = gI E 311 (gup f1 (0 + 5 * k + w) ((S.1 k).1 w + 1)) ∧ gKp (m + 1) (m + 2) h z) ⟨up_s, gKp_tr hk1 (gKp_up (by omega))⟩ (fun h1 q1 => ?_)
  obtain ⟨hz1, hk1⟩ := q1
  have m1 := (hk1 m (by omega)).trans hm
  have m19 : isMo h1 m g hs := m1
  have fk2 : fKp (5 * k) 5 f1 (gup f1 (0 + 5 * k + w) ((S.1 k).1 w + 1)) := fKp_up (by omega)
  have R2 := R1.setW oK1 hk (v := gup (S.1 k).1 w ((S.1 k).1 w + 1)) (by rw [show (0 + 5 * k + w) = 5 * k + w by omega]; exact Rv.set R1.1 hw) fk2
  have oK2 := okK_W oK1 (v := gup (S.1 k).1 w ((S.1 k).1 w + 1)) (okV_up oW (by omega))
  refine g_aload_n 31 C dX5_writes_30 rfl rfl ?_
  refine g_getf 34 C dX5_writes_31 fl_RX5_7 rfl (by omega) m1 rfl rfl ?_
  refine g_iload_n 35 C dX5_writes_34 rfl rfl ?_
  refine g_iload_n 36 C dX5_writes_35 rfl rfl ?_
  refine g_S2r 39 0 0 C dX5_writes_36 rfl lk_RX5_64 gs_X5_countAt ⟨⟨by decide, by decide⟩, by decide, by decide⟩ (Nat.le_of_ble_eq_true rfl) rfl rfl rfl (c_X5_countAt k w) g_no (fun h9 e36 => ?_)
  replace e36 := e36.symm
  subst e36
  refine g_iald 40 C dX5_writes_39 (by omega) hz1 (by omega) (by decide) rfl ?_
  rw [show gup f1 (0 + 5 * k + w) ((S.1 k).1 w + 1) (0 + 5 * k + w) = ((S.1 k).1 w + 1) from gup_at]
  refine g_istore 42 [(6, _), (5, _), (0, _), (1, _), (2, _), (3, _), (4, _)] C dX5_writes_40 (by decide) rfl rfl ?_
  refine g_aload_n 43 C dX5_writes_42 rfl rfl ?_
  refine g_iload_n 44 C dX5_writes_43 rfl rfl ?_
  refine g_iload_n 45 C dX5_writes_44 rfl rfl ?_
  refine g_iload_n 46 C dX5_writes_45 rfl rfl ?_
  refine g_iload 48 C dX5_writes_46 rfl rfl ?_
  refine g_iload 50 C dX5_writes_48 rfl rfl ?_
  refine g_V5v 53 0 0 C dX5_writes_50 rfl lk_RX5_71 gi_X5_comes gv_X5_comes ⟨_, _, rfl⟩ (by omega) m1 ⟨⟨by decide, by decide⟩, by decide, by decide⟩ (Nat.le_of_ble_eq_true rfl) rfl rfl rfl ((by have e := c_X5_comes (n := n) (σ := σ) m g hs (gup f1 (0 + 5 * k + w) ((S.1 k).1 w + 1)) k s (((S.1 k).2.2.2 s).filter (fun p : Int × Int => !(cov ((S.1 k).2.1 w) p.1))) (w * 1000 + ((S.1 k).1 w + 1)) val hmb m19 hz1 hk hss (rl1.kept olF.1 (fun i9 q1 q2 => gup_ne (by omega))) olF (by omega); rw [show (w * 1000 + ((S.1 k).1 w + 1)) / 1000 = w by omega, show (w * 1000 + ((S.1 k).1 w + 1)) % 1000 = ((S.1 k).1 w + 1) by omega] at e; exact e)) g_no (fun h2 e50 => ?_)
  obtain ⟨⟨f3, hz3, rl3, fk3⟩, hk3⟩ := e50
  have hz1 := hz3
  have hk1 := gKp_tr hk1 hk3
  have m1 := (hk1 m (by omega)).trans hm
  have ei : insr ((w * 1000 + ((S.1 k).1 w + 1)), val) (((S.1 k).2.2.2 s).filter (fun p : Int × Int => !(cov ((S.1 k).2.1 w) p.1))) = ins4 ((w * 1000 + ((S.1 k).1 w + 1)), val) (((S.1 k).2.2.2 s).filter (fun p : Int × Int => !(cov ((S.1 k).2.1 w) p.1))) := by unfold ins4; rw [if_pos hroom]
  rw [ei] at rl3
  have R3 := R2.setL oK2 hk hss rl3 fk3
  have olI : okL (ins4 ((w * 1000 + ((S.1 k).1 w + 1)), val) (((S.1 k).2.2.2 s).filter (fun p : Int × Int => !(cov ((S.1 k).2.1 w) p.1)))) := okL_ins4 olF ⟨by dsimp only; omega, by dsimp only; omega, hval.1, hval.2⟩
  have oK3 := okK_L (s := s) oK2 olI
  have fy3 := fKy_tr fy1 (fKy_tr (fKy_W fk2) (fKy_L hss fk3))
  refine g_aload_n 54 C dX5_writes_53 rfl rfl ?_
  refine g_getf 57 C dX5_writes_54 fl_RX5_7 rfl (by omega) m1 rfl rfl ?_
  refine g_iload_n 58 C dX5_writes_57 rfl rfl ?_
  refine g_iload_n 59 C dX5_writes_58 rfl rfl ?_
  refine g_S2r 62 0 0 C dX5_writes_59 rfl lk_RX5_54 gs_X5_knowsAt ⟨⟨by decide, by decide⟩, by decide, by decide⟩ (Nat.le_of_ble_eq_true rfl) rfl rfl rfl (c_X5_knowsAt k w) g_no (fun h9 e59 => ?_)
  replace e59 := e59.symm
  subst e59
  refine g_iload_n 63 C dX5_writes_62 rfl rfl ?_
  refine g_iadd 64 C dX5_writes_63 rfl ?_
  refine g_iload 66 C dX5_writes_64 rfl rfl ?_
  refine g_iast 67 C dX5_writes_66 (by omega) hz1 (by omega) (by decide) rfl ?_
  refine g_ab (fun z => z (m + 1) = gI E 311 (gup f3 (15 + 25 * k + 5 * w + w) ((S.1 k).1 w + 1)) ∧ gKp (m + 1) (m + 2) h z) ⟨up_s, gKp_tr hk1 (gKp_up (by omega))⟩ (fun h1 q1 => ?_)
  obtain ⟨hz1, hk1⟩ := q1
  have m1 := (hk1 m (by omega)).trans hm
  have m19 : isMo h1 m g hs := m1
  have fk4 : fKp (15 + 25 * k + 5 * w) 5 f3 (gup f3 (15 + 25 * k + 5 * w + w) ((S.1 k).1 w + 1)) := fKp_up (by omega)
  have R4 := R3.setN oK3 hk hw (v := gup ((S.1 k).2.1 w) w ((S.1 k).1 w + 1)) (Rv.set (R3.2.1 w hw.1 hw.2) hw) fk4
  have oV4 : okV (gup ((S.1 k).2.1 w) w ((S.1 k).1 w + 1)) := okV_up (oN w hw.1 hw.2) (by omega)
  have oK4 := okK_N (w := w) oK3 oV4
  have fy4 := fKy_tr fy3 (fKy_N hw fk4)
  have hvv := R4.2.2.1 s hss.1 hss.2
  have hnn := R4.2.1 w hw.1 hw.2
  dsimp only at hvv hnn
  rw [gup_at] at hnn
  refine g_aload_n 68 C dX5_writes_67 rfl rfl ?_
  refine g_iload_n 69 C dX5_writes_68 rfl rfl ?_
  refine g_iload_n 70 C dX5_writes_69 rfl rfl ?_
  refine g_S2r 73 0 0 C dX5_writes_70 rfl lk_RX5_75 gs_X5_vectorAt ⟨⟨by decide, by decide⟩, by decide, by decide⟩ (Nat.le_of_ble_eq_true rfl) rfl rfl rfl (c_X5_vectorAt k s) g_no (fun h9 e70 => ?_)
  replace e70 := e70.symm
  subst e70
  refine g_iload_n 74 C dX5_writes_73 rfl rfl ?_
  refine g_iload_n 75 C dX5_writes_74 rfl rfl ?_
  refine g_S2r 78 0 0 C dX5_writes_75 rfl lk_RX5_54 gs_X5_knowsAt ⟨⟨by decide, by decide⟩, by decide, by decide⟩ (Nat.le_of_ble_eq_true rfl) rfl rfl rfl (c_X5_knowsAt k w) g_no (fun h9 e75 => ?_)
  replace e75 := e75.symm
  subst e75
  refine g_V2v 81 0 0 C dX5_writes_78 rfl lk_RX5_78 gi_X5_merges gv_X5_merges ⟨_, _, rfl⟩ (by omega) m1 ⟨⟨by decide, by decide⟩, by decide, by decide⟩ (Nat.le_of_ble_eq_true rfl) rfl rfl rfl (c_X5_merges m g hs (gup f3 (15 + 25 * k + 5 * w + w) ((S.1 k).1 w + 1)) (90 + 15 * k + 5 * s) (15 + 25 * k + 5 * w) ((S.1 k).2.2.1 s) (gup ((S.1 k).2.1 w) w ((S.1 k).1 w + 1)) hmb m19 hz1 (by omega) (by omega) (by omega) hvv hnn (oV s hss.1 hss.2) oV4) g_no (fun h2 e78 => ?_)
  obtain ⟨⟨f5, hz5, rv5, fk5⟩, hk5⟩ := e78
  have hz1 := hz5
  have hk1 := gKp_tr hk1 hk5
  have m1 := (hk1 m (by omega)).trans hm
  have R5 := R4.setV oK4 hk hss rv5 fk5
  have fy5 := fKy_tr fy4 (fKy_V hss fk5)
  dsimp only at R5
  rw [gup_gup] at R5
  have Z5 := hR.setK (K' := kPut (S.1 k) w s val) hok hk R5 fy5
  have oS5 : okS (tKey S k (kPut (S.1 k) w s val)) := okS_set hok (okK_put hoK hw hss hval h999)
  have e306 : f5 306 = S.2 1 := Z5.2 1 (by decide) (by decide)
  have e307 : f5 307 = S.2 2 := Z5.2 2 (by decide) (by decide)
  refine g_aload_n 82 C dX5_writes_81 rfl rfl ?_
  refine g_getf 85 C dX5_writes_82 fl_RX5_7 rfl (by omega) m1 rfl rfl ?_
  refine g_sipush 88 C dX5_writes_85 (by decide) rfl ?_
  refine g_dup2 89 C dX5_writes_88 rfl rfl rfl ?_
  refine g_iald 90 C dX5_writes_89 (by omega) hz1 (by omega) (by decide) rfl ?_
  rw [e306]
  refine g_iconst 91 C dX5_writes_90 rfl ?_
  refine g_iadd 92 C dX5_writes_91 rfl ?_
  refine g_iast 93 C dX5_writes_92 (by omega) hz1 (by omega) (by decide) rfl ?_
  refine g_ab (fun z => z (m + 1) = gI E 311 (gup f5 306 (S.2 1 + 1)) ∧ gKp (m + 1) (m + 2) h z) ⟨up_s, gKp_tr hk1 (gKp_up (by omega))⟩ (fun h1 q1 => ?_)
  obtain ⟨hz1, hk1⟩ := q1
  have m1 := (hk1 m (by omega)).trans hm
  refine g_aload_n 94 C dX5_writes_93 rfl rfl ?_
  refine g_getf 97 C dX5_writes_94 fl_RX5_7 rfl (by omega) m1 rfl rfl ?_
  refine g_sipush 100 C dX5_writes_97 (by decide) rfl ?_
  refine g_dup2 101 C dX5_writes_100 rfl rfl rfl ?_
  refine g_iald 102 C dX5_writes_101 (by omega) hz1 (by omega) (by decide) rfl ?_
  rw [show gup f5 306 (S.2 1 + 1) 307 = S.2 2 from (gup_ne (by decide)).trans e307]
  refine g_iload 104 C dX5_writes_102 rfl rfl ?_
  refine g_iadd 105 C dX5_writes_104 rfl ?_
  refine g_iast 106 C dX5_writes_105 (by omega) hz1 (by omega) (by decide) rfl ?_
  refine g_iload 108 C dX5_writes_106 rfl rfl ?_
  exact g_iret C dX5_writes_108 rfl ⟨by decide, by decide⟩ (by
      have Z6 := Z5.setC (j := 1) (v := S.2 1 + 1) oS5 (by decide)
      have oS6 : okS ((tKey S k (kPut (S.1 k) w s val)).1, gup (tKey S k (kPut (S.1 k) w s val)).2 1 (S.2 1 + 1)) := oS5
      have Z7 := Z6.setC (j := 2) (v := S.2 2 + wDrop (S.1 k) w s) oS6 (by decide)
      exact ⟨rfl, rfl, rfl, ⟨_, up_s, Z7⟩, gKp_tr hk1 (gKp_up (by omega))⟩)
