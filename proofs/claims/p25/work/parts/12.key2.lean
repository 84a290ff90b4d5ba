/-! SiblingJoins$KeyState: the rest of its readers and writers -/
theorem okV_up {f : Int → Int} {i x : Int} (h : okV f) (hx : 0 ≤ x ∧ x < 1000) : okV (gup f i x) := fun j h0 h5 => by
  by_cases e : j = i
  · rw [e, gup_at]; exact hx
  · rw [gup_ne e]; exact h j h0 h5
theorem okK_cnt {K : gKy} {s : Int} (h : okK K) (h0 : 0 ≤ s) (h3 : s < 3) (p : Int × Int → Bool) : (K.2.2.2 s).countP p ≤ 4 := Nat.le_trans List.countP_le_length (h.2.2.2 s h0 h3).1
theorem okK_learn {K : gKy} {w s : Int} (h : okK K) (hw : 0 ≤ w ∧ w < 5) (hs : 0 ≤ s ∧ s < 3) : okK (kLearn K w s) := by
  refine ⟨h.1, fun x h0 h5 => ?_, h.2.2.1, h.2.2.2⟩
  show okV (gup K.2.1 w (vmx (K.2.1 w) (K.2.2.1 s)) x)
  by_cases e : x = w
  · rw [e, gup_at]; exact okV_vmx (h.2.1 w hw.1 hw.2) (h.2.2.1 s hs.1 hs.2)
  · rw [gup_ne e]; exact h.2.1 x h0 h5
theorem okK_put {K : gKy} {w s val : Int} (h : okK K) (hw : 0 ≤ w ∧ w < 5) (hs : 0 ≤ s ∧ s < 3) (hv : 0 ≤ val ∧ val ≤ 99) (h9 : K.1 w < 999) : okK (kPut K w s val) := by
  have hW := h.1 w hw.1 hw.2
  have hN : okV (gup (K.2.1 w) w (K.1 w + 1)) := okV_up (h.2.1 w hw.1 hw.2) (by omega)
  refine ⟨okV_up h.1 (by omega), fun x h0 h5 => ?_, fun x h0 h5 => ?_, fun x h0 h5 => ?_⟩
  · show okV (gup K.2.1 w _ x)
    by_cases e : x = w
    · rw [e, gup_at]; exact hN
    · rw [gup_ne e]; exact h.2.1 x h0 h5
  · show okV (gup K.2.2.1 s _ x)
    by_cases e : x = s
    · rw [e, gup_at]; exact okV_vmx (h.2.2.1 s hs.1 hs.2) hN
    · rw [gup_ne e]; exact h.2.2.1 x h0 h5
  · show okL (gup K.2.2.2 s _ x)
    by_cases e : x = s
    · rw [e, gup_at]; exact okL_ins4 (okL_filter (h.2.2.2 s hs.1 hs.2)) ⟨by show 0 ≤ w * 1000 + (K.1 w + 1); omega, by show w * 1000 + (K.1 w + 1) < 5000; omega, hv.1, hv.2⟩
    · rw [gup_ne e]; exact h.2.2.2 x h0 h5
set_option maxRecDepth 100000 in
set_option maxHeartbeats 4000000 in
theorem c_X1_mayWrite {E : gEnv} {n : Nat} {σ : Option Nat} {h : gH} (a : Nat) (K : gKy) (w s : Int) (hab : gB E ≤ a ∧ a + 21 ≤ gB E + n) (hK : isK E h a K) (hok : okK K) (hw : 0 ≤ w ∧ w < 5) (hs : 0 ≤ s ∧ s < 3)  : gM E mX1_mayWrite [.ref a, .int (gi w), .int (gi s)] n σ h (gD (some (.int (gi (gbi (decide (K.1 w < 999 ∧ wOut K w s 1 ≤ 4)))))) n σ (fun h9 => h9 = h)) (gNo) := by
  have hK9 := hK
  obtain ⟨k1, ⟨fc, k2, hfc⟩, ⟨fk, k3, hfk⟩, k4, k5, k6⟩ := hK
  obtain ⟨oW, oN, oV, oL⟩ := hok
  have hWw := oW w (by omega) (by omega)
  have hcn := okK_cnt (K := K) (s := s) ⟨oW, oN, oV, oL⟩ (by omega) (by omega) (fun p => cov (K.2.1 w) p.1)
  have hln := (oL s (by omega) (by omega)).1
  have ewo : wOut K w s 1 = ((K.2.2.2 s).length : Int) - wDrop K w s + 1 := rfl
  have ewd : wDrop K w s = ((K.2.2.2 s).countP (fun p => cov (K.2.1 w) p.1) : Nat) := rfl
  refine gM_of (by decide) (Nat.le_of_ble_eq_true rfl) (fun F C => ?_)
  refine g_aload_n 1 C dX1_mayWrite_0 rfl rfl ?_
  refine g_getf 4 C dX1_mayWrite_1 fl_RX1_22 rfl (by omega) k1 rfl rfl ?_
  refine g_iload_n 5 C dX1_mayWrite_4 rfl rfl ?_
  refine g_iald 6 C dX1_mayWrite_5 (by omega) k5 (by omega) (by decide) rfl ?_
  refine g_sipush 9 C dX1_mayWrite_6 (by decide) rfl ?_
  refine g_icmp_ge 27 12 C dX1_mayWrite_9 rfl rfl (by omega) (by omega) (fun c9 => ?_) (fun c9 => ?_)
  · skip
    have ec := gbi_f (b := decide (K.1 w < 999 ∧ wOut K w s 1 ≤ 4)) (decide_eq_false (by omega))
    refine g_iconst 28 C dX1_mayWrite_27 rfl ?_
    exact g_zret C dX1_mayWrite_28 rfl rfl ⟨by decide, by decide⟩ (by rw [ec]; exact ⟨rfl, rfl, rfl, rfl⟩)
  · skip
    refine g_aload_n 13 C dX1_mayWrite_12 rfl rfl ?_
    refine g_iload_n 14 C dX1_mayWrite_13 rfl rfl ?_
    refine g_iload_n 15 C dX1_mayWrite_14 rfl rfl ?_
    refine g_iconst 16 C dX1_mayWrite_15 rfl ?_
    refine g_V3r 19 0 0 C dX1_mayWrite_16 rfl lk_RX1_44 gi_X1_writeOutlook gv_X1_writeOutlook ⟨_, _, rfl⟩ (by omega) k1 ⟨⟨by decide, by decide⟩, by decide, by decide⟩ (Nat.le_of_ble_eq_true rfl) rfl rfl rfl (c_X1_writeOutlook a K w s 1 hab hK9 ⟨oW, oN, oV, oL⟩ hw hs (by omega)) g_no (fun h9 e16 => ?_)
    subst e16
    refine g_iconst 20 C dX1_mayWrite_19 rfl ?_
    refine g_icmp_gt 27 23 C dX1_mayWrite_20 rfl rfl (by rw [ewo, ewd]; omega) (by omega) (fun c20 => ?_) (fun c20 => ?_)
    · skip
      have ec := gbi_f (b := decide (K.1 w < 999 ∧ wOut K w s 1 ≤ 4)) (decide_eq_false (by omega))
      refine g_iconst 28 C dX1_mayWrite_27 rfl ?_
      exact g_zret C dX1_mayWrite_28 rfl rfl ⟨by decide, by decide⟩ (by rw [ec]; exact ⟨rfl, rfl, rfl, rfl⟩)
    · skip
      have ec := gbi_t (b := decide (K.1 w < 999 ∧ wOut K w s 1 ≤ 4)) (decide_eq_true (by omega))
      refine g_iconst 24 C dX1_mayWrite_23 rfl ?_
      refine g_goto 28 C dX1_mayWrite_24 rfl ?_
      exact g_zret C dX1_mayWrite_28 rfl rfl ⟨by decide, by decide⟩ (by rw [ec]; exact ⟨rfl, rfl, rfl, rfl⟩)
set_option maxRecDepth 100000 in
set_option maxHeartbeats 4000000 in
theorem c_X1_mayPull {E : gEnv} {n : Nat} {σ : Option Nat} {h : gH} (a : Nat) (K : gKy) (s o : Int) (hab : gB E ≤ a ∧ a + 21 ≤ gB E + n) (hK : isK E h a K) (hok : okK K) (hs : 0 ≤ s ∧ s < 3) (ho : 0 ≤ o ∧ o < 3)  : gM E mX1_mayPull [.ref a, .int (gi s), .int (gi o)] n σ h (gD (some (.int (gi (gbi (decide (pOut K s o 2 ≤ 4)))))) n σ (fun h9 => h9 = h)) (gNo) := by
  have hK9 := hK
  obtain ⟨k1, ⟨fc, k2, hfc⟩, ⟨fk, k3, hfk⟩, k4, k5, k6⟩ := hK
  obtain ⟨oW, oN, oV, oL⟩ := hok
  have hcn := okK_cnt (K := K) (s := s) ⟨oW, oN, oV, oL⟩ (by omega) (by omega) (fun p => drp (K.2.2.1 o) (K.2.2.2 o) p.1)
  have hcn2 := okK_cnt (K := K) (s := o) ⟨oW, oN, oV, oL⟩ (by omega) (by omega) (fun p => isN (K.2.2.1 s) (K.2.2.2 s) p.1)
  have hln := (oL s (by omega) (by omega)).1
  have epo : pOut K s o 2 = ((K.2.2.2 s).length : Int) - pLost K s o + pGain K s o := rfl
  have ep1 : pLost K s o = ((K.2.2.2 s).countP (fun p => drp (K.2.2.1 o) (K.2.2.2 o) p.1) : Nat) := rfl
  have ep2 : pGain K s o = ((K.2.2.2 o).countP (fun p => isN (K.2.2.1 s) (K.2.2.2 s) p.1) : Nat) := rfl
  refine gM_of (by decide) (Nat.le_of_ble_eq_true rfl) (fun F C => ?_)
  refine g_aload_n 1 C dX1_mayPull_0 rfl rfl ?_
  refine g_iload_n 2 C dX1_mayPull_1 rfl rfl ?_
  refine g_iload_n 3 C dX1_mayPull_2 rfl rfl ?_
  refine g_iconst 4 C dX1_mayPull_3 rfl ?_
  refine g_V3r 7 0 0 C dX1_mayPull_4 rfl lk_RX1_48 gi_X1_pullOutlook gv_X1_pullOutlook ⟨_, _, rfl⟩ (by omega) k1 ⟨⟨by decide, by decide⟩, by decide, by decide⟩ (Nat.le_of_ble_eq_true rfl) rfl rfl rfl (c_X1_pullOutlook a K s o 2 hab hK9 ⟨oW, oN, oV, oL⟩ hs ho (by omega)) g_no (fun h9 e4 => ?_)
  subst e4
  refine g_iconst 8 C dX1_mayPull_7 rfl ?_
  refine g_icmp_gt 15 11 C dX1_mayPull_8 rfl rfl (by rw [epo, ep1, ep2]; omega) (by omega) (fun c8 => ?_) (fun c8 => ?_)
  · skip
    have ec := gbi_f (b := decide (pOut K s o 2 ≤ 4)) (decide_eq_false (by omega))
    refine g_iconst 16 C dX1_mayPull_15 rfl ?_
    exact g_zret C dX1_mayPull_16 rfl rfl ⟨by decide, by decide⟩ (by rw [ec]; exact ⟨rfl, rfl, rfl, rfl⟩)
  · skip
    have ec := gbi_t (b := decide (pOut K s o 2 ≤ 4)) (decide_eq_true (by omega))
    refine g_iconst 12 C dX1_mayPull_11 rfl ?_
    refine g_goto 16 C dX1_mayPull_12 rfl ?_
    exact g_zret C dX1_mayPull_16 rfl rfl ⟨by decide, by decide⟩ (by rw [ec]; exact ⟨rfl, rfl, rfl, rfl⟩)
set_option maxRecDepth 100000 in
set_option maxHeartbeats 4000000 in
theorem c_X1_put {E : gEnv} {n : Nat} {σ : Option Nat} {h : gH} (a : Nat) (K : gKy) (w s val : Int) (hab : gB E ≤ a ∧ a + 21 ≤ gB E + n) (hK : isK E h a K) (hok : okK K) (hw : 0 ≤ w ∧ w < 5) (hs : 0 ≤ s ∧ s < 3) (h999 : K.1 w < 999) : gM E mX1_put [.ref a, .int (gi w), .int (gi s), .int (gi val)] n σ h (gD none n σ (fun h9 => isK E h9 a (kPut K w s val) ∧ gKp a (a + 21) h h9)) (gNo) := by
  have hK9 := hK
  obtain ⟨k1, ⟨fc, k2, hfc⟩, ⟨fk, k3, hfk⟩, k4, k5, k6⟩ := hK
  obtain ⟨oW, oN, oV, oL⟩ := hok
  have hWw := oW w (by omega) (by omega)
  refine gM_of (by decide) (Nat.le_of_ble_eq_true rfl) (fun F C => ?_)
  refine g_aload_n 1 C dX1_put_0 rfl rfl ?_
  refine g_getf 4 C dX1_put_1 fl_RX1_11 rfl (by omega) k1 rfl rfl ?_
  refine g_iload_n 5 C dX1_put_4 rfl rfl ?_
  refine g_aald 6 C dX1_put_5 (by omega) k2 rfl rfl (by omega) (by decide) (hfc (s) (by omega) (by omega)) rfl ?_
  refine g_aload_n 7 C dX1_put_6 rfl rfl ?_
  refine g_getf 10 C dX1_put_7 fl_RX1_19 rfl (by omega) k1 rfl rfl ?_
  refine g_iload_n 11 C dX1_put_10 rfl rfl ?_
  refine g_aald 12 C dX1_put_11 (by omega) k3 rfl rfl (by omega) (by decide) (hfk (w) (by omega) (by omega)) rfl ?_
  refine g_V1v 15 0 0 C dX1_put_12 rfl lk_RX1_66 gi_X0_dropCoveredBy gv_X0_dropCoveredBy ⟨_, _, rfl⟩ (by omega) (isC.h0 (k6 (s) (by omega) (by omega))) ⟨⟨by decide, by decide⟩, by decide, by decide⟩ (Nat.le_of_ble_eq_true rfl) rfl rfl rfl (c_X0_dropCoveredBy (a + 9 + 4 * (s).toNat) (K.2.2.1 s) (K.2.2.2 s) (a + 3 + w.toNat) (K.2.1 w) (by omega) (k6 (s) (by omega) (by omega)) (oL s (by omega) (by omega)) (by omega) (by omega) (k4 w (by omega) (by omega)) (oN w (by omega) (by omega))) g_no (fun h2 e12 => ?_)
  obtain ⟨hc2, hk2⟩ := e12
  have hK2 := hK9.setC (s := s) (by omega) (by omega) hc2 hk2
  rw [gup_same] at hK2
  have hk2 := gKp_wd (a' := a) (b' := a + 21) hk2 (by omega) (by omega)
  have hK29 := hK2
  obtain ⟨k1, ⟨fc, k2, hfc⟩, ⟨fk, k3, hfk⟩, k4, k5, k6⟩ := hK2
  try dsimp only at k4 k5 k6
  refine g_aload_n 16 C dX1_put_15 rfl rfl ?_
  refine g_getf 19 C dX1_put_16 fl_RX1_22 rfl (by omega) k1 rfl rfl ?_
  refine g_iload_n 20 C dX1_put_19 rfl rfl ?_
  refine g_dup2 21 C dX1_put_20 rfl rfl rfl ?_
  refine g_iald 22 C dX1_put_21 (by omega) k5 (by omega) (by decide) rfl ?_
  refine g_iconst 23 C dX1_put_22 rfl ?_
  refine g_iadd 24 C dX1_put_23 rfl ?_
  refine g_iast 25 C dX1_put_24 (by omega) k5 (by omega) (by decide) rfl ?_
  have hK3 := hK29.setW (h1 := va_up h2 (a + 8) (gI E 5 (gup K.1 w (K.1 w + 1)))) up_s (gKp_up (by omega))
  have hk3 := gKp_tr hk2 (gKp_up (a := a) (b := a + 21) (h := h2) (q := a + 8) (e := gI E 5 (gup K.1 w (K.1 w + 1))) (by omega))
  have hK39 := hK3
  obtain ⟨k1, ⟨fc, k2, hfc⟩, ⟨fk, k3, hfk⟩, k4, k5, k6⟩ := hK3
  try dsimp only at k4 k5 k6
  have hl2 := k6 s (by omega) (by omega)
  rw [show (gup K.2.2.2 s ((K.2.2.2 s).filter (fun p => !(cov (K.2.1 w) p.1))) s) = (K.2.2.2 s).filter (fun p => !(cov (K.2.1 w) p.1)) from gup_at] at hl2
  have eW : gup K.1 w (K.1 w + 1) w = K.1 w + 1 := gup_at
  refine g_aload_n 26 C dX1_put_25 rfl rfl ?_
  refine g_getf 29 C dX1_put_26 fl_RX1_11 rfl (by omega) k1 rfl rfl ?_
  refine g_iload_n 30 C dX1_put_29 rfl rfl ?_
  refine g_aald 31 C dX1_put_30 (by omega) k2 rfl rfl (by omega) (by decide) (hfc (s) (by omega) (by omega)) rfl ?_
  refine g_iload_n 32 C dX1_put_31 rfl rfl ?_
  refine g_sipush 35 C dX1_put_32 (by decide) rfl ?_
  refine g_imul 36 C dX1_put_35 rfl ?_
  refine g_aload_n 37 C dX1_put_36 rfl rfl ?_
  refine g_getf 40 C dX1_put_37 fl_RX1_22 rfl (by omega) k1 rfl rfl ?_
  refine g_iload_n 41 C dX1_put_40 rfl rfl ?_
  refine g_iald 42 C dX1_put_41 (by omega) k5 (by omega) (by decide) rfl ?_
  refine g_iadd 43 C dX1_put_42 rfl ?_
  refine g_iload_n 44 C dX1_put_43 rfl rfl ?_
  rw [eW]
  refine g_V2v 47 0 0 C dX1_put_44 rfl lk_RX1_70 gi_X0_insert gv_X0_insert ⟨_, _, rfl⟩ (by omega) (isC.h0 (k6 (s) (by omega) (by omega))) ⟨⟨by decide, by decide⟩, by decide, by decide⟩ (Nat.le_of_ble_eq_true rfl) rfl rfl rfl (c_X0_insert (a + 9 + 4 * (s).toNat) (K.2.2.1 s) _ (w * 1000 + (K.1 w + 1)) val (by omega) hl2 (okL_filter (oL s (by omega) (by omega))) (by omega)) g_no (fun h4 e44 => ?_)
  obtain ⟨hc4, hk4⟩ := e44
  have hK4 := hK39.setC (s := s) (by omega) (by omega) hc4 hk4
  rw [gup_same, gup_gup] at hK4
  have hk4 := gKp_tr hk3 (gKp_wd (a' := a) (b' := a + 21) hk4 (by omega) (by omega))
  have hK49 := hK4
  obtain ⟨k1, ⟨fc, k2, hfc⟩, ⟨fk, k3, hfk⟩, k4, k5, k6⟩ := hK4
  try dsimp only at k4 k5 k6
  refine g_aload_n 48 C dX1_put_47 rfl rfl ?_
  refine g_getf 51 C dX1_put_48 fl_RX1_19 rfl (by omega) k1 rfl rfl ?_
  refine g_iload_n 52 C dX1_put_51 rfl rfl ?_
  refine g_aald 53 C dX1_put_52 (by omega) k3 rfl rfl (by omega) (by decide) (hfk (w) (by omega) (by omega)) rfl ?_
  refine g_iload_n 54 C dX1_put_53 rfl rfl ?_
  refine g_aload_n 55 C dX1_put_54 rfl rfl ?_
  refine g_getf 58 C dX1_put_55 fl_RX1_22 rfl (by omega) k1 rfl rfl ?_
  refine g_iload_n 59 C dX1_put_58 rfl rfl ?_
  refine g_iald 60 C dX1_put_59 (by omega) k5 (by omega) (by decide) rfl ?_
  rw [eW]
  refine g_iast 61 C dX1_put_60 (by omega) (k4 (w) (by omega) (by omega)) (by omega) (by decide) rfl ?_
  have hK5 := hK49.setN (w := w) (f' := gup (K.2.1 w) w (K.1 w + 1)) (h1 := va_up h4 (a + 3 + w.toNat) (gI E 5 (gup (K.2.1 w) w (K.1 w + 1)))) (by omega) (by omega) up_s (gKp_up (by omega))
  have hk5 := gKp_tr hk4 (gKp_up (a := a) (b := a + 21) (h := h4) (q := a + 3 + w.toNat) (e := gI E 5 (gup (K.2.1 w) w (K.1 w + 1))) (by omega))
  have hK59 := hK5
  obtain ⟨k1, ⟨fc, k2, hfc⟩, ⟨fk, k3, hfk⟩, k4, k5, k6⟩ := hK5
  try dsimp only at k4 k5 k6
  have hN5 := k4 w (by omega) (by omega)
  rw [show gup K.2.1 w (gup (K.2.1 w) w (K.1 w + 1)) w = gup (K.2.1 w) w (K.1 w + 1) from gup_at] at hN5
  refine g_aload_n 62 C dX1_put_61 rfl rfl ?_
  refine g_getf 65 C dX1_put_62 fl_RX1_11 rfl (by omega) k1 rfl rfl ?_
  refine g_iload_n 66 C dX1_put_65 rfl rfl ?_
  refine g_aald 67 C dX1_put_66 (by omega) k2 rfl rfl (by omega) (by decide) (hfc (s) (by omega) (by omega)) rfl ?_
  refine g_getf 70 C dX1_put_67 fl_RX1_37 rfl (by omega) (isC.h0 (k6 (s) (by omega) (by omega))) rfl rfl ?_
  refine g_aload_n 71 C dX1_put_70 rfl rfl ?_
  refine g_getf 74 C dX1_put_71 fl_RX1_19 rfl (by omega) k1 rfl rfl ?_
  refine g_iload_n 75 C dX1_put_74 rfl rfl ?_
  refine g_aald 76 C dX1_put_75 (by omega) k3 rfl rfl (by omega) (by decide) (hfk (w) (by omega) (by omega)) rfl ?_
  refine g_SN2v 79 0 0 C dX1_put_76 rfl ln_RX1_40 gs_X4_mergeInto ⟨⟨by decide, by decide⟩, by decide, by decide⟩ (Nat.le_of_ble_eq_true rfl) rfl rfl rfl (c_X4_mergeInto ((a + 9 + 4 * (s).toNat) + 1) (a + 3 + w.toNat) (K.2.2.1 s) (gup (K.2.1 w) w (K.1 w + 1)) (by omega) (by omega) (isC.h1 (k6 (s) (by omega) (by omega))) hN5 (by omega) (oV s (by omega) (by omega)) (okV_up (oN w (by omega) (by omega)) (by omega))) g_no (fun h6 e76 => ?_)
  obtain ⟨hc6, hk6⟩ := e76
  have hc7 := (k6 s (by omega) (by omega)).setV hc6 (gKp_wd hk6 (by omega) (by omega))
  have hK6 := hK59.setC (s := s) (by omega) (by omega) hc7 (gKp_wd hk6 (by omega) (by omega))
  have hk6 := gKp_tr hk5 (gKp_wd (a' := a) (b' := a + 21) hk6 (by omega) (by omega))
  rw [gup_same] at hK6
  exact g_vret C dX1_put_79 rfl ⟨by decide, by decide⟩ (⟨rfl, rfl, rfl, hK6, hk6⟩)
set_option maxRecDepth 100000 in
set_option maxHeartbeats 4000000 in
theorem c_X1_unlearn {E : gEnv} {n : Nat} {σ : Option Nat} {h : gH} (a : Nat) (K : gKy) (w : Int) (hab : gB E ≤ a ∧ a + 21 ≤ gB E + n) (hK : isK E h a K) (hok : okK K) (hw : 0 ≤ w ∧ w < 5)  : gM E mX1_unlearn [.ref a, .int (gi w)] n σ h (gD (some (.int (gi (kUnlS K w)))) n σ (fun h9 => isK E h9 a (kUnl K w) ∧ gKp a (a + 21) h h9)) (gNo) := by
  have hK9 := hK
  obtain ⟨k1, ⟨fc, k2, hfc⟩, ⟨fk, k3, hfk⟩, k4, k5, k6⟩ := hK
  obtain ⟨oW, oN, oV, oL⟩ := hok
  refine gM_of (by decide) (Nat.le_of_ble_eq_true rfl) (fun F C => ?_)
  refine g_iconst 1 C dX1_unlearn_0 rfl ?_
  refine g_istore_n 2 [(2, _), (0, _), (1, _)] C dX1_unlearn_1 (by decide) rfl rfl ?_
  refine g_iconst 3 C dX1_unlearn_2 rfl ?_
  refine g_istore_n 4 [(3, _), (2, _), (0, _), (1, _)] C dX1_unlearn_3 (by decide) rfl rfl ?_
  have lp4 : ∀ (k9 : Nat) (i : Nat) (h1 : gH), i ≤ 5 → (0 ≤ sumN (fun o => if o = w then 0 else K.2.1 w o) i ∧ sumN (fun o => if o = w then 0 else K.2.1 w o) i ≤ 1000 * (i : Int)) → isK E h1 a (K.1, gup K.2.1 w (mix (fun o => if o = w then K.2.1 w o else 0) (K.2.1 w) (i : Int)), K.2.2) → gKp a (a + 21) h h1 → 5 - i < k9 → G E F mX1_unlearn (gQ E F mX1_unlearn n (gD (some (.int (gi (kUnlS K w)))) n σ (fun h9 => isK E h9 a (kUnl K w) ∧ gKp a (a + 21) h h9)) (gNo)) n σ h1 0 0 4 [(3, .int (gi (i : Int))), (2, .int (gi (sumN (fun o => if o = w then 0 else K.2.1 w o) i))), (0, .ref a), (1, .int (gi w))] [] := by
    intro k9
    induction k9 with
    | zero => intro i h1 hi hS hK1 hk h0; exact absurd h0 (Nat.not_lt_zero _)
    | succ k9 ih4 =>
      intro i h1 hi hS hK1 hk hk4
      have hK19 := hK1
      obtain ⟨k1, ⟨fc, k2, hfc⟩, ⟨fk, k3, hfk⟩, k4, k5, k6⟩ := hK1
      try dsimp only at k4 k5 k6
      have hNw := k4 w (by omega) (by omega)
      rw [show gup K.2.1 w (mix (fun o => if o = w then K.2.1 w o else 0) (K.2.1 w) (i : Int)) w = mix (fun o => if o = w then K.2.1 w o else 0) (K.2.1 w) (i : Int) from gup_at] at hNw
      refine g_iload_n 5 C dX1_unlearn_4 rfl rfl ?_
      refine g_iconst 6 C dX1_unlearn_5 rfl ?_
      refine g_icmp_ge 40 9 C dX1_unlearn_6 rfl rfl (by omega) (by omega) (fun c6 => ?_) (fun c6 => ?_)
      · skip
        refine g_iload_n 41 C dX1_unlearn_40 rfl rfl ?_
        exact g_iret C dX1_unlearn_41 rfl ⟨by decide, by decide⟩ (⟨by rw [show i = 5 by omega]; rfl, rfl, rfl, hK19.ext (fun _ _ _ => rfl) (fun x h0 h5 o o0 o5 => by by_cases e : x = w; rw [e]; show gup K.2.1 w _ w o = gup K.2.1 w _ w o; rw [gup_at, gup_at]; exact mix_lo (by omega); show gup K.2.1 w _ x o = gup K.2.1 w _ x o; rw [gup_ne e, gup_ne e]) (fun _ _ _ _ _ _ => rfl) (fun _ _ _ => rfl), hk⟩)
      · skip
        have hv := oN w (by omega) (by omega) (i : Int) (by omega) (by omega)
        have em : mix (fun o => if o = w then K.2.1 w o else 0) (K.2.1 w) (i : Int) (i : Int) = K.2.1 w (i : Int) := mix_hi (Int.le_refl _)
        refine g_iload_n 10 C dX1_unlearn_9 rfl rfl ?_
        refine g_iload_n 11 C dX1_unlearn_10 rfl rfl ?_
        refine g_icmp_eq 34 14 C dX1_unlearn_11 rfl rfl (by omega) (by omega) (fun c11 => ?_) (fun c11 => ?_)
        · skip
          have hs9 : sumN (fun o => if o = w then 0 else K.2.1 w o) (i + 1) = sumN (fun o => if o = w then 0 else K.2.1 w o) i := by show sumN _ i + (if (i : Int) = w then 0 else K.2.1 w (i : Int)) = _; rw [if_pos c11, Int.add_zero]
          have hK8 : isK E h1 a (K.1, gup K.2.1 w (mix (fun o => if o = w then K.2.1 w o else 0) (K.2.1 w) ((i + 1 : Nat) : Int)), K.2.2) := by
            have e9 := mix_up (f := fun o => if o = w then K.2.1 w o else 0) (g := K.2.1 w) (i := (i : Int))
            rw [show (if (i : Int) = w then K.2.1 w (i : Int) else 0) = mix (fun o => if o = w then K.2.1 w o else 0) (K.2.1 w) (i : Int) (i : Int) by rw [em, if_pos c11], gup_same] at e9
            rw [show ((i + 1 : Nat) : Int) = (i : Int) + 1 from rfl, ← e9]
            exact hK19
          have hk8 := hk
          refine g_iinc 37 [(3, _), (2, _), (0, _), (1, _)] C dX1_unlearn_34 rfl (by decide) rfl rfl ?_
          refine g_goto 4 C dX1_unlearn_37 rfl ?_
          refine g_loc [(3, _), (2, .int (gi (sumN (fun o => if o = w then 0 else K.2.1 w o) (i + 1)))), (0, _), (1, _)] ⟨rfl, (by rw [hs9]; rfl), rfl, rfl, trivial⟩ ?_
          exact ih4 (i + 1) _ (by omega) (by rw [hs9]; omega) hK8 hk8 (by omega)
        · skip
          have hs9 : sumN (fun o => if o = w then 0 else K.2.1 w o) (i + 1) = sumN (fun o => if o = w then 0 else K.2.1 w o) i + K.2.1 w (i : Int) := by show sumN _ i + (if (i : Int) = w then 0 else K.2.1 w (i : Int)) = _; rw [if_neg c11]
          refine g_iload_n 15 C dX1_unlearn_14 rfl rfl ?_
          refine g_aload_n 16 C dX1_unlearn_15 rfl rfl ?_
          refine g_getf 19 C dX1_unlearn_16 fl_RX1_19 rfl (by omega) k1 rfl rfl ?_
          refine g_iload_n 20 C dX1_unlearn_19 rfl rfl ?_
          refine g_aald 21 C dX1_unlearn_20 (by omega) k3 rfl rfl (by omega) (by decide) (hfk (w) (by omega) (by omega)) rfl ?_
          refine g_iload_n 22 C dX1_unlearn_21 rfl rfl ?_
          refine g_iald 23 C dX1_unlearn_22 (by omega) hNw (by omega) (by decide) rfl ?_
          rw [em]
          refine g_iadd 24 C dX1_unlearn_23 rfl ?_
          refine g_istore_n 25 [(2, _), (3, _), (0, _), (1, _)] C dX1_unlearn_24 (by decide) rfl rfl ?_
          refine g_aload_n 26 C dX1_unlearn_25 rfl rfl ?_
          refine g_getf 29 C dX1_unlearn_26 fl_RX1_19 rfl (by omega) k1 rfl rfl ?_
          refine g_iload_n 30 C dX1_unlearn_29 rfl rfl ?_
          refine g_aald 31 C dX1_unlearn_30 (by omega) k3 rfl rfl (by omega) (by decide) (hfk (w) (by omega) (by omega)) rfl ?_
          refine g_iload_n 32 C dX1_unlearn_31 rfl rfl ?_
          refine g_iconst 33 C dX1_unlearn_32 rfl ?_
          refine g_iast 34 C dX1_unlearn_33 (by omega) hNw (by omega) (by decide) rfl ?_
          have e9 := mix_up (f := fun o => if o = w then K.2.1 w o else 0) (g := K.2.1 w) (i := (i : Int))
          rw [show (if (i : Int) = w then K.2.1 w (i : Int) else 0) = 0 from if_neg c11] at e9
          have hK8 := hK19.setN (w := w) (f' := mix (fun o => if o = w then K.2.1 w o else 0) (K.2.1 w) ((i : Int) + 1)) (h1 := va_up h1 (a + 3 + w.toNat) (gI E 5 (gup (mix (fun o => if o = w then K.2.1 w o else 0) (K.2.1 w) (i : Int)) (i : Int) 0))) (by omega) (by omega) (by rw [up_s, e9]) (gKp_up (by omega))
          dsimp only at hK8
          rw [gup_gup] at hK8
          have hk8 := gKp_tr hk (gKp_up (a := a) (b := a + 21) (h := h1) (q := a + 3 + w.toNat) (e := gI E 5 (gup (mix (fun o => if o = w then K.2.1 w o else 0) (K.2.1 w) (i : Int)) (i : Int) 0)) (by omega))
          refine g_iinc 37 [(3, _), (2, _), (0, _), (1, _)] C dX1_unlearn_34 rfl (by decide) rfl rfl ?_
          refine g_goto 4 C dX1_unlearn_37 rfl ?_
          refine g_loc [(3, _), (2, .int (gi (sumN (fun o => if o = w then 0 else K.2.1 w o) (i + 1)))), (0, _), (1, _)] ⟨rfl, (by rw [hs9]; rfl), rfl, rfl, trivial⟩ ?_
          exact ih4 (i + 1) _ (by omega) (by rw [hs9]; omega) hK8 hk8 (by omega)
  refine g_loc [(3, _), (2, _), (0, _), (1, _)] ⟨rfl, rfl, rfl, rfl, trivial⟩ ?_
  exact lp4 _ 0 h (by omega) ⟨Int.le_refl _, Int.le_refl _⟩ (hK9.ext (fun _ _ _ => rfl) (fun x h0 h5 o o0 o5 => by
      by_cases e : x = w
      · rw [e]
        show K.2.1 w o = gup K.2.1 w _ w o
        rw [gup_at]
        exact (mix_hi (by omega)).symm
      · show K.2.1 x o = gup K.2.1 w _ x o
        rw [gup_ne e]) (fun _ _ _ _ _ _ => rfl) (fun _ _ _ => rfl)) gKp_rf (Nat.lt_succ_self _)
