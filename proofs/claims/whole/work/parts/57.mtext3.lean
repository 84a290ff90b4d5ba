/-! SiblingJoinsModel: a part of a text is done -/
/-- part p as it is told -/
def isTd (fo : Int → Int) (p : Int) (P : gPt) : Prop := fo (5 * p) = gbi P.2.1 ∧ fo (5 * p + 1) = P.2.2.1 ∧ fo (5 * p + 2) = P.2.2.2.1 ∧ fo (5 * p + 3) = P.2.2.2.2.1 ∧ (P.2.1 = true → fo (5 * p + 4) = P.2.2.2.2.2)
set_option maxRecDepth 100000 in
set_option maxHeartbeats 4000000 in
theorem c_X5_does {E : gEnv} {n : Nat} {σ : Option Nat} {h : gH} (m : Nat) (T : gTt) (g : Int → Int) (hs : Int64) (f fp fo : Int → Int) (p : Int) (P : gPt) (hmb : gB E ≤ m ∧ m + 7 ≤ gB E + n) (X0 : isMx E h m T g hs f fp) (hokS : okS T.1) (hI : gIv T.1) (htl : h (m + 6) = gI E 60 fo) (hp : 0 ≤ p ∧ p < 12) (hT : isTd fo p P) (hP : okP P) : gM E mX5_does [.ref m, .int (gi p)] n σ h (gD (some (.int (gi (gbi (rpS T.1 P).isSome)))) n σ (fun h9 => (∃ f9 : Int → Int, isMx E h9 m ((rpS T.1 P).getD T.1, T.2) g hs f9 fp ∧ h9 (m + 6) = gI E 60 fo) ∧ gKp m (m + 7) h h9)) (gNo) := by
  obtain ⟨x1, z1, x3, -⟩ := id X0
  have m1 := x1
  unfold isMo at m1
  obtain ⟨t0, t1, t2, t3, t4⟩ := hT
  obtain ⟨p1, p2, p3, p4, p5, p6, p7⟩ := hP
  have hRk := x3.1 P.2.2.2.1 (by omega) (by omega)
  have hoK := hokS P.2.2.2.1 (by omega) (by omega)
  refine gM_of (by decide) (Nat.le_of_ble_eq_true rfl) (fun F C => ?_)
  refine g_iconst 1 C dX5_does_0 rfl ?_
  refine g_iload_n 2 C dX5_does_1 rfl rfl ?_
  refine g_imul 3 C dX5_does_2 rfl ?_
  refine g_istore_n 4 [(2, _), (0, _), (1, _)] C dX5_does_3 (by decide) rfl rfl ?_
  refine g_aload_n 5 C dX5_does_4 rfl rfl ?_
  refine g_getf 8 C dX5_does_5 fl_RX5_25 rfl (by omega) m1 rfl rfl ?_
  refine g_iload_n 9 C dX5_does_8 rfl rfl ?_
  refine g_iconst 10 C dX5_does_9 rfl ?_
  refine g_iadd 11 C dX5_does_10 rfl ?_
  refine g_iald 12 C dX5_does_11 (by omega) htl (by omega) (by decide) rfl ?_
  rw [t1]
  refine g_istore_n 13 [(3, _), (2, _), (0, _), (1, _)] C dX5_does_12 (by decide) rfl rfl ?_
  refine g_aload_n 14 C dX5_does_13 rfl rfl ?_
  refine g_getf 17 C dX5_does_14 fl_RX5_25 rfl (by omega) m1 rfl rfl ?_
  refine g_iload_n 18 C dX5_does_17 rfl rfl ?_
  refine g_iconst 19 C dX5_does_18 rfl ?_
  refine g_iadd 20 C dX5_does_19 rfl ?_
  refine g_iald 21 C dX5_does_20 (by omega) htl (by omega) (by decide) rfl ?_
  rw [t2]
  refine g_istore 23 [(4, _), (3, _), (2, _), (0, _), (1, _)] C dX5_does_21 (by decide) rfl rfl ?_
  refine g_aload_n 24 C dX5_does_23 rfl rfl ?_
  refine g_getf 27 C dX5_does_24 fl_RX5_25 rfl (by omega) m1 rfl rfl ?_
  refine g_iload_n 28 C dX5_does_27 rfl rfl ?_
  refine g_iconst 29 C dX5_does_28 rfl ?_
  refine g_iadd 30 C dX5_does_29 rfl ?_
  refine g_iald 31 C dX5_does_30 (by omega) htl (by omega) (by decide) rfl ?_
  rw [t3]
  refine g_istore 33 [(5, _), (4, _), (3, _), (2, _), (0, _), (1, _)] C dX5_does_31 (by decide) rfl rfl ?_
  refine g_aload_n 34 C dX5_does_33 rfl rfl ?_
  refine g_getf 37 C dX5_does_34 fl_RX5_25 rfl (by omega) m1 rfl rfl ?_
  refine g_iload_n 38 C dX5_does_37 rfl rfl ?_
  refine g_iald 39 C dX5_does_38 (by omega) htl (by omega) (by decide) rfl ?_
  rw [t0]
  refine g_if_ne 61 42 C dX5_does_39 rfl rfl (gbi_r _) (fun c39 => ?_) (fun c39 => ?_)
  · skip
    have hw := gbi_1 c39
    have t4 := t4 hw
    refine g_aload_n 62 C dX5_does_61 rfl rfl ?_
    refine g_iload_n 63 C dX5_does_62 rfl rfl ?_
    refine g_iload 65 C dX5_does_63 rfl rfl ?_
    refine g_iload 67 C dX5_does_65 rfl rfl ?_
    refine g_V3r 70 0 0 C dX5_does_67 rfl lk_RX5_99 gi_X5_mayWrite gv_X5_mayWrite ⟨_, _, rfl⟩ (by omega) m1 ⟨⟨by decide, by decide⟩, by decide, by decide⟩ (Nat.le_of_ble_eq_true rfl) rfl rfl rfl (c_X5_mayWrite m g hs f P.2.2.2.1 (T.1.1 P.2.2.2.1) P.2.2.1 P.2.2.2.2.1 hmb x1 z1 (by omega) hRk hoK (by omega) (by omega)) g_no (fun h9 e67 => ?_)
    replace e67 := e67.symm
    subst e67
    refine g_if_eq 97 73 C dX5_does_70 rfl rfl (gbi_r _) (fun c70 => ?_) (fun c70 => ?_)
    · skip
      have hm := of_decide_eq_false (gbi_0 c70)
      have er : rpS T.1 P = none := by unfold rpS; rw [if_neg (show ¬ P.2.1 = false by rw [hw]; decide), if_neg hm]
      refine g_iconst 98 C dX5_does_97 rfl ?_
      exact g_zret C dX5_does_98 rfl rfl ⟨by decide, by decide⟩ (by rw [er]; exact ⟨rfl, rfl, rfl, ⟨f, X0, htl⟩, gKp_rf⟩)
    · skip
      have hm := of_decide_eq_true (gbi_1 c70)
      have er : rpS T.1 P = some (sRep T.1 P.2.2.1 P.2.2.2.1 P.2.2.2.2.1 P.2.2.2.2.2) := by unfold rpS; rw [if_neg (show ¬ P.2.1 = false by rw [hw]; decide), if_pos hm]
      refine g_aload_n 74 C dX5_does_73 rfl rfl ?_
      refine g_iload_n 75 C dX5_does_74 rfl rfl ?_
      refine g_iload 77 C dX5_does_75 rfl rfl ?_
      refine g_iload 79 C dX5_does_77 rfl rfl ?_
      refine g_aload_n 80 C dX5_does_79 rfl rfl ?_
      refine g_getf 83 C dX5_does_80 fl_RX5_25 rfl (by omega) m1 rfl rfl ?_
      refine g_iload_n 84 C dX5_does_83 rfl rfl ?_
      refine g_iconst 85 C dX5_does_84 rfl ?_
      refine g_iadd 86 C dX5_does_85 rfl ?_
      refine g_iald 87 C dX5_does_86 (by omega) htl (by omega) (by decide) rfl ?_
      rw [t4]
      refine g_V4r 90 0 0 C dX5_does_87 rfl lk_RX5_102 gi_X5_writes gv_X5_writes ⟨_, _, rfl⟩ (by omega) m1 ⟨⟨by decide, by decide⟩, by decide, by decide⟩ (Nat.le_of_ble_eq_true rfl) rfl rfl rfl (c_X5_writes m g hs f T.1 P.2.2.1 P.2.2.2.1 P.2.2.2.2.1 P.2.2.2.2.2 hmb x1 z1 x3 hokS (by omega) (by omega) (by omega) (by omega) hm.1 (room_w hm.2)) g_no (fun h3 e87 => ?_)
      obtain ⟨⟨f3, z3, Z3⟩, k3⟩ := e87
      have X3 := X0.zed z3 Z3 k3
      have hwd : 0 ≤ wDrop (T.1.1 P.2.2.2.1) P.2.2.1 P.2.2.2.2.1 := Int.natCast_nonneg _
      have hwd2 : wDrop (T.1.1 P.2.2.2.1) P.2.2.1 P.2.2.2.2.1 ≤ 4 := by
        have z := okK_cnt (s := P.2.2.2.2.1) hoK (by omega) (by omega) (fun p => cov ((T.1.1 P.2.2.2.1).2.1 P.2.2.1) p.1)
        show (((T.1.1 P.2.2.2.1).2.2.2 P.2.2.2.2.1).countP (fun p => cov ((T.1.1 P.2.2.2.1).2.1 P.2.2.1) p.1) : Int) ≤ 4
        omega
      refine g_if_lt 97 93 C dX5_does_90 rfl rfl (by omega) (fun c90 => ?_) (fun c90 => ?_)
      · skip
        exact absurd c90 (by omega)
      · skip
        refine g_iconst 94 C dX5_does_93 rfl ?_
        refine g_goto 98 C dX5_does_94 rfl ?_
        exact g_zret C dX5_does_98 rfl rfl ⟨by decide, by decide⟩ (by rw [er]; exact ⟨rfl, rfl, rfl, ⟨f3, X3, (k3 _ (by omega)).trans htl⟩, gKp_wd k3 (by omega) (by omega)⟩)
  · skip
    have hw := gbi_0 c39
    refine g_aload_n 43 C dX5_does_42 rfl rfl ?_
    refine g_iload 45 C dX5_does_43 rfl rfl ?_
    refine g_iload_n 46 C dX5_does_45 rfl rfl ?_
    refine g_S2r 49 0 0 C dX5_does_46 rfl lk_RX5_54 gs_X5_knowsAt ⟨⟨by decide, by decide⟩, by decide, by decide⟩ (Nat.le_of_ble_eq_true rfl) rfl rfl rfl (c_X5_knowsAt P.2.2.2.1 P.2.2.1) g_no (fun h9 e46 => ?_)
    replace e46 := e46.symm
    subst e46
    refine g_iload 51 C dX5_does_49 rfl rfl ?_
    refine g_iload 53 C dX5_does_51 rfl rfl ?_
    refine g_S2r 56 0 0 C dX5_does_53 rfl lk_RX5_75 gs_X5_vectorAt ⟨⟨by decide, by decide⟩, by decide, by decide⟩ (Nat.le_of_ble_eq_true rfl) rfl rfl rfl (c_X5_vectorAt P.2.2.2.1 P.2.2.2.2.1) g_no (fun h9 e53 => ?_)
    replace e53 := e53.symm
    subst e53
    refine g_V2v 59 0 0 C dX5_does_56 rfl lk_RX5_78 gi_X5_merges gv_X5_merges ⟨_, _, rfl⟩ (by omega) m1 ⟨⟨by decide, by decide⟩, by decide, by decide⟩ (Nat.le_of_ble_eq_true rfl) rfl rfl rfl (c_X5_merges m g hs f (15 + 25 * P.2.2.2.1 + 5 * P.2.2.1) (90 + 15 * P.2.2.2.1 + 5 * P.2.2.2.2.1) ((T.1.1 P.2.2.2.1).2.1 P.2.2.1) ((T.1.1 P.2.2.2.1).2.2.1 P.2.2.2.2.1) hmb x1 z1 (by omega) (by omega) (by omega) (hRk.2.1 P.2.2.1 (by omega) (by omega)) (hRk.2.2.1 P.2.2.2.2.1 (by omega) (by omega)) (hoK.2.1 P.2.2.1 (by omega) (by omega)) (hoK.2.2.1 P.2.2.2.2.1 (by omega) (by omega))) g_no (fun h3 e56 => ?_)
    obtain ⟨⟨f3, z3, rv3, fk3⟩, k3⟩ := e56
    have R3 := hRk.setN (w := P.2.2.1) hoK (by omega) (by omega) rv3 fk3
    have Z3 := x3.setK (K' := kLearn (T.1.1 P.2.2.2.1) P.2.2.1 P.2.2.2.2.1) hokS (by omega) R3 (fKy_N (w := P.2.2.1) (by omega) fk3)
    have X3 := X0.zed z3 Z3 k3
    have er : rpS T.1 P = some (gup T.1.1 P.2.2.2.1 (kLearn (T.1.1 P.2.2.2.1) P.2.2.1 P.2.2.2.2.1), T.1.2) := if_pos hw
    refine g_iconst 60 C dX5_does_59 rfl ?_
    exact g_zret C dX5_does_60 rfl rfl ⟨by decide, by decide⟩ (by rw [er]; exact ⟨rfl, rfl, rfl, ⟨f3, X3, (k3 _ (by omega)).trans htl⟩, gKp_wd k3 (by omega) (by omega)⟩)
