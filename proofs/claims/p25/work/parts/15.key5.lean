/-! SiblingJoins$KeyState: become, init -/
theorem gC_ov {E : gEnv} {F : gFr} {t : gMt} (C : gC E F t) : gOv F.2.2.1 := C.2.2.2.2.2.1.2.2.2.2.2.2.2.2
theorem okK_0 : okK (fun _ => 0, fun _ _ => 0, fun _ _ => 0, fun _ => []) := ⟨fun _ _ _ => (by decide : (0:Int) ≤ 0 ∧ (0:Int) < 1000), fun _ _ _ _ _ _ => (by decide : (0:Int) ≤ 0 ∧ (0:Int) < 1000), fun _ _ _ _ _ _ => (by decide : (0:Int) ≤ 0 ∧ (0:Int) < 1000), fun _ _ _ => ⟨Nat.zero_le _, fun p hp => absurd hp List.not_mem_nil⟩⟩
set_option maxRecDepth 100000 in
set_option maxHeartbeats 4000000 in
theorem c_X1_become {E : gEnv} {n : Nat} {σ : Option Nat} {h : gH} (a b : Nat) (K K2 : gKy) (hab : gB E ≤ a ∧ a + 21 ≤ gB E + n) (hbb : gB E ≤ b ∧ b + 21 ≤ gB E + n) (hd : a + 21 ≤ b ∨ b + 21 ≤ a) (hK : isK E h a K) (hok : okK K) (hK2 : isK E h b K2) (hok2 : okK K2)  : gM E mX1_become [.ref a, .ref b] n none h (gD none n none (fun h9 => isK E h9 a K2 ∧ gKp a (a + 21) h h9)) (gNo) := by
  obtain ⟨oW, oN, oV, oL⟩ := hok
  obtain ⟨pW, pN, pV, pL⟩ := hok2
  refine gM_of (by decide) (Nat.le_of_ble_eq_true rfl) (fun F C => ?_)
  refine g_iconst 1 C dX1_become_0 rfl ?_
  refine g_istore_n 2 [(2, _), (0, _), (1, _)] C dX1_become_1 (by decide) rfl rfl ?_
  have lp2 : ∀ (k9 : Nat) (i : Nat) (h1 : gH), i ≤ 3 → isK E h1 a (K.1, K.2.1, (mix K2.2.2.1 K.2.2.1 (i : Int)), (mix K2.2.2.2 K.2.2.2 (i : Int))) → gKp a (a + 21) h h1 → 3 - i < k9 → G E F mX1_become (gQ E F mX1_become n (gD none n none (fun h9 => isK E h9 a K2 ∧ gKp a (a + 21) h h9)) (gNo)) n none h1 0 0 2 [(2, .int (gi (i : Int))), (0, .ref a), (1, .ref b)] [] := by
    intro k9
    induction k9 with
    | zero => intro i h1 hi hK1 hk h0; exact absurd h0 (Nat.not_lt_zero _)
    | succ k9 ih2 =>
      intro i h1 hi hK1 hk hk2
      have hK19 := hK1
      have hM1 : isK E h1 b K2 := hK2.kept (fun q z1 z2 => hk q (by omega))
      obtain ⟨k1, ⟨kc, k2, kfc⟩, ⟨kn, k3, kfk⟩, k4, k5, k6⟩ := hK1
      try dsimp only at k4 k5 k6
      obtain ⟨m1, ⟨mc, m2, mfc⟩, ⟨mn, m3, mfk⟩, m4, m5, m6⟩ := hM1
      try dsimp only at m4 m5 m6
      skip
      refine g_iload_n 3 C dX1_become_2 rfl rfl ?_
      refine g_iconst 4 C dX1_become_3 rfl ?_
      refine g_icmp_ge 28 7 C dX1_become_4 rfl rfl (by omega) (by omega) (fun c4 => ?_) (fun c4 => ?_)
      · skip
        refine g_iconst 29 C dX1_become_28 rfl ?_
        refine g_istore_n 30 [(2, _), (0, _), (1, _)] C dX1_become_29 (by decide) rfl rfl ?_
        have lp30 : ∀ (k9 : Nat) (i : Nat) (h1 : gH), i ≤ 5 → isK E h1 a (K.1, (mix K2.2.1 K.2.1 (i : Int)), K2.2.2) → gKp a (a + 21) h h1 → 5 - i < k9 → G E F mX1_become (gQ E F mX1_become n (gD none n none (fun h9 => isK E h9 a K2 ∧ gKp a (a + 21) h h9)) (gNo)) n none h1 0 0 30 [(2, .int (gi (i : Int))), (0, .ref a), (1, .ref b)] [] := by
          intro k9
          induction k9 with
          | zero => intro i h1 hi hK1 hk h0; exact absurd h0 (Nat.not_lt_zero _)
          | succ k9 ih30 =>
            intro i h1 hi hK1 hk hk30
            have hK19 := hK1
            have hM1 : isK E h1 b K2 := hK2.kept (fun q z1 z2 => hk q (by omega))
            obtain ⟨k1, ⟨kc, k2, kfc⟩, ⟨kn, k3, kfk⟩, k4, k5, k6⟩ := hK1
            try dsimp only at k4 k5 k6
            obtain ⟨m1, ⟨mc, m2, mfc⟩, ⟨mn, m3, mfk⟩, m4, m5, m6⟩ := hM1
            try dsimp only at m4 m5 m6
            skip
            refine g_iload_n 31 C dX1_become_30 rfl rfl ?_
            refine g_iconst 32 C dX1_become_31 rfl ?_
            refine g_icmp_ge 59 35 C dX1_become_32 rfl rfl (by omega) (by omega) (fun c32 => ?_) (fun c32 => ?_)
            · skip
              refine g_aload_n 60 C dX1_become_59 rfl rfl ?_
              refine g_getf 63 C dX1_become_60 fl_RX1_22 rfl (by omega) m1 rfl rfl ?_
              refine g_iconst 64 C dX1_become_63 rfl ?_
              refine g_aload_n 65 C dX1_become_64 rfl rfl ?_
              refine g_getf 68 C dX1_become_65 fl_RX1_22 rfl (by omega) k1 rfl rfl ?_
              refine g_iconst 69 C dX1_become_68 rfl ?_
              refine g_iconst 70 C dX1_become_69 rfl ?_
              refine g_copy 73 C dX1_become_70 rfl sp_RX1_31 (by omega) m5 (by omega) k5 (by omega) (by omega) (by omega) (by omega) (by omega) (by decide) (by decide) (Nat.le_of_ble_eq_true rfl) rfl ?_
              have hcp : gI E 5 (gcpy K2.1 K.1 0 0 5) = gI E 5 K2.1 := gI_ext (fun j h0 h5 => by rw [gcpy_in (by omega), show (0 : Int) + (j - 0) = j by omega])
              rw [hcp]
              have hK8 := (hK19.setW (h1 := va_up h1 (a + 8) (gI E 5 K2.1)) up_s (gKp_up (by omega))).ext (K' := K2) (fun _ _ _ => rfl) (fun x h0 h5 o o0 o5 => by dsimp only; rw [mix_lo (show x < (i : Int) by omega)]) (fun _ _ _ _ _ _ => rfl) (fun _ _ _ => rfl)
              have hk8 := gKp_tr hk (gKp_up (a := a) (b := a + 21) (h := h1) (q := a + 8) (e := gI E 5 K2.1) (by omega))
              exact g_vret C dX1_become_73 rfl ⟨by decide, by decide⟩ (⟨rfl, rfl, rfl, hK8, hk8⟩)
            · skip
              refine g_aload_n 36 C dX1_become_35 rfl rfl ?_
              refine g_getf 39 C dX1_become_36 fl_RX1_19 rfl (by omega) m1 rfl rfl ?_
              refine g_iload_n 40 C dX1_become_39 rfl rfl ?_
              refine g_aald 41 C dX1_become_40 (by omega) m3 rfl rfl (by omega) (by decide) (mfk ((i : Int)) (by omega) (by omega)) rfl ?_
              refine g_iconst 42 C dX1_become_41 rfl ?_
              refine g_aload_n 43 C dX1_become_42 rfl rfl ?_
              refine g_getf 46 C dX1_become_43 fl_RX1_19 rfl (by omega) k1 rfl rfl ?_
              refine g_iload_n 47 C dX1_become_46 rfl rfl ?_
              refine g_aald 48 C dX1_become_47 (by omega) k3 rfl rfl (by omega) (by decide) (kfk ((i : Int)) (by omega) (by omega)) rfl ?_
              refine g_iconst 49 C dX1_become_48 rfl ?_
              refine g_iconst 50 C dX1_become_49 rfl ?_
              refine g_copy 53 C dX1_become_50 rfl sp_RX1_31 (by omega) (m4 ((i : Int)) (by omega) (by omega)) (by omega) (k4 ((i : Int)) (by omega) (by omega)) (by omega) (by omega) (by omega) (by omega) (by omega) (by decide) (by decide) (Nat.le_of_ble_eq_true rfl) rfl ?_
              have hcp : gI E 5 (gcpy (K2.2.1 (i : Int)) ((mix K2.2.1 K.2.1 (i : Int)) (i : Int)) 0 0 5) = gI E 5 (K2.2.1 (i : Int)) := gI_ext (fun j h0 h5 => by rw [gcpy_in (by omega), show (0 : Int) + (j - 0) = j by omega])
              rw [hcp]
              have hK8 := hK19.setN (w := (i : Int)) (f' := K2.2.1 (i : Int)) (h1 := va_up h1 (a + 3 + (i : Int).toNat) (gI E 5 (K2.2.1 (i : Int)))) (by omega) (by omega) up_s (gKp_up (by omega))
              try dsimp only at hK8
              rw [mix_up] at hK8
              have hk8 := gKp_tr hk (gKp_up (a := a) (b := a + 21) (h := h1) (q := a + 3 + (i : Int).toNat) (e := gI E 5 (K2.2.1 (i : Int))) (by omega))
              refine g_iinc 56 [(2, _), (0, _), (1, _)] C dX1_become_53 rfl (by decide) rfl rfl ?_
              refine g_goto 30 C dX1_become_56 rfl ?_
              refine g_loc [(2, _), (0, _), (1, _)] ⟨rfl, rfl, rfl, trivial⟩ ?_
              exact ih30 (i + 1) _ (by omega) hK8 hk8 (by omega)
        refine g_loc [(2, _), (0, _), (1, _)] ⟨rfl, rfl, rfl, trivial⟩ ?_
        exact lp30 _ 0 h1 (by omega) (hK19.ext (fun _ _ _ => rfl) (fun x h0 h5 o o0 o5 => by dsimp only; rw [mix_hi (show ((0 : Nat) : Int) ≤ x by omega)]) (fun x h0 h5 o o0 o5 => by dsimp only; rw [mix_lo (show x < (i : Int) by omega)]) (fun x h0 h5 => by dsimp only; rw [mix_lo (show x < (i : Int) by omega)])) hk (Nat.lt_succ_self _)
      · skip
        have hc9 := k6 (i : Int) (by omega) (by omega)
        rw [mix_hi (Int.le_refl _), mix_hi (Int.le_refl _)] at hc9
        refine g_aload_n 8 C dX1_become_7 rfl rfl ?_
        refine g_getf 11 C dX1_become_8 fl_RX1_11 rfl (by omega) k1 rfl rfl ?_
        refine g_iload_n 12 C dX1_become_11 rfl rfl ?_
        refine g_aald 13 C dX1_become_12 (by omega) k2 rfl rfl (by omega) (by decide) (kfc ((i : Int)) (by omega) (by omega)) rfl ?_
        refine g_aload_n 14 C dX1_become_13 rfl rfl ?_
        refine g_getf 17 C dX1_become_14 fl_RX1_11 rfl (by omega) m1 rfl rfl ?_
        refine g_iload_n 18 C dX1_become_17 rfl rfl ?_
        refine g_aald 19 C dX1_become_18 (by omega) m2 rfl rfl (by omega) (by decide) (mfc ((i : Int)) (by omega) (by omega)) rfl ?_
        refine g_V1v 22 0 0 C dX1_become_19 rfl lk_RX1_27 gi_X0_become gv_X0_become ⟨_, _, rfl⟩ (by omega) (isC.h0 (k6 ((i : Int)) (by omega) (by omega))) ⟨⟨by decide, by decide⟩, by decide, by decide⟩ (Nat.le_of_ble_eq_true rfl) rfl rfl rfl (c_X0_become (σ := none) (a + 9 + 4 * (i : Int).toNat) (K.2.2.1 (i : Int)) (K.2.2.2 (i : Int)) (b + 9 + 4 * (i : Int).toNat) (K2.2.2.1 (i : Int)) (K2.2.2.2 (i : Int)) (by omega) hc9 (oL (i : Int) (by omega) (by omega)) (by omega) (m6 (i : Int) (by omega) (by omega)) (pL (i : Int) (by omega) (by omega)) (by omega)) g_no (fun h2 e19 => ?_)
        obtain ⟨hc2, hk2⟩ := e19
        have hK8 := hK19.setC (s := (i : Int)) (by omega) (by omega) hc2 hk2
        try dsimp only at hK8
        rw [mix_up, mix_up] at hK8
        have hk8 := gKp_tr hk (gKp_wd hk2 (by omega) (by omega))
        refine g_iinc 25 [(2, _), (0, _), (1, _)] C dX1_become_22 rfl (by decide) rfl rfl ?_
        refine g_goto 2 C dX1_become_25 rfl ?_
        refine g_loc [(2, _), (0, _), (1, _)] ⟨rfl, rfl, rfl, trivial⟩ ?_
        exact ih2 (i + 1) _ (by omega) hK8 hk8 (by omega)
  refine g_loc [(2, _), (0, _), (1, _)] ⟨rfl, rfl, rfl, trivial⟩ ?_
  exact lp2 _ 0 h (by omega) (hK.ext (fun _ _ _ => rfl) (fun _ _ _ _ _ _ => rfl) (fun x h0 h5 o o0 o5 => by dsimp only; rw [mix_hi (show ((0 : Nat) : Int) ≤ x by omega)]) (fun x h0 h5 => by dsimp only; rw [mix_hi (show ((0 : Nat) : Int) ≤ x by omega)])) gKp_rf (Nat.lt_succ_self _)
