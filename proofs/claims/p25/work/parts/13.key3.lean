/-! SiblingJoins$KeyState: what is looked at -/
theorem hasW_r (b : Bool) : gbi b = 0 ∨ gbi b = 1 := by cases b; exact Or.inl rfl; exact Or.inr rfl
set_option maxRecDepth 100000 in
set_option maxHeartbeats 4000000 in
theorem c_X1_hindrance {E : gEnv} {n : Nat} {σ : Option Nat} {h : gH} (a : Nat) (K : gKy) (w : Int) (hab : gB E ≤ a ∧ a + 21 ≤ gB E + n) (hK : isK E h a K) (hok : okK K) (hw : 0 ≤ w ∧ w < 5)  : gM E mX1_hindrance [.ref a, .int (gi w)] n σ h (gD (some (.int (gi (hind K w)))) n σ (fun h9 => h9 = h)) (gNo) := by
  have hK9 := hK
  obtain ⟨k1, ⟨fc, k2, hfc⟩, ⟨fk, k3, hfk⟩, k4, k5, k6⟩ := hK
  obtain ⟨oW, oN, oV, oL⟩ := hok
  refine gM_of (by decide) (Nat.le_of_ble_eq_true rfl) (fun F C => ?_)
  refine g_iconst 1 C dX1_hindrance_0 rfl ?_
  refine g_istore_n 2 [(2, _), (0, _), (1, _)] C dX1_hindrance_1 (by decide) rfl rfl ?_
  refine g_iconst 3 C dX1_hindrance_2 rfl ?_
  refine g_istore_n 4 [(3, _), (2, _), (0, _), (1, _)] C dX1_hindrance_3 (by decide) rfl rfl ?_
  have lp4 : ∀ (k9 : Nat) (i : Nat), i ≤ 3 → rgA (fun s : Int => hasW (K.2.2.2 s) w) i = false → 3 - i < k9 → G E F mX1_hindrance (gQ E F mX1_hindrance n (gD (some (.int (gi (hind K w)))) n σ (fun h9 => h9 = h)) (gNo)) n σ h 0 0 4 [(3, .int (gi (i : Int))), (2, .int (gi (gbi (rgA (fun s : Int => !(K.2.2.1 s w == K.2.2.1 0 w)) i)))), (0, .ref a), (1, .int (gi w))] [] := by
    intro k9
    induction k9 with
    | zero => intro i hi hno h0; exact absurd h0 (Nat.not_lt_zero _)
    | succ k9 ih4 =>
      intro i hi hno hk4
      refine g_iload_n 5 C dX1_hindrance_4 rfl rfl ?_
      refine g_iconst 6 C dX1_hindrance_5 rfl ?_
      refine g_icmp_ge 57 9 C dX1_hindrance_6 rfl rfl (by omega) (by omega) (fun c6 => ?_) (fun c6 => ?_)
      · skip
        have e3 : i = 3 := by omega
        subst e3
        refine g_iload_n 58 C dX1_hindrance_57 rfl rfl ?_
        refine g_if_eq 65 61 C dX1_hindrance_58 rfl rfl (gbi_r _) (fun c58 => ?_) (fun c58 => ?_)
        · skip
          have ec : hind K w = 0 := by unfold hind; rw [hno, gbi_0 c58]; rfl
          refine g_iconst 66 C dX1_hindrance_65 rfl ?_
          exact g_iret C dX1_hindrance_66 rfl ⟨by decide, by decide⟩ (by rw [ec]; exact ⟨rfl, rfl, rfl, rfl⟩)
        · skip
          have ec : hind K w = 2 := by unfold hind; rw [hno, gbi_1 c58]; rfl
          refine g_iconst 62 C dX1_hindrance_61 rfl ?_
          refine g_goto 66 C dX1_hindrance_62 rfl ?_
          exact g_iret C dX1_hindrance_66 rfl ⟨by decide, by decide⟩ (by rw [ec]; exact ⟨rfl, rfl, rfl, rfl⟩)
      · skip
        have hv := oV (i : Int) (by omega) (by omega) w (by omega) (by omega)
        have hv0 := oV 0 (by omega) (by omega) w (by omega) (by omega)
        refine g_aload_n 10 C dX1_hindrance_9 rfl rfl ?_
        refine g_getf 13 C dX1_hindrance_10 fl_RX1_11 rfl (by omega) k1 rfl rfl ?_
        refine g_iload_n 14 C dX1_hindrance_13 rfl rfl ?_
        refine g_aald 15 C dX1_hindrance_14 (by omega) k2 rfl rfl (by omega) (by decide) (hfc ((i : Int)) (by omega) (by omega)) rfl ?_
        refine g_iload_n 16 C dX1_hindrance_15 rfl rfl ?_
        refine g_V1r 19 0 0 C dX1_hindrance_16 rfl lk_RX1_74 gi_X0_hasOneOf gv_X0_hasOneOf ⟨_, _, rfl⟩ (by omega) (isC.h0 (k6 ((i : Int)) (by omega) (by omega))) ⟨⟨by decide, by decide⟩, by decide, by decide⟩ (Nat.le_of_ble_eq_true rfl) rfl rfl rfl (c_X0_hasOneOf (a + 9 + 4 * (i : Int).toNat) (K.2.2.1 (i : Int)) (K.2.2.2 (i : Int)) w (by omega) (k6 (i : Int) (by omega) (by omega)) (oL (i : Int) (by omega) (by omega)) hw) g_no (fun h9 e16 => ?_)
        subst e16
        refine g_if_eq 24 22 C dX1_hindrance_19 rfl rfl (gbi_r _) (fun c19 => ?_) (fun c19 => ?_)
        · skip
          have hc9 : hasW (K.2.2.2 (i : Int)) w = false := gbi_0 c19
          refine g_aload_n 25 C dX1_hindrance_24 rfl rfl ?_
          refine g_getf 28 C dX1_hindrance_25 fl_RX1_11 rfl (by omega) k1 rfl rfl ?_
          refine g_iload_n 29 C dX1_hindrance_28 rfl rfl ?_
          refine g_aald 30 C dX1_hindrance_29 (by omega) k2 rfl rfl (by omega) (by decide) (hfc ((i : Int)) (by omega) (by omega)) rfl ?_
          refine g_getf 33 C dX1_hindrance_30 fl_RX1_37 rfl (by omega) (isC.h0 (k6 ((i : Int)) (by omega) (by omega))) rfl rfl ?_
          refine g_iload_n 34 C dX1_hindrance_33 rfl rfl ?_
          refine g_iald 35 C dX1_hindrance_34 (by omega) (isC.h1 (k6 ((i : Int)) (by omega) (by omega))) (by omega) (by decide) rfl ?_
          refine g_aload_n 36 C dX1_hindrance_35 rfl rfl ?_
          refine g_getf 39 C dX1_hindrance_36 fl_RX1_11 rfl (by omega) k1 rfl rfl ?_
          refine g_iconst 40 C dX1_hindrance_39 rfl ?_
          refine g_aald 41 C dX1_hindrance_40 (by omega) k2 rfl rfl (by omega) (by decide) (hfc (0) (by omega) (by omega)) rfl ?_
          refine g_getf 44 C dX1_hindrance_41 fl_RX1_37 rfl (by omega) (isC.h0 (k6 (0) (by omega) (by omega))) rfl rfl ?_
          refine g_iload_n 45 C dX1_hindrance_44 rfl rfl ?_
          refine g_iald 46 C dX1_hindrance_45 (by omega) (isC.h1 (k6 (0) (by omega) (by omega))) (by omega) (by decide) rfl ?_
          refine g_icmp_eq 51 49 C dX1_hindrance_46 rfl rfl (by omega) (by omega) (fun c46 => ?_) (fun c46 => ?_)
          · skip
            have hu9 : rgA (fun s : Int => !(K.2.2.1 s w == K.2.2.1 0 w)) (i + 1) = rgA (fun s : Int => !(K.2.2.1 s w == K.2.2.1 0 w)) i := by rw [rgA_s, show (!(K.2.2.1 (i : Int) w == K.2.2.1 0 w)) = false by rw [c46]; simp, Bool.or_false]
            refine g_iinc 54 [(3, _), (2, _), (0, _), (1, _)] C dX1_hindrance_51 rfl (by decide) rfl rfl ?_
            refine g_goto 4 C dX1_hindrance_54 rfl ?_
            refine g_loc [(3, _), (2, .int (gi (gbi (rgA (fun s : Int => !(K.2.2.1 s w == K.2.2.1 0 w)) (i + 1))))), (0, _), (1, _)] ⟨rfl, (by rw [hu9]; rfl), rfl, rfl, trivial⟩ ?_
            exact ih4 (i + 1) (by omega) (by rw [rgA_s, hno, hc9]; rfl) (by omega)
          · skip
            have hu9 : gbi (rgA (fun s : Int => !(K.2.2.1 s w == K.2.2.1 0 w)) (i + 1)) = 1 := by rw [rgA_s, show (!(K.2.2.1 (i : Int) w == K.2.2.1 0 w)) = true by simpa using c46, Bool.or_true]; rfl
            refine g_iconst 50 C dX1_hindrance_49 rfl ?_
            refine g_istore_n 51 [(2, _), (3, _), (0, _), (1, _)] C dX1_hindrance_50 (by decide) rfl rfl ?_
            refine g_iinc 54 [(3, _), (2, _), (0, _), (1, _)] C dX1_hindrance_51 rfl (by decide) rfl rfl ?_
            refine g_goto 4 C dX1_hindrance_54 rfl ?_
            refine g_loc [(3, _), (2, .int (gi (gbi (rgA (fun s : Int => !(K.2.2.1 s w == K.2.2.1 0 w)) (i + 1))))), (0, _), (1, _)] ⟨rfl, (by rw [hu9]; rfl), rfl, rfl, trivial⟩ ?_
            exact ih4 (i + 1) (by omega) (by rw [rgA_s, hno, hc9]; rfl) (by omega)
        · skip
          have hc9 : hasW (K.2.2.2 (i : Int)) w = true := gbi_1 c19
          refine g_iconst 23 C dX1_hindrance_22 rfl ?_
          exact g_iret C dX1_hindrance_23 rfl ⟨by decide, by decide⟩ (by
              have e1 : rgA (fun s : Int => hasW (K.2.2.2 s) w) 3 = true := by
                rcases (show i = 0 ∨ i = 1 ∨ i = 2 by omega) with e | e | e <;> subst e
                · rw [rgA_s, rgA_s, rgA_s]; rw [show hasW (K.2.2.2 ((0 : Nat) : Int)) w = true from hc9]; simp
                · rw [rgA_s, rgA_s]; rw [show hasW (K.2.2.2 ((1 : Nat) : Int)) w = true from hc9]; simp
                · rw [rgA_s]; rw [show hasW (K.2.2.2 ((2 : Nat) : Int)) w = true from hc9]; simp
              rw [show hind K w = 1 from if_pos e1]; exact ⟨rfl, rfl, rfl, rfl⟩)
  refine g_loc [(3, _), (2, _), (0, _), (1, _)] ⟨rfl, rfl, rfl, rfl, trivial⟩ ?_
  exact lp4 _ 0 (by omega) rfl (Nat.lt_succ_self _)
set_option maxRecDepth 100000 in
set_option maxHeartbeats 4000000 in
theorem c_X1_knowers {E : gEnv} {n : Nat} {σ : Option Nat} {h : gH} (a : Nat) (K : gKy) (mark : Int) (hab : gB E ≤ a ∧ a + 21 ≤ gB E + n) (hK : isK E h a K) (hok : okK K) (hm : 0 ≤ mark ∧ mark < 5000) : gM E mX1_knowers [.ref a, .int (gi mark)] n σ h (gD (some (.int (gi (knw K mark)))) n σ (fun h9 => h9 = h)) (gNo) := by
  have hK9 := hK
  obtain ⟨k1, ⟨fc, k2, hfc⟩, ⟨fk, k3, hfk⟩, k4, k5, k6⟩ := hK
  obtain ⟨oW, oN, oV, oL⟩ := hok
  refine gM_of (by decide) (Nat.le_of_ble_eq_true rfl) (fun F C => ?_)
  refine g_iconst 1 C dX1_knowers_0 rfl ?_
  refine g_istore_n 2 [(2, _), (0, _), (1, _)] C dX1_knowers_1 (by decide) rfl rfl ?_
  refine g_iconst 3 C dX1_knowers_2 rfl ?_
  refine g_istore_n 4 [(3, _), (2, _), (0, _), (1, _)] C dX1_knowers_3 (by decide) rfl rfl ?_
  have lp4 : ∀ (k9 : Nat) (i : Nat), i ≤ 5 → 5 - i < k9 → G E F mX1_knowers (gQ E F mX1_knowers n (gD (some (.int (gi (knw K mark)))) n σ (fun h9 => h9 = h)) (gNo)) n σ h 0 0 4 [(3, .int (gi (i : Int))), (2, .int (gi (gmsk (fun w : Int => cov (K.2.1 w) mark) i))), (0, .ref a), (1, .int (gi mark))] [] := by
    intro k9
    induction k9 with
    | zero => intro i hi h0; exact absurd h0 (Nat.not_lt_zero _)
    | succ k9 ih4 =>
      intro i hi hk4
      refine g_iload_n 5 C dX1_knowers_4 rfl rfl ?_
      refine g_iconst 6 C dX1_knowers_5 rfl ?_
      refine g_icmp_ge 34 9 C dX1_knowers_6 rfl rfl (by omega) (by omega) (fun c6 => ?_) (fun c6 => ?_)
      · skip
        refine g_iload_n 35 C dX1_knowers_34 rfl rfl ?_
        exact g_iret C dX1_knowers_35 rfl ⟨by decide, by decide⟩ (by rw [show i = 5 by omega]; exact ⟨rfl, rfl, rfl, rfl⟩)
      · skip
        refine g_aload_n 10 C dX1_knowers_9 rfl rfl ?_
        refine g_getf 13 C dX1_knowers_10 fl_RX1_19 rfl (by omega) k1 rfl rfl ?_
        refine g_iload_n 14 C dX1_knowers_13 rfl rfl ?_
        refine g_aald 15 C dX1_knowers_14 (by omega) k3 rfl rfl (by omega) (by decide) (hfk ((i : Int)) (by omega) (by omega)) rfl ?_
        refine g_iload_n 16 C dX1_knowers_15 rfl rfl ?_
        refine g_SN2r 19 0 0 C dX1_knowers_16 rfl ln_RX1_97 gs_X4_covers ⟨⟨by decide, by decide⟩, by decide, by decide⟩ (Nat.le_of_ble_eq_true rfl) rfl rfl rfl (c_X4_covers (a + 3 + (i : Int).toNat) (K.2.1 (i : Int)) mark (by omega) (k4 (i : Int) (by omega) (by omega)) hm (oN (i : Int) (by omega) (by omega))) g_no (fun h9 e16 => ?_)
        subst e16
        refine g_if_eq 28 22 C dX1_knowers_19 rfl rfl (gbi_r _) (fun c19 => ?_) (fun c19 => ?_)
        · skip
          have hu9 : gmsk (fun w : Int => cov (K.2.1 w) mark) (i + 1) = gmsk (fun w : Int => cov (K.2.1 w) mark) i := gmsk_no _ (gbi_0 c19)
          refine g_iinc 31 [(3, _), (2, _), (0, _), (1, _)] C dX1_knowers_28 rfl (by decide) rfl rfl ?_
          refine g_goto 4 C dX1_knowers_31 rfl ?_
          refine g_loc [(3, _), (2, .int (gi (gmsk (fun w : Int => cov (K.2.1 w) mark) (i + 1)))), (0, _), (1, _)] ⟨rfl, (by rw [hu9]; rfl), rfl, rfl, trivial⟩ ?_
          exact ih4 (i + 1) (by omega) (by omega)
        · skip
          have hu8 := gmsk_or (fun w : Int => cov (K.2.1 w) mark) (i := i) (by omega) (gbi_1 c19)
          have hu9 : gmsk (fun w : Int => cov (K.2.1 w) mark) (i + 1) = gmsk (fun w : Int => cov (K.2.1 w) mark) (i + 1) := rfl
          refine g_iload_n 23 C dX1_knowers_22 rfl rfl ?_
          refine g_iconst 24 C dX1_knowers_23 rfl ?_
          refine g_iload_n 25 C dX1_knowers_24 rfl rfl ?_
          refine g_ishl 26 C dX1_knowers_25 (g_shl (by omega)) rfl ?_
          refine g_ior 27 C dX1_knowers_26 hu8 rfl ?_
          refine g_istore_n 28 [(2, _), (3, _), (0, _), (1, _)] C dX1_knowers_27 (by decide) rfl rfl ?_
          refine g_iinc 31 [(3, _), (2, _), (0, _), (1, _)] C dX1_knowers_28 rfl (by decide) rfl rfl ?_
          refine g_goto 4 C dX1_knowers_31 rfl ?_
          refine g_loc [(3, _), (2, .int (gi (gmsk (fun w : Int => cov (K.2.1 w) mark) (i + 1)))), (0, _), (1, _)] ⟨rfl, (by rw [hu9]; rfl), rfl, rfl, trivial⟩ ?_
          exact ih4 (i + 1) (by omega) (by omega)
  refine g_loc [(3, _), (2, _), (0, _), (1, _)] ⟨rfl, rfl, rfl, rfl, trivial⟩ ?_
  exact lp4 _ 0 (by omega) (Nat.lt_succ_self _)
set_option maxRecDepth 100000 in
set_option maxHeartbeats 4000000 in
theorem c_X1_holders {E : gEnv} {n : Nat} {σ : Option Nat} {h : gH} (a : Nat) (K : gKy) (mark : Int) (hab : gB E ≤ a ∧ a + 21 ≤ gB E + n) (hK : isK E h a K) (hok : okK K) (hm : 0 ≤ mark ∧ mark < 5000) : gM E mX1_holders [.ref a, .int (gi mark)] n σ h (gD (some (.int (gi (hld K mark)))) n σ (fun h9 => h9 = h)) (gNo) := by
  have hK9 := hK
  obtain ⟨k1, ⟨fc, k2, hfc⟩, ⟨fk, k3, hfk⟩, k4, k5, k6⟩ := hK
  obtain ⟨oW, oN, oV, oL⟩ := hok
  refine gM_of (by decide) (Nat.le_of_ble_eq_true rfl) (fun F C => ?_)
  refine g_iconst 1 C dX1_holders_0 rfl ?_
  refine g_istore_n 2 [(2, _), (0, _), (1, _)] C dX1_holders_1 (by decide) rfl rfl ?_
  refine g_iconst 3 C dX1_holders_2 rfl ?_
  refine g_istore_n 4 [(3, _), (2, _), (0, _), (1, _)] C dX1_holders_3 (by decide) rfl rfl ?_
  have lp4 : ∀ (k9 : Nat) (i : Nat), i ≤ 3 → 3 - i < k9 → G E F mX1_holders (gQ E F mX1_holders n (gD (some (.int (gi (hld K mark)))) n σ (fun h9 => h9 = h)) (gNo)) n σ h 0 0 4 [(3, .int (gi (i : Int))), (2, .int (gi (gmsk (fun s : Int => hasM (K.2.2.2 s) mark) i))), (0, .ref a), (1, .int (gi mark))] [] := by
    intro k9
    induction k9 with
    | zero => intro i hi h0; exact absurd h0 (Nat.not_lt_zero _)
    | succ k9 ih4 =>
      intro i hi hk4
      refine g_iload_n 5 C dX1_holders_4 rfl rfl ?_
      refine g_iconst 6 C dX1_holders_5 rfl ?_
      refine g_icmp_ge 34 9 C dX1_holders_6 rfl rfl (by omega) (by omega) (fun c6 => ?_) (fun c6 => ?_)
      · skip
        refine g_iload_n 35 C dX1_holders_34 rfl rfl ?_
        exact g_iret C dX1_holders_35 rfl ⟨by decide, by decide⟩ (by rw [show i = 3 by omega]; exact ⟨rfl, rfl, rfl, rfl⟩)
      · skip
        refine g_aload_n 10 C dX1_holders_9 rfl rfl ?_
        refine g_getf 13 C dX1_holders_10 fl_RX1_11 rfl (by omega) k1 rfl rfl ?_
        refine g_iload_n 14 C dX1_holders_13 rfl rfl ?_
        refine g_aald 15 C dX1_holders_14 (by omega) k2 rfl rfl (by omega) (by decide) (hfc ((i : Int)) (by omega) (by omega)) rfl ?_
        refine g_iload_n 16 C dX1_holders_15 rfl rfl ?_
        refine g_V1r 19 0 0 C dX1_holders_16 rfl lk_RX1_101 gi_X0_has gv_X0_has ⟨_, _, rfl⟩ (by omega) (isC.h0 (k6 ((i : Int)) (by omega) (by omega))) ⟨⟨by decide, by decide⟩, by decide, by decide⟩ (Nat.le_of_ble_eq_true rfl) rfl rfl rfl (c_X0_has (a + 9 + 4 * (i : Int).toNat) (K.2.2.1 (i : Int)) (K.2.2.2 (i : Int)) mark (by omega) (k6 (i : Int) (by omega) (by omega)) (oL (i : Int) (by omega) (by omega)) hm) g_no (fun h9 e16 => ?_)
        subst e16
        refine g_if_eq 28 22 C dX1_holders_19 rfl rfl (gbi_r _) (fun c19 => ?_) (fun c19 => ?_)
        · skip
          have hu9 : gmsk (fun s : Int => hasM (K.2.2.2 s) mark) (i + 1) = gmsk (fun s : Int => hasM (K.2.2.2 s) mark) i := gmsk_no _ (gbi_0 c19)
          refine g_iinc 31 [(3, _), (2, _), (0, _), (1, _)] C dX1_holders_28 rfl (by decide) rfl rfl ?_
          refine g_goto 4 C dX1_holders_31 rfl ?_
          refine g_loc [(3, _), (2, .int (gi (gmsk (fun s : Int => hasM (K.2.2.2 s) mark) (i + 1)))), (0, _), (1, _)] ⟨rfl, (by rw [hu9]; rfl), rfl, rfl, trivial⟩ ?_
          exact ih4 (i + 1) (by omega) (by omega)
        · skip
          have hu8 := gmsk_or (fun s : Int => hasM (K.2.2.2 s) mark) (i := i) (by omega) (gbi_1 c19)
          have hu9 : gmsk (fun s : Int => hasM (K.2.2.2 s) mark) (i + 1) = gmsk (fun s : Int => hasM (K.2.2.2 s) mark) (i + 1) := rfl
          refine g_iload_n 23 C dX1_holders_22 rfl rfl ?_
          refine g_iconst 24 C dX1_holders_23 rfl ?_
          refine g_iload_n 25 C dX1_holders_24 rfl rfl ?_
          refine g_ishl 26 C dX1_holders_25 (g_shl (by omega)) rfl ?_
          refine g_ior 27 C dX1_holders_26 hu8 rfl ?_
          refine g_istore_n 28 [(2, _), (3, _), (0, _), (1, _)] C dX1_holders_27 (by decide) rfl rfl ?_
          refine g_iinc 31 [(3, _), (2, _), (0, _), (1, _)] C dX1_holders_28 rfl (by decide) rfl rfl ?_
          refine g_goto 4 C dX1_holders_31 rfl ?_
          refine g_loc [(3, _), (2, .int (gi (gmsk (fun s : Int => hasM (K.2.2.2 s) mark) (i + 1)))), (0, _), (1, _)] ⟨rfl, (by rw [hu9]; rfl), rfl, rfl, trivial⟩ ?_
          exact ih4 (i + 1) (by omega) (by omega)
  refine g_loc [(3, _), (2, _), (0, _), (1, _)] ⟨rfl, rfl, rfl, rfl, trivial⟩ ?_
  exact lp4 _ 0 (by omega) (Nat.lt_succ_self _)
set_option maxRecDepth 100000 in
set_option maxHeartbeats 4000000 in
theorem c_X1_writesInAll {E : gEnv} {n : Nat} {σ : Option Nat} {h : gH} (a : Nat) (K : gKy) (hab : gB E ≤ a ∧ a + 21 ≤ gB E + n) (hK : isK E h a K) (hok : okK K)  : gM E mX1_writesInAll [.ref a] n σ h (gD (some (.int (gi (sumN K.1 5)))) n σ (fun h9 => h9 = h)) (gNo) := by
  have hK9 := hK
  obtain ⟨k1, ⟨fc, k2, hfc⟩, ⟨fk, k3, hfk⟩, k4, k5, k6⟩ := hK
  obtain ⟨oW, oN, oV, oL⟩ := hok
  refine gM_of (by decide) (Nat.le_of_ble_eq_true rfl) (fun F C => ?_)
  refine g_iconst 1 C dX1_writesInAll_0 rfl ?_
  refine g_istore_n 2 [(1, _), (0, _)] C dX1_writesInAll_1 (by decide) rfl rfl ?_
  refine g_iconst 3 C dX1_writesInAll_2 rfl ?_
  refine g_istore_n 4 [(2, _), (1, _), (0, _)] C dX1_writesInAll_3 (by decide) rfl rfl ?_
  have lp4 : ∀ (k9 : Nat) (i : Nat), i ≤ 5 → 5 - i < k9 → G E F mX1_writesInAll (gQ E F mX1_writesInAll n (gD (some (.int (gi (sumN K.1 5)))) n σ (fun h9 => h9 = h)) (gNo)) n σ h 0 0 4 [(2, .int (gi (i : Int))), (1, .int (gi (sumN K.1 i))), (0, .ref a)] [] := by
    intro k9
    induction k9 with
    | zero => intro i hi h0; exact absurd h0 (Nat.not_lt_zero _)
    | succ k9 ih4 =>
      intro i hi hk4
      refine g_iload_n 5 C dX1_writesInAll_4 rfl rfl ?_
      refine g_iconst 6 C dX1_writesInAll_5 rfl ?_
      refine g_icmp_ge 24 9 C dX1_writesInAll_6 rfl rfl (by omega) (by omega) (fun c6 => ?_) (fun c6 => ?_)
      · skip
        refine g_iload_n 25 C dX1_writesInAll_24 rfl rfl ?_
        exact g_iret C dX1_writesInAll_25 rfl ⟨by decide, by decide⟩ (by rw [show i = 5 by omega]; exact ⟨rfl, rfl, rfl, rfl⟩)
      · skip
        refine g_iload_n 10 C dX1_writesInAll_9 rfl rfl ?_
        refine g_aload_n 11 C dX1_writesInAll_10 rfl rfl ?_
        refine g_getf 14 C dX1_writesInAll_11 fl_RX1_22 rfl (by omega) k1 rfl rfl ?_
        refine g_iload_n 15 C dX1_writesInAll_14 rfl rfl ?_
        refine g_iald 16 C dX1_writesInAll_15 (by omega) k5 (by omega) (by decide) rfl ?_
        refine g_iadd 17 C dX1_writesInAll_16 rfl ?_
        refine g_istore_n 18 [(1, _), (2, _), (0, _)] C dX1_writesInAll_17 (by decide) rfl rfl ?_
        refine g_iinc 21 [(2, _), (1, _), (0, _)] C dX1_writesInAll_18 rfl (by decide) rfl rfl ?_
        refine g_goto 4 C dX1_writesInAll_21 rfl ?_
        refine g_loc [(2, _), (1, .int (gi (sumN K.1 (i + 1)))), (0, _)] ⟨rfl, rfl, rfl, trivial⟩ ?_
        exact ih4 (i + 1) (by omega) (by omega)
  refine g_loc [(2, _), (1, _), (0, _)] ⟨rfl, rfl, rfl, trivial⟩ ?_
  exact lp4 _ 0 (by omega) (Nat.lt_succ_self _)
set_option maxRecDepth 100000 in
set_option maxHeartbeats 4000000 in
theorem c_X1_allSeeTheSame {E : gEnv} {n : Nat} {σ : Option Nat} {h : gH} (a : Nat) (K : gKy) (hab : gB E ≤ a ∧ a + 21 ≤ gB E + n) (hK : isK E h a K) (hok : okK K)  : gM E mX1_allSeeTheSame [.ref a] n σ h (gD (some (.int (gi (gbi (seeA K))))) n σ (fun h9 => h9 = h)) (gNo) := by
  have hK9 := hK
  obtain ⟨k1, ⟨fc, k2, hfc⟩, ⟨fk, k3, hfk⟩, k4, k5, k6⟩ := hK
  obtain ⟨oW, oN, oV, oL⟩ := hok
  refine gM_of (by decide) (Nat.le_of_ble_eq_true rfl) (fun F C => ?_)
  refine g_iconst 1 C dX1_allSeeTheSame_0 rfl ?_
  refine g_istore_n 2 [(1, _), (0, _)] C dX1_allSeeTheSame_1 (by decide) rfl rfl ?_
  refine g_iload_n 3 C dX1_allSeeTheSame_2 rfl rfl ?_
  refine g_iconst 4 C dX1_allSeeTheSame_3 rfl ?_
  refine g_icmp_ge 39 7 C dX1_allSeeTheSame_4 rfl rfl (by omega) (by omega) (fun c4 => ?_) (fun c4 => ?_)
  · skip
    exact absurd c4 (by omega)
  · skip
    refine g_aload_n 8 C dX1_allSeeTheSame_7 rfl rfl ?_
    refine g_getf 11 C dX1_allSeeTheSame_8 fl_RX1_11 rfl (by omega) k1 rfl rfl ?_
    refine g_iconst 12 C dX1_allSeeTheSame_11 rfl ?_
    refine g_aald 13 C dX1_allSeeTheSame_12 (by omega) k2 rfl rfl (by omega) (by decide) (hfc (0) (by omega) (by omega)) rfl ?_
    refine g_getf 16 C dX1_allSeeTheSame_13 fl_RX1_37 rfl (by omega) (isC.h0 (k6 (0) (by omega) (by omega))) rfl rfl ?_
    refine g_aload_n 17 C dX1_allSeeTheSame_16 rfl rfl ?_
    refine g_getf 20 C dX1_allSeeTheSame_17 fl_RX1_11 rfl (by omega) k1 rfl rfl ?_
    refine g_iload_n 21 C dX1_allSeeTheSame_20 rfl rfl ?_
    refine g_aald 22 C dX1_allSeeTheSame_21 (by omega) k2 rfl rfl (by omega) (by decide) (hfc (1) (by omega) (by omega)) rfl ?_
    refine g_getf 25 C dX1_allSeeTheSame_22 fl_RX1_37 rfl (by omega) (isC.h0 (k6 (1) (by omega) (by omega))) rfl rfl ?_
    refine g_SN2r 28 0 0 C dX1_allSeeTheSame_25 rfl ln_RX1_125 gs_X4_sameNumbers ⟨⟨by decide, by decide⟩, by decide, by decide⟩ (Nat.le_of_ble_eq_true rfl) rfl rfl rfl (c_X4_sameNumbers ((a + 9 + 4 * (0 : Int).toNat) + 1) ((a + 9 + 4 * (1 : Int).toNat) + 1) (K.2.2.1 0) (K.2.2.1 1) (by omega) (by omega) (isC.h1 (k6 (0) (by omega) (by omega))) (isC.h1 (k6 (1) (by omega) (by omega))) (oV 0 (by omega) (by omega)) (oV 1 (by omega) (by omega))) g_no (fun h9 e25_1 => ?_)
    subst e25_1
    refine g_if_ne 33 31 C dX1_allSeeTheSame_28 rfl rfl (gbi_r _) (fun c28 => ?_) (fun c28 => ?_)
    · skip
      have hs1 := gbi_1 c28
      refine g_iinc 36 [(1, _), (0, _)] C dX1_allSeeTheSame_33 rfl (by decide) rfl rfl ?_
      refine g_goto 2 C dX1_allSeeTheSame_36 rfl ?_
      refine g_iload_n 3 C dX1_allSeeTheSame_2 rfl rfl ?_
      refine g_iconst 4 C dX1_allSeeTheSame_3 rfl ?_
      refine g_icmp_ge 39 7 C dX1_allSeeTheSame_4 rfl rfl (by omega) (by omega) (fun c4 => ?_) (fun c4 => ?_)
      · skip
        exact absurd c4 (by omega)
      · skip
        refine g_aload_n 8 C dX1_allSeeTheSame_7 rfl rfl ?_
        refine g_getf 11 C dX1_allSeeTheSame_8 fl_RX1_11 rfl (by omega) k1 rfl rfl ?_
        refine g_iconst 12 C dX1_allSeeTheSame_11 rfl ?_
        refine g_aald 13 C dX1_allSeeTheSame_12 (by omega) k2 rfl rfl (by omega) (by decide) (hfc (0) (by omega) (by omega)) rfl ?_
        refine g_getf 16 C dX1_allSeeTheSame_13 fl_RX1_37 rfl (by omega) (isC.h0 (k6 (0) (by omega) (by omega))) rfl rfl ?_
        refine g_aload_n 17 C dX1_allSeeTheSame_16 rfl rfl ?_
        refine g_getf 20 C dX1_allSeeTheSame_17 fl_RX1_11 rfl (by omega) k1 rfl rfl ?_
        refine g_iload_n 21 C dX1_allSeeTheSame_20 rfl rfl ?_
        refine g_aald 22 C dX1_allSeeTheSame_21 (by omega) k2 rfl rfl (by omega) (by decide) (hfc (2) (by omega) (by omega)) rfl ?_
        refine g_getf 25 C dX1_allSeeTheSame_22 fl_RX1_37 rfl (by omega) (isC.h0 (k6 (2) (by omega) (by omega))) rfl rfl ?_
        refine g_SN2r 28 0 0 C dX1_allSeeTheSame_25 rfl ln_RX1_125 gs_X4_sameNumbers ⟨⟨by decide, by decide⟩, by decide, by decide⟩ (Nat.le_of_ble_eq_true rfl) rfl rfl rfl (c_X4_sameNumbers ((a + 9 + 4 * (0 : Int).toNat) + 1) ((a + 9 + 4 * (2 : Int).toNat) + 1) (K.2.2.1 0) (K.2.2.1 2) (by omega) (by omega) (isC.h1 (k6 (0) (by omega) (by omega))) (isC.h1 (k6 (2) (by omega) (by omega))) (oV 0 (by omega) (by omega)) (oV 2 (by omega) (by omega))) g_no (fun h9 e25_2 => ?_)
        subst e25_2
        refine g_if_ne 33 31 C dX1_allSeeTheSame_28 rfl rfl (gbi_r _) (fun c28 => ?_) (fun c28 => ?_)
        · skip
          have hs2 := gbi_1 c28
          refine g_iinc 36 [(1, _), (0, _)] C dX1_allSeeTheSame_33 rfl (by decide) rfl rfl ?_
          refine g_goto 2 C dX1_allSeeTheSame_36 rfl ?_
          refine g_iload_n 3 C dX1_allSeeTheSame_2 rfl rfl ?_
          refine g_iconst 4 C dX1_allSeeTheSame_3 rfl ?_
          refine g_icmp_ge 39 7 C dX1_allSeeTheSame_4 rfl rfl (by omega) (by omega) (fun c4 => ?_) (fun c4 => ?_)
          · skip
            refine g_iconst 40 C dX1_allSeeTheSame_39 rfl ?_
            exact g_zret C dX1_allSeeTheSame_40 rfl rfl ⟨by decide, by decide⟩ (by rw [gbi_t (show seeA K = true by unfold seeA; rw [hs1, hs2]; rfl)]; exact ⟨rfl, rfl, rfl, rfl⟩)
          · skip
            exact absurd c4 (by omega)
        · skip
          have hs2 := gbi_0 c28
          refine g_iconst 32 C dX1_allSeeTheSame_31 rfl ?_
          exact g_zret C dX1_allSeeTheSame_32 rfl rfl ⟨by decide, by decide⟩ (by rw [gbi_f (show seeA K = false by unfold seeA; rw [hs1, hs2]; rfl)]; exact ⟨rfl, rfl, rfl, rfl⟩)
    · skip
      have hs1 := gbi_0 c28
      refine g_iconst 32 C dX1_allSeeTheSame_31 rfl ?_
      exact g_zret C dX1_allSeeTheSame_32 rfl rfl ⟨by decide, by decide⟩ (by rw [gbi_f (show seeA K = false by unfold seeA; rw [hs1]; rfl)]; exact ⟨rfl, rfl, rfl, rfl⟩)
set_option maxRecDepth 100000 in
set_option maxHeartbeats 4000000 in
theorem c_X1_agreeingPairs {E : gEnv} {n : Nat} {σ : Option Nat} {h : gH} (a : Nat) (K : gKy) (hab : gB E ≤ a ∧ a + 21 ≤ gB E + n) (hK : isK E h a K) (hok : okK K)  : gM E mX1_agreeingPairs [.ref a] n σ h (gD (some (.int (gi (agrP K)))) n σ (fun h9 => h9 = h)) (gNo) := by
  have hK9 := hK
  obtain ⟨k1, ⟨fc, k2, hfc⟩, ⟨fk, k3, hfk⟩, k4, k5, k6⟩ := hK
  obtain ⟨oW, oN, oV, oL⟩ := hok
  refine gM_of (by decide) (Nat.le_of_ble_eq_true rfl) (fun F C => ?_)
  refine g_iconst 1 C dX1_agreeingPairs_0 rfl ?_
  refine g_istore_n 2 [(1, _), (0, _)] C dX1_agreeingPairs_1 (by decide) rfl rfl ?_
  refine g_iconst 3 C dX1_agreeingPairs_2 rfl ?_
  refine g_istore_n 4 [(2, _), (1, _), (0, _)] C dX1_agreeingPairs_3 (by decide) rfl rfl ?_
  refine g_iload_n 5 C dX1_agreeingPairs_4 rfl rfl ?_
  refine g_iconst 6 C dX1_agreeingPairs_5 rfl ?_
  refine g_icmp_ge 51 9 C dX1_agreeingPairs_6 rfl rfl (by omega) (by omega) (fun c6 => ?_) (fun c6 => ?_)
  · skip
    exact absurd c6 (by omega)
  · skip
    refine g_iload_n 10 C dX1_agreeingPairs_9 rfl rfl ?_
    refine g_iconst 11 C dX1_agreeingPairs_10 rfl ?_
    refine g_iadd 12 C dX1_agreeingPairs_11 rfl ?_
    refine g_istore_n 13 [(3, _), (2, _), (1, _), (0, _)] C dX1_agreeingPairs_12 (by decide) rfl rfl ?_
    refine g_iload_n 14 C dX1_agreeingPairs_13 rfl rfl ?_
    refine g_iconst 15 C dX1_agreeingPairs_14 rfl ?_
    refine g_icmp_ge 45 18 C dX1_agreeingPairs_15 rfl rfl (by omega) (by omega) (fun c15 => ?_) (fun c15 => ?_)
    · skip
      exact absurd c15 (by omega)
    · skip
      refine g_aload_n 19 C dX1_agreeingPairs_18 rfl rfl ?_
      refine g_getf 22 C dX1_agreeingPairs_19 fl_RX1_11 rfl (by omega) k1 rfl rfl ?_
      refine g_iload_n 23 C dX1_agreeingPairs_22 rfl rfl ?_
      refine g_aald 24 C dX1_agreeingPairs_23 (by omega) k2 rfl rfl (by omega) (by decide) (hfc (0) (by omega) (by omega)) rfl ?_
      refine g_aload_n 25 C dX1_agreeingPairs_24 rfl rfl ?_
      refine g_getf 28 C dX1_agreeingPairs_25 fl_RX1_11 rfl (by omega) k1 rfl rfl ?_
      refine g_iload_n 29 C dX1_agreeingPairs_28 rfl rfl ?_
      refine g_aald 30 C dX1_agreeingPairs_29 (by omega) k2 rfl rfl (by omega) (by decide) (hfc (1) (by omega) (by omega)) rfl ?_
      refine g_V1r 33 0 0 C dX1_agreeingPairs_30 rfl lk_RX1_121 gi_X0_hasSameSiblings gv_X0_hasSameSiblings ⟨_, _, rfl⟩ (by omega) (isC.h0 (k6 (0) (by omega) (by omega))) ⟨⟨by decide, by decide⟩, by decide, by decide⟩ (Nat.le_of_ble_eq_true rfl) rfl rfl rfl (c_X0_hasSameSiblings (a + 9 + 4 * (0 : Int).toNat) (K.2.2.1 0) (K.2.2.2 0) (a + 9 + 4 * (1 : Int).toNat) (K.2.2.1 1) (K.2.2.2 1) (by omega) (k6 (0) (by omega) (by omega)) (oL 0 (by omega) (by omega)) (by omega) (k6 (1) (by omega) (by omega)) (oL 1 (by omega) (by omega))) g_no (fun h9 e30_01 => ?_)
      subst e30_01
      refine g_if_eq 39 36 C dX1_agreeingPairs_33 rfl rfl (gbi_r _) (fun c33 => ?_) (fun c33 => ?_)
      · skip
        have hs01 : agr K 0 1 = false := gbi_0 c33
        refine g_iinc 42 [(3, _), (2, _), (1, _), (0, _)] C dX1_agreeingPairs_39 rfl (by decide) rfl rfl ?_
        refine g_goto 13 C dX1_agreeingPairs_42 rfl ?_
        refine g_iload_n 14 C dX1_agreeingPairs_13 rfl rfl ?_
        refine g_iconst 15 C dX1_agreeingPairs_14 rfl ?_
        refine g_icmp_ge 45 18 C dX1_agreeingPairs_15 rfl rfl (by omega) (by omega) (fun c15 => ?_) (fun c15 => ?_)
        · skip
          exact absurd c15 (by omega)
        · skip
          refine g_aload_n 19 C dX1_agreeingPairs_18 rfl rfl ?_
          refine g_getf 22 C dX1_agreeingPairs_19 fl_RX1_11 rfl (by omega) k1 rfl rfl ?_
          refine g_iload_n 23 C dX1_agreeingPairs_22 rfl rfl ?_
          refine g_aald 24 C dX1_agreeingPairs_23 (by omega) k2 rfl rfl (by omega) (by decide) (hfc (0) (by omega) (by omega)) rfl ?_
          refine g_aload_n 25 C dX1_agreeingPairs_24 rfl rfl ?_
          refine g_getf 28 C dX1_agreeingPairs_25 fl_RX1_11 rfl (by omega) k1 rfl rfl ?_
          refine g_iload_n 29 C dX1_agreeingPairs_28 rfl rfl ?_
          refine g_aald 30 C dX1_agreeingPairs_29 (by omega) k2 rfl rfl (by omega) (by decide) (hfc (2) (by omega) (by omega)) rfl ?_
          refine g_V1r 33 0 0 C dX1_agreeingPairs_30 rfl lk_RX1_121 gi_X0_hasSameSiblings gv_X0_hasSameSiblings ⟨_, _, rfl⟩ (by omega) (isC.h0 (k6 (0) (by omega) (by omega))) ⟨⟨by decide, by decide⟩, by decide, by decide⟩ (Nat.le_of_ble_eq_true rfl) rfl rfl rfl (c_X0_hasSameSiblings (a + 9 + 4 * (0 : Int).toNat) (K.2.2.1 0) (K.2.2.2 0) (a + 9 + 4 * (2 : Int).toNat) (K.2.2.1 2) (K.2.2.2 2) (by omega) (k6 (0) (by omega) (by omega)) (oL 0 (by omega) (by omega)) (by omega) (k6 (2) (by omega) (by omega)) (oL 2 (by omega) (by omega))) g_no (fun h9 e30_02 => ?_)
          subst e30_02
          refine g_if_eq 39 36 C dX1_agreeingPairs_33 rfl rfl (gbi_r _) (fun c33 => ?_) (fun c33 => ?_)
          · skip
            have hs02 : agr K 0 2 = false := gbi_0 c33
            refine g_iinc 42 [(3, _), (2, _), (1, _), (0, _)] C dX1_agreeingPairs_39 rfl (by decide) rfl rfl ?_
            refine g_goto 13 C dX1_agreeingPairs_42 rfl ?_
            refine g_iload_n 14 C dX1_agreeingPairs_13 rfl rfl ?_
            refine g_iconst 15 C dX1_agreeingPairs_14 rfl ?_
            refine g_icmp_ge 45 18 C dX1_agreeingPairs_15 rfl rfl (by omega) (by omega) (fun c15 => ?_) (fun c15 => ?_)
            · skip
              refine g_iinc 48 [(2, _), (3, _), (1, _), (0, _)] C dX1_agreeingPairs_45 rfl (by decide) rfl rfl ?_
              refine g_goto 4 C dX1_agreeingPairs_48 rfl ?_
              refine g_iload_n 5 C dX1_agreeingPairs_4 rfl rfl ?_
              refine g_iconst 6 C dX1_agreeingPairs_5 rfl ?_
              refine g_icmp_ge 51 9 C dX1_agreeingPairs_6 rfl rfl (by omega) (by omega) (fun c6 => ?_) (fun c6 => ?_)
              · skip
                exact absurd c6 (by omega)
              · skip
                refine g_iload_n 10 C dX1_agreeingPairs_9 rfl rfl ?_
                refine g_iconst 11 C dX1_agreeingPairs_10 rfl ?_
                refine g_iadd 12 C dX1_agreeingPairs_11 rfl ?_
                refine g_istore_n 13 [(3, _), (2, _), (1, _), (0, _)] C dX1_agreeingPairs_12 (by decide) rfl rfl ?_
                refine g_iload_n 14 C dX1_agreeingPairs_13 rfl rfl ?_
                refine g_iconst 15 C dX1_agreeingPairs_14 rfl ?_
                refine g_icmp_ge 45 18 C dX1_agreeingPairs_15 rfl rfl (by omega) (by omega) (fun c15 => ?_) (fun c15 => ?_)
                · skip
                  exact absurd c15 (by omega)
                · skip
                  refine g_aload_n 19 C dX1_agreeingPairs_18 rfl rfl ?_
                  refine g_getf 22 C dX1_agreeingPairs_19 fl_RX1_11 rfl (by omega) k1 rfl rfl ?_
                  refine g_iload_n 23 C dX1_agreeingPairs_22 rfl rfl ?_
                  refine g_aald 24 C dX1_agreeingPairs_23 (by omega) k2 rfl rfl (by omega) (by decide) (hfc (1) (by omega) (by omega)) rfl ?_
                  refine g_aload_n 25 C dX1_agreeingPairs_24 rfl rfl ?_
                  refine g_getf 28 C dX1_agreeingPairs_25 fl_RX1_11 rfl (by omega) k1 rfl rfl ?_
                  refine g_iload_n 29 C dX1_agreeingPairs_28 rfl rfl ?_
                  refine g_aald 30 C dX1_agreeingPairs_29 (by omega) k2 rfl rfl (by omega) (by decide) (hfc (2) (by omega) (by omega)) rfl ?_
                  refine g_V1r 33 0 0 C dX1_agreeingPairs_30 rfl lk_RX1_121 gi_X0_hasSameSiblings gv_X0_hasSameSiblings ⟨_, _, rfl⟩ (by omega) (isC.h0 (k6 (1) (by omega) (by omega))) ⟨⟨by decide, by decide⟩, by decide, by decide⟩ (Nat.le_of_ble_eq_true rfl) rfl rfl rfl (c_X0_hasSameSiblings (a + 9 + 4 * (1 : Int).toNat) (K.2.2.1 1) (K.2.2.2 1) (a + 9 + 4 * (2 : Int).toNat) (K.2.2.1 2) (K.2.2.2 2) (by omega) (k6 (1) (by omega) (by omega)) (oL 1 (by omega) (by omega)) (by omega) (k6 (2) (by omega) (by omega)) (oL 2 (by omega) (by omega))) g_no (fun h9 e30_12 => ?_)
                  subst e30_12
                  refine g_if_eq 39 36 C dX1_agreeingPairs_33 rfl rfl (gbi_r _) (fun c33 => ?_) (fun c33 => ?_)
                  · skip
                    have hs12 : agr K 1 2 = false := gbi_0 c33
                    refine g_iinc 42 [(3, _), (2, _), (1, _), (0, _)] C dX1_agreeingPairs_39 rfl (by decide) rfl rfl ?_
                    refine g_goto 13 C dX1_agreeingPairs_42 rfl ?_
                    refine g_iload_n 14 C dX1_agreeingPairs_13 rfl rfl ?_
                    refine g_iconst 15 C dX1_agreeingPairs_14 rfl ?_
                    refine g_icmp_ge 45 18 C dX1_agreeingPairs_15 rfl rfl (by omega) (by omega) (fun c15 => ?_) (fun c15 => ?_)
                    · skip
                      refine g_iinc 48 [(2, _), (3, _), (1, _), (0, _)] C dX1_agreeingPairs_45 rfl (by decide) rfl rfl ?_
                      refine g_goto 4 C dX1_agreeingPairs_48 rfl ?_
                      refine g_iload_n 5 C dX1_agreeingPairs_4 rfl rfl ?_
                      refine g_iconst 6 C dX1_agreeingPairs_5 rfl ?_
                      refine g_icmp_ge 51 9 C dX1_agreeingPairs_6 rfl rfl (by omega) (by omega) (fun c6 => ?_) (fun c6 => ?_)
                      · skip
                        exact absurd c6 (by omega)
                      · skip
                        refine g_iload_n 10 C dX1_agreeingPairs_9 rfl rfl ?_
                        refine g_iconst 11 C dX1_agreeingPairs_10 rfl ?_
                        refine g_iadd 12 C dX1_agreeingPairs_11 rfl ?_
                        refine g_istore_n 13 [(3, _), (2, _), (1, _), (0, _)] C dX1_agreeingPairs_12 (by decide) rfl rfl ?_
                        refine g_iload_n 14 C dX1_agreeingPairs_13 rfl rfl ?_
                        refine g_iconst 15 C dX1_agreeingPairs_14 rfl ?_
                        refine g_icmp_ge 45 18 C dX1_agreeingPairs_15 rfl rfl (by omega) (by omega) (fun c15 => ?_) (fun c15 => ?_)
                        · skip
                          refine g_iinc 48 [(2, _), (3, _), (1, _), (0, _)] C dX1_agreeingPairs_45 rfl (by decide) rfl rfl ?_
                          refine g_goto 4 C dX1_agreeingPairs_48 rfl ?_
                          refine g_iload_n 5 C dX1_agreeingPairs_4 rfl rfl ?_
                          refine g_iconst 6 C dX1_agreeingPairs_5 rfl ?_
                          refine g_icmp_ge 51 9 C dX1_agreeingPairs_6 rfl rfl (by omega) (by omega) (fun c6 => ?_) (fun c6 => ?_)
                          · skip
                            refine g_iload_n 52 C dX1_agreeingPairs_51 rfl rfl ?_
                            exact g_iret C dX1_agreeingPairs_52 rfl ⟨by decide, by decide⟩ (by unfold agrP; rw [hs01, hs02, hs12]; exact ⟨rfl, rfl, rfl, rfl⟩)
                          · skip
                            exact absurd c6 (by omega)
                        · skip
                          exact absurd c15 (by omega)
                    · skip
                      exact absurd c15 (by omega)
                  · skip
                    have hs12 : agr K 1 2 = true := gbi_1 c33
                    refine g_iinc 39 [(1, _), (3, _), (2, _), (0, _)] C dX1_agreeingPairs_36 rfl (by decide) rfl rfl ?_
                    refine g_iinc 42 [(3, _), (1, _), (2, _), (0, _)] C dX1_agreeingPairs_39 rfl (by decide) rfl rfl ?_
                    refine g_goto 13 C dX1_agreeingPairs_42 rfl ?_
                    refine g_iload_n 14 C dX1_agreeingPairs_13 rfl rfl ?_
                    refine g_iconst 15 C dX1_agreeingPairs_14 rfl ?_
                    refine g_icmp_ge 45 18 C dX1_agreeingPairs_15 rfl rfl (by omega) (by omega) (fun c15 => ?_) (fun c15 => ?_)
                    · skip
                      refine g_iinc 48 [(2, _), (3, _), (1, _), (0, _)] C dX1_agreeingPairs_45 rfl (by decide) rfl rfl ?_
                      refine g_goto 4 C dX1_agreeingPairs_48 rfl ?_
                      refine g_iload_n 5 C dX1_agreeingPairs_4 rfl rfl ?_
                      refine g_iconst 6 C dX1_agreeingPairs_5 rfl ?_
                      refine g_icmp_ge 51 9 C dX1_agreeingPairs_6 rfl rfl (by omega) (by omega) (fun c6 => ?_) (fun c6 => ?_)
                      · skip
                        exact absurd c6 (by omega)
                      · skip
                        refine g_iload_n 10 C dX1_agreeingPairs_9 rfl rfl ?_
                        refine g_iconst 11 C dX1_agreeingPairs_10 rfl ?_
                        refine g_iadd 12 C dX1_agreeingPairs_11 rfl ?_
                        refine g_istore_n 13 [(3, _), (2, _), (1, _), (0, _)] C dX1_agreeingPairs_12 (by decide) rfl rfl ?_
                        refine g_iload_n 14 C dX1_agreeingPairs_13 rfl rfl ?_
                        refine g_iconst 15 C dX1_agreeingPairs_14 rfl ?_
                        refine g_icmp_ge 45 18 C dX1_agreeingPairs_15 rfl rfl (by omega) (by omega) (fun c15 => ?_) (fun c15 => ?_)
                        · skip
                          refine g_iinc 48 [(2, _), (3, _), (1, _), (0, _)] C dX1_agreeingPairs_45 rfl (by decide) rfl rfl ?_
                          refine g_goto 4 C dX1_agreeingPairs_48 rfl ?_
                          refine g_iload_n 5 C dX1_agreeingPairs_4 rfl rfl ?_
                          refine g_iconst 6 C dX1_agreeingPairs_5 rfl ?_
                          refine g_icmp_ge 51 9 C dX1_agreeingPairs_6 rfl rfl (by omega) (by omega) (fun c6 => ?_) (fun c6 => ?_)
                          · skip
                            refine g_iload_n 52 C dX1_agreeingPairs_51 rfl rfl ?_
                            exact g_iret C dX1_agreeingPairs_52 rfl ⟨by decide, by decide⟩ (by unfold agrP; rw [hs01, hs02, hs12]; exact ⟨rfl, rfl, rfl, rfl⟩)
                          · skip
                            exact absurd c6 (by omega)
                        · skip
                          exact absurd c15 (by omega)
                    · skip
                      exact absurd c15 (by omega)
            · skip
              exact absurd c15 (by omega)
          · skip
            have hs02 : agr K 0 2 = true := gbi_1 c33
            refine g_iinc 39 [(1, _), (3, _), (2, _), (0, _)] C dX1_agreeingPairs_36 rfl (by decide) rfl rfl ?_
            refine g_iinc 42 [(3, _), (1, _), (2, _), (0, _)] C dX1_agreeingPairs_39 rfl (by decide) rfl rfl ?_
            refine g_goto 13 C dX1_agreeingPairs_42 rfl ?_
            refine g_iload_n 14 C dX1_agreeingPairs_13 rfl rfl ?_
            refine g_iconst 15 C dX1_agreeingPairs_14 rfl ?_
            refine g_icmp_ge 45 18 C dX1_agreeingPairs_15 rfl rfl (by omega) (by omega) (fun c15 => ?_) (fun c15 => ?_)
            · skip
              refine g_iinc 48 [(2, _), (3, _), (1, _), (0, _)] C dX1_agreeingPairs_45 rfl (by decide) rfl rfl ?_
              refine g_goto 4 C dX1_agreeingPairs_48 rfl ?_
              refine g_iload_n 5 C dX1_agreeingPairs_4 rfl rfl ?_
              refine g_iconst 6 C dX1_agreeingPairs_5 rfl ?_
              refine g_icmp_ge 51 9 C dX1_agreeingPairs_6 rfl rfl (by omega) (by omega) (fun c6 => ?_) (fun c6 => ?_)
              · skip
                exact absurd c6 (by omega)
              · skip
                refine g_iload_n 10 C dX1_agreeingPairs_9 rfl rfl ?_
                refine g_iconst 11 C dX1_agreeingPairs_10 rfl ?_
                refine g_iadd 12 C dX1_agreeingPairs_11 rfl ?_
                refine g_istore_n 13 [(3, _), (2, _), (1, _), (0, _)] C dX1_agreeingPairs_12 (by decide) rfl rfl ?_
                refine g_iload_n 14 C dX1_agreeingPairs_13 rfl rfl ?_
                refine g_iconst 15 C dX1_agreeingPairs_14 rfl ?_
                refine g_icmp_ge 45 18 C dX1_agreeingPairs_15 rfl rfl (by omega) (by omega) (fun c15 => ?_) (fun c15 => ?_)
                · skip
                  exact absurd c15 (by omega)
                · skip
                  refine g_aload_n 19 C dX1_agreeingPairs_18 rfl rfl ?_
                  refine g_getf 22 C dX1_agreeingPairs_19 fl_RX1_11 rfl (by omega) k1 rfl rfl ?_
                  refine g_iload_n 23 C dX1_agreeingPairs_22 rfl rfl ?_
                  refine g_aald 24 C dX1_agreeingPairs_23 (by omega) k2 rfl rfl (by omega) (by decide) (hfc (1) (by omega) (by omega)) rfl ?_
                  refine g_aload_n 25 C dX1_agreeingPairs_24 rfl rfl ?_
                  refine g_getf 28 C dX1_agreeingPairs_25 fl_RX1_11 rfl (by omega) k1 rfl rfl ?_
                  refine g_iload_n 29 C dX1_agreeingPairs_28 rfl rfl ?_
                  refine g_aald 30 C dX1_agreeingPairs_29 (by omega) k2 rfl rfl (by omega) (by decide) (hfc (2) (by omega) (by omega)) rfl ?_
                  refine g_V1r 33 0 0 C dX1_agreeingPairs_30 rfl lk_RX1_121 gi_X0_hasSameSiblings gv_X0_hasSameSiblings ⟨_, _, rfl⟩ (by omega) (isC.h0 (k6 (1) (by omega) (by omega))) ⟨⟨by decide, by decide⟩, by decide, by decide⟩ (Nat.le_of_ble_eq_true rfl) rfl rfl rfl (c_X0_hasSameSiblings (a + 9 + 4 * (1 : Int).toNat) (K.2.2.1 1) (K.2.2.2 1) (a + 9 + 4 * (2 : Int).toNat) (K.2.2.1 2) (K.2.2.2 2) (by omega) (k6 (1) (by omega) (by omega)) (oL 1 (by omega) (by omega)) (by omega) (k6 (2) (by omega) (by omega)) (oL 2 (by omega) (by omega))) g_no (fun h9 e30_12 => ?_)
                  subst e30_12
                  refine g_if_eq 39 36 C dX1_agreeingPairs_33 rfl rfl (gbi_r _) (fun c33 => ?_) (fun c33 => ?_)
                  · skip
                    have hs12 : agr K 1 2 = false := gbi_0 c33
                    refine g_iinc 42 [(3, _), (2, _), (1, _), (0, _)] C dX1_agreeingPairs_39 rfl (by decide) rfl rfl ?_
                    refine g_goto 13 C dX1_agreeingPairs_42 rfl ?_
                    refine g_iload_n 14 C dX1_agreeingPairs_13 rfl rfl ?_
                    refine g_iconst 15 C dX1_agreeingPairs_14 rfl ?_
                    refine g_icmp_ge 45 18 C dX1_agreeingPairs_15 rfl rfl (by omega) (by omega) (fun c15 => ?_) (fun c15 => ?_)
                    · skip
                      refine g_iinc 48 [(2, _), (3, _), (1, _), (0, _)] C dX1_agreeingPairs_45 rfl (by decide) rfl rfl ?_
                      refine g_goto 4 C dX1_agreeingPairs_48 rfl ?_
                      refine g_iload_n 5 C dX1_agreeingPairs_4 rfl rfl ?_
                      refine g_iconst 6 C dX1_agreeingPairs_5 rfl ?_
                      refine g_icmp_ge 51 9 C dX1_agreeingPairs_6 rfl rfl (by omega) (by omega) (fun c6 => ?_) (fun c6 => ?_)
                      · skip
                        exact absurd c6 (by omega)
                      · skip
                        refine g_iload_n 10 C dX1_agreeingPairs_9 rfl rfl ?_
                        refine g_iconst 11 C dX1_agreeingPairs_10 rfl ?_
                        refine g_iadd 12 C dX1_agreeingPairs_11 rfl ?_
                        refine g_istore_n 13 [(3, _), (2, _), (1, _), (0, _)] C dX1_agreeingPairs_12 (by decide) rfl rfl ?_
                        refine g_iload_n 14 C dX1_agreeingPairs_13 rfl rfl ?_
                        refine g_iconst 15 C dX1_agreeingPairs_14 rfl ?_
                        refine g_icmp_ge 45 18 C dX1_agreeingPairs_15 rfl rfl (by omega) (by omega) (fun c15 => ?_) (fun c15 => ?_)
                        · skip
                          refine g_iinc 48 [(2, _), (3, _), (1, _), (0, _)] C dX1_agreeingPairs_45 rfl (by decide) rfl rfl ?_
                          refine g_goto 4 C dX1_agreeingPairs_48 rfl ?_
                          refine g_iload_n 5 C dX1_agreeingPairs_4 rfl rfl ?_
                          refine g_iconst 6 C dX1_agreeingPairs_5 rfl ?_
                          refine g_icmp_ge 51 9 C dX1_agreeingPairs_6 rfl rfl (by omega) (by omega) (fun c6 => ?_) (fun c6 => ?_)
                          · skip
                            refine g_iload_n 52 C dX1_agreeingPairs_51 rfl rfl ?_
                            exact g_iret C dX1_agreeingPairs_52 rfl ⟨by decide, by decide⟩ (by unfold agrP; rw [hs01, hs02, hs12]; exact ⟨rfl, rfl, rfl, rfl⟩)
                          · skip
                            exact absurd c6 (by omega)
                        · skip
                          exact absurd c15 (by omega)
                    · skip
                      exact absurd c15 (by omega)
                  · skip
                    have hs12 : agr K 1 2 = true := gbi_1 c33
                    refine g_iinc 39 [(1, _), (3, _), (2, _), (0, _)] C dX1_agreeingPairs_36 rfl (by decide) rfl rfl ?_
                    refine g_iinc 42 [(3, _), (1, _), (2, _), (0, _)] C dX1_agreeingPairs_39 rfl (by decide) rfl rfl ?_
                    refine g_goto 13 C dX1_agreeingPairs_42 rfl ?_
                    refine g_iload_n 14 C dX1_agreeingPairs_13 rfl rfl ?_
                    refine g_iconst 15 C dX1_agreeingPairs_14 rfl ?_
                    refine g_icmp_ge 45 18 C dX1_agreeingPairs_15 rfl rfl (by omega) (by omega) (fun c15 => ?_) (fun c15 => ?_)
                    · skip
                      refine g_iinc 48 [(2, _), (3, _), (1, _), (0, _)] C dX1_agreeingPairs_45 rfl (by decide) rfl rfl ?_
                      refine g_goto 4 C dX1_agreeingPairs_48 rfl ?_
                      refine g_iload_n 5 C dX1_agreeingPairs_4 rfl rfl ?_
                      refine g_iconst 6 C dX1_agreeingPairs_5 rfl ?_
                      refine g_icmp_ge 51 9 C dX1_agreeingPairs_6 rfl rfl (by omega) (by omega) (fun c6 => ?_) (fun c6 => ?_)
                      · skip
                        exact absurd c6 (by omega)
                      · skip
                        refine g_iload_n 10 C dX1_agreeingPairs_9 rfl rfl ?_
                        refine g_iconst 11 C dX1_agreeingPairs_10 rfl ?_
                        refine g_iadd 12 C dX1_agreeingPairs_11 rfl ?_
                        refine g_istore_n 13 [(3, _), (2, _), (1, _), (0, _)] C dX1_agreeingPairs_12 (by decide) rfl rfl ?_
                        refine g_iload_n 14 C dX1_agreeingPairs_13 rfl rfl ?_
                        refine g_iconst 15 C dX1_agreeingPairs_14 rfl ?_
                        refine g_icmp_ge 45 18 C dX1_agreeingPairs_15 rfl rfl (by omega) (by omega) (fun c15 => ?_) (fun c15 => ?_)
                        · skip
                          refine g_iinc 48 [(2, _), (3, _), (1, _), (0, _)] C dX1_agreeingPairs_45 rfl (by decide) rfl rfl ?_
                          refine g_goto 4 C dX1_agreeingPairs_48 rfl ?_
                          refine g_iload_n 5 C dX1_agreeingPairs_4 rfl rfl ?_
                          refine g_iconst 6 C dX1_agreeingPairs_5 rfl ?_
                          refine g_icmp_ge 51 9 C dX1_agreeingPairs_6 rfl rfl (by omega) (by omega) (fun c6 => ?_) (fun c6 => ?_)
                          · skip
                            refine g_iload_n 52 C dX1_agreeingPairs_51 rfl rfl ?_
                            exact g_iret C dX1_agreeingPairs_52 rfl ⟨by decide, by decide⟩ (by unfold agrP; rw [hs01, hs02, hs12]; exact ⟨rfl, rfl, rfl, rfl⟩)
                          · skip
                            exact absurd c6 (by omega)
                        · skip
                          exact absurd c15 (by omega)
                    · skip
                      exact absurd c15 (by omega)
            · skip
              exact absurd c15 (by omega)
      · skip
        have hs01 : agr K 0 1 = true := gbi_1 c33
        refine g_iinc 39 [(1, _), (3, _), (2, _), (0, _)] C dX1_agreeingPairs_36 rfl (by decide) rfl rfl ?_
        refine g_iinc 42 [(3, _), (1, _), (2, _), (0, _)] C dX1_agreeingPairs_39 rfl (by decide) rfl rfl ?_
        refine g_goto 13 C dX1_agreeingPairs_42 rfl ?_
        refine g_iload_n 14 C dX1_agreeingPairs_13 rfl rfl ?_
        refine g_iconst 15 C dX1_agreeingPairs_14 rfl ?_
        refine g_icmp_ge 45 18 C dX1_agreeingPairs_15 rfl rfl (by omega) (by omega) (fun c15 => ?_) (fun c15 => ?_)
        · skip
          exact absurd c15 (by omega)
        · skip
          refine g_aload_n 19 C dX1_agreeingPairs_18 rfl rfl ?_
          refine g_getf 22 C dX1_agreeingPairs_19 fl_RX1_11 rfl (by omega) k1 rfl rfl ?_
          refine g_iload_n 23 C dX1_agreeingPairs_22 rfl rfl ?_
          refine g_aald 24 C dX1_agreeingPairs_23 (by omega) k2 rfl rfl (by omega) (by decide) (hfc (0) (by omega) (by omega)) rfl ?_
          refine g_aload_n 25 C dX1_agreeingPairs_24 rfl rfl ?_
          refine g_getf 28 C dX1_agreeingPairs_25 fl_RX1_11 rfl (by omega) k1 rfl rfl ?_
          refine g_iload_n 29 C dX1_agreeingPairs_28 rfl rfl ?_
          refine g_aald 30 C dX1_agreeingPairs_29 (by omega) k2 rfl rfl (by omega) (by decide) (hfc (2) (by omega) (by omega)) rfl ?_
          refine g_V1r 33 0 0 C dX1_agreeingPairs_30 rfl lk_RX1_121 gi_X0_hasSameSiblings gv_X0_hasSameSiblings ⟨_, _, rfl⟩ (by omega) (isC.h0 (k6 (0) (by omega) (by omega))) ⟨⟨by decide, by decide⟩, by decide, by decide⟩ (Nat.le_of_ble_eq_true rfl) rfl rfl rfl (c_X0_hasSameSiblings (a + 9 + 4 * (0 : Int).toNat) (K.2.2.1 0) (K.2.2.2 0) (a + 9 + 4 * (2 : Int).toNat) (K.2.2.1 2) (K.2.2.2 2) (by omega) (k6 (0) (by omega) (by omega)) (oL 0 (by omega) (by omega)) (by omega) (k6 (2) (by omega) (by omega)) (oL 2 (by omega) (by omega))) g_no (fun h9 e30_02 => ?_)
          subst e30_02
          refine g_if_eq 39 36 C dX1_agreeingPairs_33 rfl rfl (gbi_r _) (fun c33 => ?_) (fun c33 => ?_)
          · skip
            have hs02 : agr K 0 2 = false := gbi_0 c33
            refine g_iinc 42 [(3, _), (1, _), (2, _), (0, _)] C dX1_agreeingPairs_39 rfl (by decide) rfl rfl ?_
            refine g_goto 13 C dX1_agreeingPairs_42 rfl ?_
            refine g_iload_n 14 C dX1_agreeingPairs_13 rfl rfl ?_
            refine g_iconst 15 C dX1_agreeingPairs_14 rfl ?_
            refine g_icmp_ge 45 18 C dX1_agreeingPairs_15 rfl rfl (by omega) (by omega) (fun c15 => ?_) (fun c15 => ?_)
            · skip
              refine g_iinc 48 [(2, _), (3, _), (1, _), (0, _)] C dX1_agreeingPairs_45 rfl (by decide) rfl rfl ?_
              refine g_goto 4 C dX1_agreeingPairs_48 rfl ?_
              refine g_iload_n 5 C dX1_agreeingPairs_4 rfl rfl ?_
              refine g_iconst 6 C dX1_agreeingPairs_5 rfl ?_
              refine g_icmp_ge 51 9 C dX1_agreeingPairs_6 rfl rfl (by omega) (by omega) (fun c6 => ?_) (fun c6 => ?_)
              · skip
                exact absurd c6 (by omega)
              · skip
                refine g_iload_n 10 C dX1_agreeingPairs_9 rfl rfl ?_
                refine g_iconst 11 C dX1_agreeingPairs_10 rfl ?_
                refine g_iadd 12 C dX1_agreeingPairs_11 rfl ?_
                refine g_istore_n 13 [(3, _), (2, _), (1, _), (0, _)] C dX1_agreeingPairs_12 (by decide) rfl rfl ?_
                refine g_iload_n 14 C dX1_agreeingPairs_13 rfl rfl ?_
                refine g_iconst 15 C dX1_agreeingPairs_14 rfl ?_
                refine g_icmp_ge 45 18 C dX1_agreeingPairs_15 rfl rfl (by omega) (by omega) (fun c15 => ?_) (fun c15 => ?_)
                · skip
                  exact absurd c15 (by omega)
                · skip
                  refine g_aload_n 19 C dX1_agreeingPairs_18 rfl rfl ?_
                  refine g_getf 22 C dX1_agreeingPairs_19 fl_RX1_11 rfl (by omega) k1 rfl rfl ?_
                  refine g_iload_n 23 C dX1_agreeingPairs_22 rfl rfl ?_
                  refine g_aald 24 C dX1_agreeingPairs_23 (by omega) k2 rfl rfl (by omega) (by decide) (hfc (1) (by omega) (by omega)) rfl ?_
                  refine g_aload_n 25 C dX1_agreeingPairs_24 rfl rfl ?_
                  refine g_getf 28 C dX1_agreeingPairs_25 fl_RX1_11 rfl (by omega) k1 rfl rfl ?_
                  refine g_iload_n 29 C dX1_agreeingPairs_28 rfl rfl ?_
                  refine g_aald 30 C dX1_agreeingPairs_29 (by omega) k2 rfl rfl (by omega) (by decide) (hfc (2) (by omega) (by omega)) rfl ?_
                  refine g_V1r 33 0 0 C dX1_agreeingPairs_30 rfl lk_RX1_121 gi_X0_hasSameSiblings gv_X0_hasSameSiblings ⟨_, _, rfl⟩ (by omega) (isC.h0 (k6 (1) (by omega) (by omega))) ⟨⟨by decide, by decide⟩, by decide, by decide⟩ (Nat.le_of_ble_eq_true rfl) rfl rfl rfl (c_X0_hasSameSiblings (a + 9 + 4 * (1 : Int).toNat) (K.2.2.1 1) (K.2.2.2 1) (a + 9 + 4 * (2 : Int).toNat) (K.2.2.1 2) (K.2.2.2 2) (by omega) (k6 (1) (by omega) (by omega)) (oL 1 (by omega) (by omega)) (by omega) (k6 (2) (by omega) (by omega)) (oL 2 (by omega) (by omega))) g_no (fun h9 e30_12 => ?_)
                  subst e30_12
                  refine g_if_eq 39 36 C dX1_agreeingPairs_33 rfl rfl (gbi_r _) (fun c33 => ?_) (fun c33 => ?_)
                  · skip
                    have hs12 : agr K 1 2 = false := gbi_0 c33
                    refine g_iinc 42 [(3, _), (2, _), (1, _), (0, _)] C dX1_agreeingPairs_39 rfl (by decide) rfl rfl ?_
                    refine g_goto 13 C dX1_agreeingPairs_42 rfl ?_
                    refine g_iload_n 14 C dX1_agreeingPairs_13 rfl rfl ?_
                    refine g_iconst 15 C dX1_agreeingPairs_14 rfl ?_
                    refine g_icmp_ge 45 18 C dX1_agreeingPairs_15 rfl rfl (by omega) (by omega) (fun c15 => ?_) (fun c15 => ?_)
                    · skip
                      refine g_iinc 48 [(2, _), (3, _), (1, _), (0, _)] C dX1_agreeingPairs_45 rfl (by decide) rfl rfl ?_
                      refine g_goto 4 C dX1_agreeingPairs_48 rfl ?_
                      refine g_iload_n 5 C dX1_agreeingPairs_4 rfl rfl ?_
                      refine g_iconst 6 C dX1_agreeingPairs_5 rfl ?_
                      refine g_icmp_ge 51 9 C dX1_agreeingPairs_6 rfl rfl (by omega) (by omega) (fun c6 => ?_) (fun c6 => ?_)
                      · skip
                        exact absurd c6 (by omega)
                      · skip
                        refine g_iload_n 10 C dX1_agreeingPairs_9 rfl rfl ?_
                        refine g_iconst 11 C dX1_agreeingPairs_10 rfl ?_
                        refine g_iadd 12 C dX1_agreeingPairs_11 rfl ?_
                        refine g_istore_n 13 [(3, _), (2, _), (1, _), (0, _)] C dX1_agreeingPairs_12 (by decide) rfl rfl ?_
                        refine g_iload_n 14 C dX1_agreeingPairs_13 rfl rfl ?_
                        refine g_iconst 15 C dX1_agreeingPairs_14 rfl ?_
                        refine g_icmp_ge 45 18 C dX1_agreeingPairs_15 rfl rfl (by omega) (by omega) (fun c15 => ?_) (fun c15 => ?_)
                        · skip
                          refine g_iinc 48 [(2, _), (3, _), (1, _), (0, _)] C dX1_agreeingPairs_45 rfl (by decide) rfl rfl ?_
                          refine g_goto 4 C dX1_agreeingPairs_48 rfl ?_
                          refine g_iload_n 5 C dX1_agreeingPairs_4 rfl rfl ?_
                          refine g_iconst 6 C dX1_agreeingPairs_5 rfl ?_
                          refine g_icmp_ge 51 9 C dX1_agreeingPairs_6 rfl rfl (by omega) (by omega) (fun c6 => ?_) (fun c6 => ?_)
                          · skip
                            refine g_iload_n 52 C dX1_agreeingPairs_51 rfl rfl ?_
                            exact g_iret C dX1_agreeingPairs_52 rfl ⟨by decide, by decide⟩ (by unfold agrP; rw [hs01, hs02, hs12]; exact ⟨rfl, rfl, rfl, rfl⟩)
                          · skip
                            exact absurd c6 (by omega)
                        · skip
                          exact absurd c15 (by omega)
                    · skip
                      exact absurd c15 (by omega)
                  · skip
                    have hs12 : agr K 1 2 = true := gbi_1 c33
                    refine g_iinc 39 [(1, _), (3, _), (2, _), (0, _)] C dX1_agreeingPairs_36 rfl (by decide) rfl rfl ?_
                    refine g_iinc 42 [(3, _), (1, _), (2, _), (0, _)] C dX1_agreeingPairs_39 rfl (by decide) rfl rfl ?_
                    refine g_goto 13 C dX1_agreeingPairs_42 rfl ?_
                    refine g_iload_n 14 C dX1_agreeingPairs_13 rfl rfl ?_
                    refine g_iconst 15 C dX1_agreeingPairs_14 rfl ?_
                    refine g_icmp_ge 45 18 C dX1_agreeingPairs_15 rfl rfl (by omega) (by omega) (fun c15 => ?_) (fun c15 => ?_)
                    · skip
                      refine g_iinc 48 [(2, _), (3, _), (1, _), (0, _)] C dX1_agreeingPairs_45 rfl (by decide) rfl rfl ?_
                      refine g_goto 4 C dX1_agreeingPairs_48 rfl ?_
                      refine g_iload_n 5 C dX1_agreeingPairs_4 rfl rfl ?_
                      refine g_iconst 6 C dX1_agreeingPairs_5 rfl ?_
                      refine g_icmp_ge 51 9 C dX1_agreeingPairs_6 rfl rfl (by omega) (by omega) (fun c6 => ?_) (fun c6 => ?_)
                      · skip
                        exact absurd c6 (by omega)
                      · skip
                        refine g_iload_n 10 C dX1_agreeingPairs_9 rfl rfl ?_
                        refine g_iconst 11 C dX1_agreeingPairs_10 rfl ?_
                        refine g_iadd 12 C dX1_agreeingPairs_11 rfl ?_
                        refine g_istore_n 13 [(3, _), (2, _), (1, _), (0, _)] C dX1_agreeingPairs_12 (by decide) rfl rfl ?_
                        refine g_iload_n 14 C dX1_agreeingPairs_13 rfl rfl ?_
                        refine g_iconst 15 C dX1_agreeingPairs_14 rfl ?_
                        refine g_icmp_ge 45 18 C dX1_agreeingPairs_15 rfl rfl (by omega) (by omega) (fun c15 => ?_) (fun c15 => ?_)
                        · skip
                          refine g_iinc 48 [(2, _), (3, _), (1, _), (0, _)] C dX1_agreeingPairs_45 rfl (by decide) rfl rfl ?_
                          refine g_goto 4 C dX1_agreeingPairs_48 rfl ?_
                          refine g_iload_n 5 C dX1_agreeingPairs_4 rfl rfl ?_
                          refine g_iconst 6 C dX1_agreeingPairs_5 rfl ?_
                          refine g_icmp_ge 51 9 C dX1_agreeingPairs_6 rfl rfl (by omega) (by omega) (fun c6 => ?_) (fun c6 => ?_)
                          · skip
                            refine g_iload_n 52 C dX1_agreeingPairs_51 rfl rfl ?_
                            exact g_iret C dX1_agreeingPairs_52 rfl ⟨by decide, by decide⟩ (by unfold agrP; rw [hs01, hs02, hs12]; exact ⟨rfl, rfl, rfl, rfl⟩)
                          · skip
                            exact absurd c6 (by omega)
                        · skip
                          exact absurd c15 (by omega)
                    · skip
                      exact absurd c15 (by omega)
            · skip
              exact absurd c15 (by omega)
          · skip
            have hs02 : agr K 0 2 = true := gbi_1 c33
            refine g_iinc 39 [(1, _), (3, _), (2, _), (0, _)] C dX1_agreeingPairs_36 rfl (by decide) rfl rfl ?_
            refine g_iinc 42 [(3, _), (1, _), (2, _), (0, _)] C dX1_agreeingPairs_39 rfl (by decide) rfl rfl ?_
            refine g_goto 13 C dX1_agreeingPairs_42 rfl ?_
            refine g_iload_n 14 C dX1_agreeingPairs_13 rfl rfl ?_
            refine g_iconst 15 C dX1_agreeingPairs_14 rfl ?_
            refine g_icmp_ge 45 18 C dX1_agreeingPairs_15 rfl rfl (by omega) (by omega) (fun c15 => ?_) (fun c15 => ?_)
            · skip
              refine g_iinc 48 [(2, _), (3, _), (1, _), (0, _)] C dX1_agreeingPairs_45 rfl (by decide) rfl rfl ?_
              refine g_goto 4 C dX1_agreeingPairs_48 rfl ?_
              refine g_iload_n 5 C dX1_agreeingPairs_4 rfl rfl ?_
              refine g_iconst 6 C dX1_agreeingPairs_5 rfl ?_
              refine g_icmp_ge 51 9 C dX1_agreeingPairs_6 rfl rfl (by omega) (by omega) (fun c6 => ?_) (fun c6 => ?_)
              · skip
                exact absurd c6 (by omega)
              · skip
                refine g_iload_n 10 C dX1_agreeingPairs_9 rfl rfl ?_
                refine g_iconst 11 C dX1_agreeingPairs_10 rfl ?_
                refine g_iadd 12 C dX1_agreeingPairs_11 rfl ?_
                refine g_istore_n 13 [(3, _), (2, _), (1, _), (0, _)] C dX1_agreeingPairs_12 (by decide) rfl rfl ?_
                refine g_iload_n 14 C dX1_agreeingPairs_13 rfl rfl ?_
                refine g_iconst 15 C dX1_agreeingPairs_14 rfl ?_
                refine g_icmp_ge 45 18 C dX1_agreeingPairs_15 rfl rfl (by omega) (by omega) (fun c15 => ?_) (fun c15 => ?_)
                · skip
                  exact absurd c15 (by omega)
                · skip
                  refine g_aload_n 19 C dX1_agreeingPairs_18 rfl rfl ?_
                  refine g_getf 22 C dX1_agreeingPairs_19 fl_RX1_11 rfl (by omega) k1 rfl rfl ?_
                  refine g_iload_n 23 C dX1_agreeingPairs_22 rfl rfl ?_
                  refine g_aald 24 C dX1_agreeingPairs_23 (by omega) k2 rfl rfl (by omega) (by decide) (hfc (1) (by omega) (by omega)) rfl ?_
                  refine g_aload_n 25 C dX1_agreeingPairs_24 rfl rfl ?_
                  refine g_getf 28 C dX1_agreeingPairs_25 fl_RX1_11 rfl (by omega) k1 rfl rfl ?_
                  refine g_iload_n 29 C dX1_agreeingPairs_28 rfl rfl ?_
                  refine g_aald 30 C dX1_agreeingPairs_29 (by omega) k2 rfl rfl (by omega) (by decide) (hfc (2) (by omega) (by omega)) rfl ?_
                  refine g_V1r 33 0 0 C dX1_agreeingPairs_30 rfl lk_RX1_121 gi_X0_hasSameSiblings gv_X0_hasSameSiblings ⟨_, _, rfl⟩ (by omega) (isC.h0 (k6 (1) (by omega) (by omega))) ⟨⟨by decide, by decide⟩, by decide, by decide⟩ (Nat.le_of_ble_eq_true rfl) rfl rfl rfl (c_X0_hasSameSiblings (a + 9 + 4 * (1 : Int).toNat) (K.2.2.1 1) (K.2.2.2 1) (a + 9 + 4 * (2 : Int).toNat) (K.2.2.1 2) (K.2.2.2 2) (by omega) (k6 (1) (by omega) (by omega)) (oL 1 (by omega) (by omega)) (by omega) (k6 (2) (by omega) (by omega)) (oL 2 (by omega) (by omega))) g_no (fun h9 e30_12 => ?_)
                  subst e30_12
                  refine g_if_eq 39 36 C dX1_agreeingPairs_33 rfl rfl (gbi_r _) (fun c33 => ?_) (fun c33 => ?_)
                  · skip
                    have hs12 : agr K 1 2 = false := gbi_0 c33
                    refine g_iinc 42 [(3, _), (2, _), (1, _), (0, _)] C dX1_agreeingPairs_39 rfl (by decide) rfl rfl ?_
                    refine g_goto 13 C dX1_agreeingPairs_42 rfl ?_
                    refine g_iload_n 14 C dX1_agreeingPairs_13 rfl rfl ?_
                    refine g_iconst 15 C dX1_agreeingPairs_14 rfl ?_
                    refine g_icmp_ge 45 18 C dX1_agreeingPairs_15 rfl rfl (by omega) (by omega) (fun c15 => ?_) (fun c15 => ?_)
                    · skip
                      refine g_iinc 48 [(2, _), (3, _), (1, _), (0, _)] C dX1_agreeingPairs_45 rfl (by decide) rfl rfl ?_
                      refine g_goto 4 C dX1_agreeingPairs_48 rfl ?_
                      refine g_iload_n 5 C dX1_agreeingPairs_4 rfl rfl ?_
                      refine g_iconst 6 C dX1_agreeingPairs_5 rfl ?_
                      refine g_icmp_ge 51 9 C dX1_agreeingPairs_6 rfl rfl (by omega) (by omega) (fun c6 => ?_) (fun c6 => ?_)
                      · skip
                        exact absurd c6 (by omega)
                      · skip
                        refine g_iload_n 10 C dX1_agreeingPairs_9 rfl rfl ?_
                        refine g_iconst 11 C dX1_agreeingPairs_10 rfl ?_
                        refine g_iadd 12 C dX1_agreeingPairs_11 rfl ?_
                        refine g_istore_n 13 [(3, _), (2, _), (1, _), (0, _)] C dX1_agreeingPairs_12 (by decide) rfl rfl ?_
                        refine g_iload_n 14 C dX1_agreeingPairs_13 rfl rfl ?_
                        refine g_iconst 15 C dX1_agreeingPairs_14 rfl ?_
                        refine g_icmp_ge 45 18 C dX1_agreeingPairs_15 rfl rfl (by omega) (by omega) (fun c15 => ?_) (fun c15 => ?_)
                        · skip
                          refine g_iinc 48 [(2, _), (3, _), (1, _), (0, _)] C dX1_agreeingPairs_45 rfl (by decide) rfl rfl ?_
                          refine g_goto 4 C dX1_agreeingPairs_48 rfl ?_
                          refine g_iload_n 5 C dX1_agreeingPairs_4 rfl rfl ?_
                          refine g_iconst 6 C dX1_agreeingPairs_5 rfl ?_
                          refine g_icmp_ge 51 9 C dX1_agreeingPairs_6 rfl rfl (by omega) (by omega) (fun c6 => ?_) (fun c6 => ?_)
                          · skip
                            refine g_iload_n 52 C dX1_agreeingPairs_51 rfl rfl ?_
                            exact g_iret C dX1_agreeingPairs_52 rfl ⟨by decide, by decide⟩ (by unfold agrP; rw [hs01, hs02, hs12]; exact ⟨rfl, rfl, rfl, rfl⟩)
                          · skip
                            exact absurd c6 (by omega)
                        · skip
                          exact absurd c15 (by omega)
                    · skip
                      exact absurd c15 (by omega)
                  · skip
                    have hs12 : agr K 1 2 = true := gbi_1 c33
                    refine g_iinc 39 [(1, _), (3, _), (2, _), (0, _)] C dX1_agreeingPairs_36 rfl (by decide) rfl rfl ?_
                    refine g_iinc 42 [(3, _), (1, _), (2, _), (0, _)] C dX1_agreeingPairs_39 rfl (by decide) rfl rfl ?_
                    refine g_goto 13 C dX1_agreeingPairs_42 rfl ?_
                    refine g_iload_n 14 C dX1_agreeingPairs_13 rfl rfl ?_
                    refine g_iconst 15 C dX1_agreeingPairs_14 rfl ?_
                    refine g_icmp_ge 45 18 C dX1_agreeingPairs_15 rfl rfl (by omega) (by omega) (fun c15 => ?_) (fun c15 => ?_)
                    · skip
                      refine g_iinc 48 [(2, _), (3, _), (1, _), (0, _)] C dX1_agreeingPairs_45 rfl (by decide) rfl rfl ?_
                      refine g_goto 4 C dX1_agreeingPairs_48 rfl ?_
                      refine g_iload_n 5 C dX1_agreeingPairs_4 rfl rfl ?_
                      refine g_iconst 6 C dX1_agreeingPairs_5 rfl ?_
                      refine g_icmp_ge 51 9 C dX1_agreeingPairs_6 rfl rfl (by omega) (by omega) (fun c6 => ?_) (fun c6 => ?_)
                      · skip
                        exact absurd c6 (by omega)
                      · skip
                        refine g_iload_n 10 C dX1_agreeingPairs_9 rfl rfl ?_
                        refine g_iconst 11 C dX1_agreeingPairs_10 rfl ?_
                        refine g_iadd 12 C dX1_agreeingPairs_11 rfl ?_
                        refine g_istore_n 13 [(3, _), (2, _), (1, _), (0, _)] C dX1_agreeingPairs_12 (by decide) rfl rfl ?_
                        refine g_iload_n 14 C dX1_agreeingPairs_13 rfl rfl ?_
                        refine g_iconst 15 C dX1_agreeingPairs_14 rfl ?_
                        refine g_icmp_ge 45 18 C dX1_agreeingPairs_15 rfl rfl (by omega) (by omega) (fun c15 => ?_) (fun c15 => ?_)
                        · skip
                          refine g_iinc 48 [(2, _), (3, _), (1, _), (0, _)] C dX1_agreeingPairs_45 rfl (by decide) rfl rfl ?_
                          refine g_goto 4 C dX1_agreeingPairs_48 rfl ?_
                          refine g_iload_n 5 C dX1_agreeingPairs_4 rfl rfl ?_
                          refine g_iconst 6 C dX1_agreeingPairs_5 rfl ?_
                          refine g_icmp_ge 51 9 C dX1_agreeingPairs_6 rfl rfl (by omega) (by omega) (fun c6 => ?_) (fun c6 => ?_)
                          · skip
                            refine g_iload_n 52 C dX1_agreeingPairs_51 rfl rfl ?_
                            exact g_iret C dX1_agreeingPairs_52 rfl ⟨by decide, by decide⟩ (by unfold agrP; rw [hs01, hs02, hs12]; exact ⟨rfl, rfl, rfl, rfl⟩)
                          · skip
                            exact absurd c6 (by omega)
                        · skip
                          exact absurd c15 (by omega)
                    · skip
                      exact absurd c15 (by omega)
            · skip
              exact absurd c15 (by omega)
set_option maxRecDepth 100000 in
set_option maxHeartbeats 4000000 in
theorem c_X1_forgettable {E : gEnv} {n : Nat} {σ : Option Nat} {h : gH} (a : Nat) (K : gKy) (hab : gB E ≤ a ∧ a + 21 ≤ gB E + n) (hK : isK E h a K) (hok : okK K)  : gM E mX1_forgettable [.ref a] n σ h (gD (some (.int (gi (fgtM K)))) n σ (fun h9 => h9 = h)) (gNo) := by
  have hK9 := hK
  obtain ⟨k1, ⟨fc, k2, hfc⟩, ⟨fk, k3, hfk⟩, k4, k5, k6⟩ := hK
  obtain ⟨oW, oN, oV, oL⟩ := hok
  refine gM_of (by decide) (Nat.le_of_ble_eq_true rfl) (fun F C => ?_)
  refine g_iconst 1 C dX1_forgettable_0 rfl ?_
  refine g_istore_n 2 [(1, _), (0, _)] C dX1_forgettable_1 (by decide) rfl rfl ?_
  refine g_iconst 3 C dX1_forgettable_2 rfl ?_
  refine g_istore_n 4 [(2, _), (1, _), (0, _)] C dX1_forgettable_3 (by decide) rfl rfl ?_
  have lp4 : ∀ (k9 : Nat) (i : Nat), i ≤ 5 → 5 - i < k9 → G E F mX1_forgettable (gQ E F mX1_forgettable n (gD (some (.int (gi (fgtM K)))) n σ (fun h9 => h9 = h)) (gNo)) n σ h 0 0 4 [(2, .int (gi (i : Int))), (1, .int (gi (gmsk (fun w : Int => decide (hind K w = 0) && decide (0 < K.2.2.1 0 w)) i))), (0, .ref a)] [] := by
    intro k9
    induction k9 with
    | zero => intro i hi h0; exact absurd h0 (Nat.not_lt_zero _)
    | succ k9 ih4 =>
      intro i hi hk4
      refine g_iload_n 5 C dX1_forgettable_4 rfl rfl ?_
      refine g_iconst 6 C dX1_forgettable_5 rfl ?_
      refine g_icmp_ge 43 9 C dX1_forgettable_6 rfl rfl (by omega) (by omega) (fun c6 => ?_) (fun c6 => ?_)
      · skip
        refine g_iload_n 44 C dX1_forgettable_43 rfl rfl ?_
        exact g_iret C dX1_forgettable_44 rfl ⟨by decide, by decide⟩ (by rw [show i = 5 by omega]; exact ⟨rfl, rfl, rfl, rfl⟩)
      · skip
        have hv0 := oV 0 (by omega) (by omega) (i : Int) (by omega) (by omega)
        have hhr : hind K (i : Int) = 0 ∨ hind K (i : Int) = 1 ∨ hind K (i : Int) = 2 := by unfold hind; split; exact Or.inr (Or.inl rfl); split; exact Or.inr (Or.inr rfl); exact Or.inl rfl
        refine g_aload_n 10 C dX1_forgettable_9 rfl rfl ?_
        refine g_iload_n 11 C dX1_forgettable_10 rfl rfl ?_
        refine g_V1r 14 0 0 C dX1_forgettable_11 rfl lk_RX1_129 gi_X1_hindrance gv_X1_hindrance ⟨_, _, rfl⟩ (by omega) k1 ⟨⟨by decide, by decide⟩, by decide, by decide⟩ (Nat.le_of_ble_eq_true rfl) rfl rfl rfl (c_X1_hindrance a K (i : Int) hab hK9 ⟨oW, oN, oV, oL⟩ (by omega)) g_no (fun h9 e11 => ?_)
        subst e11
        refine g_if_ne 37 17 C dX1_forgettable_14 rfl rfl (by omega) (fun c14 => ?_) (fun c14 => ?_)
        · skip
          have hu9 : gmsk (fun w : Int => decide (hind K w = 0) && decide (0 < K.2.2.1 0 w)) (i + 1) = gmsk (fun w : Int => decide (hind K w = 0) && decide (0 < K.2.2.1 0 w)) i := gmsk_no _ (by rw [decide_eq_false c14]; rfl)
          refine g_iinc 40 [(2, _), (1, _), (0, _)] C dX1_forgettable_37 rfl (by decide) rfl rfl ?_
          refine g_goto 4 C dX1_forgettable_40 rfl ?_
          refine g_loc [(2, _), (1, .int (gi (gmsk (fun w : Int => decide (hind K w = 0) && decide (0 < K.2.2.1 0 w)) (i + 1)))), (0, _)] ⟨rfl, (by rw [hu9]; rfl), rfl, trivial⟩ ?_
          exact ih4 (i + 1) (by omega) (by omega)
        · skip
          refine g_aload_n 18 C dX1_forgettable_17 rfl rfl ?_
          refine g_getf 21 C dX1_forgettable_18 fl_RX1_11 rfl (by omega) k1 rfl rfl ?_
          refine g_iconst 22 C dX1_forgettable_21 rfl ?_
          refine g_aald 23 C dX1_forgettable_22 (by omega) k2 rfl rfl (by omega) (by decide) (hfc (0) (by omega) (by omega)) rfl ?_
          refine g_getf 26 C dX1_forgettable_23 fl_RX1_37 rfl (by omega) (isC.h0 (k6 (0) (by omega) (by omega))) rfl rfl ?_
          refine g_iload_n 27 C dX1_forgettable_26 rfl rfl ?_
          refine g_iald 28 C dX1_forgettable_27 (by omega) (isC.h1 (k6 (0) (by omega) (by omega))) (by omega) (by decide) rfl ?_
          refine g_if_le 37 31 C dX1_forgettable_28 rfl rfl (by omega) (fun c28 => ?_) (fun c28 => ?_)
          · skip
            have hu9 : gmsk (fun w : Int => decide (hind K w = 0) && decide (0 < K.2.2.1 0 w)) (i + 1) = gmsk (fun w : Int => decide (hind K w = 0) && decide (0 < K.2.2.1 0 w)) i := gmsk_no _ (by rw [decide_eq_false (show ¬ 0 < K.2.2.1 0 (i : Int) by omega), Bool.and_false])
            refine g_iinc 40 [(2, _), (1, _), (0, _)] C dX1_forgettable_37 rfl (by decide) rfl rfl ?_
            refine g_goto 4 C dX1_forgettable_40 rfl ?_
            refine g_loc [(2, _), (1, .int (gi (gmsk (fun w : Int => decide (hind K w = 0) && decide (0 < K.2.2.1 0 w)) (i + 1)))), (0, _)] ⟨rfl, (by rw [hu9]; rfl), rfl, trivial⟩ ?_
            exact ih4 (i + 1) (by omega) (by omega)
          · skip
            have hu8 := gmsk_or (fun w : Int => decide (hind K w = 0) && decide (0 < K.2.2.1 0 w)) (i := i) (by omega) (by rw [decide_eq_true c14, decide_eq_true (show 0 < K.2.2.1 0 (i : Int) by omega)]; rfl)
            have hu9 : gmsk (fun w : Int => decide (hind K w = 0) && decide (0 < K.2.2.1 0 w)) (i + 1) = gmsk (fun w : Int => decide (hind K w = 0) && decide (0 < K.2.2.1 0 w)) (i + 1) := rfl
            refine g_iload_n 32 C dX1_forgettable_31 rfl rfl ?_
            refine g_iconst 33 C dX1_forgettable_32 rfl ?_
            refine g_iload_n 34 C dX1_forgettable_33 rfl rfl ?_
            refine g_ishl 35 C dX1_forgettable_34 (g_shl (by omega)) rfl ?_
            refine g_ior 36 C dX1_forgettable_35 hu8 rfl ?_
            refine g_istore_n 37 [(1, _), (2, _), (0, _)] C dX1_forgettable_36 (by decide) rfl rfl ?_
            refine g_iinc 40 [(2, _), (1, _), (0, _)] C dX1_forgettable_37 rfl (by decide) rfl rfl ?_
            refine g_goto 4 C dX1_forgettable_40 rfl ?_
            refine g_loc [(2, _), (1, .int (gi (gmsk (fun w : Int => decide (hind K w = 0) && decide (0 < K.2.2.1 0 w)) (i + 1)))), (0, _)] ⟨rfl, (by rw [hu9]; rfl), rfl, trivial⟩ ?_
            exact ih4 (i + 1) (by omega) (by omega)
  refine g_loc [(2, _), (1, _), (0, _)] ⟨rfl, rfl, rfl, trivial⟩ ?_
  exact lp4 _ 0 (by omega) (Nat.lt_succ_self _)
set_option maxRecDepth 100000 in
set_option maxHeartbeats 4000000 in
theorem c_X1_siblingFact {E : gEnv} {n : Nat} {σ : Option Nat} {h : gH} (a : Nat) (K : gKy) (s : Int) (p : Nat) (what : Int) (hab : gB E ≤ a ∧ a + 21 ≤ gB E + n) (hK : isK E h a K) (hok : okK K) (hs : 0 ≤ s ∧ s < 3) (hp : p < 4) (hwh : 0 ≤ what ∧ what ≤ 4) : gM E mX1_siblingFact [.ref a, .int (gi s), .int (gi (p : Int)), .int (gi what)] n σ h (gD (some (.int (gi (sibF K s (p : Int) what)))) n σ (fun h9 => h9 = h)) (gNo) := by
  have hK9 := hK
  obtain ⟨k1, ⟨fc, k2, hfc⟩, ⟨fk, k3, hfk⟩, k4, k5, k6⟩ := hK
  obtain ⟨oW, oN, oV, oL⟩ := hok
  have hc6 := k6 s (by omega) (by omega)
  obtain ⟨mk, vl, hl, q⟩ := hc6
  have hlen := (oL s (by omega) (by omega)).1
  have hlen9 : ((K.2.2.2 s).length : Int) ≤ 4 := by omega
  refine gM_of (by decide) (Nat.le_of_ble_eq_true rfl) (fun F C => ?_)
  refine g_aload_n 1 C dX1_siblingFact_0 rfl rfl ?_
  refine g_getf 4 C dX1_siblingFact_1 fl_RX1_11 rfl (by omega) k1 rfl rfl ?_
  refine g_iload_n 5 C dX1_siblingFact_4 rfl rfl ?_
  refine g_aald 6 C dX1_siblingFact_5 (by omega) k2 rfl rfl (by omega) (by decide) (hfc (s) (by omega) (by omega)) rfl ?_
  refine g_astore 8 [(4, _), (0, _), (1, _), (2, _), (3, _)] C dX1_siblingFact_6 (by decide) rfl rfl ?_
  refine g_iload_n 9 C dX1_siblingFact_8 rfl rfl ?_
  refine g_aload 11 C dX1_siblingFact_9 rfl rfl ?_
  refine g_getf 14 C dX1_siblingFact_11 fl_RX1_55 rfl (by omega) q.1 rfl rfl ?_
  refine g_icmp_lt 19 17 C dX1_siblingFact_14 rfl rfl (by omega) (by omega) (fun c14 => ?_) (fun c14 => ?_)
  · skip
    have hpl : p < (K.2.2.2 s).length := by omega
    have hv := okL_at hl (oL s (by omega) (by omega)) hpl
    have hx : (K.2.2.2 s)[((p : Nat) : Int).toNat]? = some (mk (p : Int), vl (p : Int)) := by rw [Int.toNat_natCast, hl]; exact lst_get hpl
    refine g_aload 21 C dX1_siblingFact_19 rfl rfl ?_
    refine g_getf 24 C dX1_siblingFact_21 fl_RX1_78 rfl (by omega) q.1 rfl rfl ?_
    refine g_iload_n 25 C dX1_siblingFact_24 rfl rfl ?_
    refine g_iald 26 C dX1_siblingFact_25 (by omega) q.2.2.1 (by omega) (by decide) rfl ?_
    refine g_istore 28 [(5, _), (4, _), (0, _), (1, _), (2, _), (3, _)] C dX1_siblingFact_26 (by decide) rfl rfl ?_
    refine g_iload_n 29 C dX1_siblingFact_28 rfl rfl ?_
    skip
    by_cases z29_0 : what = 0
    · skip
      refine g_table 60 C dX1_siblingFact_29 (by omega) (by omega) (by omega) (off := 31) (by rw [z29_0]; rfl) rfl ?_
      refine g_iload 62 C dX1_siblingFact_60 rfl rfl ?_
      refine g_SN1r 65 0 0 C dX1_siblingFact_62 rfl ln_RX1_81 gs_X4_writerOf ⟨⟨by decide, by decide⟩, by decide, by decide⟩ (Nat.le_of_ble_eq_true rfl) rfl rfl rfl (c_X4_writerOf (mk (p : Int)) (by omega)) g_no (fun h9 e62 => ?_)
      subst e62
      exact g_iret C dX1_siblingFact_65 rfl ⟨by decide, by decide⟩ (by rw [show sibF K s (p : Int) what = mk (p : Int) / 1000 by unfold sibF; rw [hx]; exact if_pos z29_0]; exact ⟨rfl, rfl, rfl, rfl⟩)
    by_cases z29_1 : what = 1
    · skip
      refine g_table 66 C dX1_siblingFact_29 (by omega) (by omega) (by omega) (off := 37) (by rw [z29_1]; rfl) rfl ?_
      refine g_iload 68 C dX1_siblingFact_66 rfl rfl ?_
      refine g_SN1r 71 0 0 C dX1_siblingFact_68 rfl ln_RX1_85 gs_X4_numberOf ⟨⟨by decide, by decide⟩, by decide, by decide⟩ (Nat.le_of_ble_eq_true rfl) rfl rfl rfl (c_X4_numberOf (mk (p : Int)) (by omega)) g_no (fun h9 e68 => ?_)
      subst e68
      exact g_iret C dX1_siblingFact_71 rfl ⟨by decide, by decide⟩ (by rw [show sibF K s (p : Int) what = mk (p : Int) % 1000 by unfold sibF; rw [hx]; exact (if_neg z29_0).trans (if_pos z29_1)]; exact ⟨rfl, rfl, rfl, rfl⟩)
    by_cases z29_2 : what = 2
    · skip
      refine g_table 72 C dX1_siblingFact_29 (by omega) (by omega) (by omega) (off := 43) (by rw [z29_2]; rfl) rfl ?_
      refine g_aload 74 C dX1_siblingFact_72 rfl rfl ?_
      refine g_getf 77 C dX1_siblingFact_74 fl_RX1_88 rfl (by omega) q.1 rfl rfl ?_
      refine g_iload_n 78 C dX1_siblingFact_77 rfl rfl ?_
      refine g_iald 79 C dX1_siblingFact_78 (by omega) q.2.2.2 (by omega) (by decide) rfl ?_
      exact g_iret C dX1_siblingFact_79 rfl ⟨by decide, by decide⟩ (by rw [show sibF K s (p : Int) what = vl (p : Int) by unfold sibF; rw [hx]; exact (if_neg z29_0).trans ((if_neg z29_1).trans (if_pos z29_2))]; exact ⟨rfl, rfl, rfl, rfl⟩)
    by_cases z29_3 : what = 3
    · skip
      refine g_table 80 C dX1_siblingFact_29 (by omega) (by omega) (by omega) (off := 51) (by rw [z29_3]; rfl) rfl ?_
      refine g_aload_n 81 C dX1_siblingFact_80 rfl rfl ?_
      refine g_iload 83 C dX1_siblingFact_81 rfl rfl ?_
      refine g_V1r 86 0 0 C dX1_siblingFact_83 rfl lk_RX1_91 gi_X1_knowers gv_X1_knowers ⟨_, _, rfl⟩ (by omega) k1 ⟨⟨by decide, by decide⟩, by decide, by decide⟩ (Nat.le_of_ble_eq_true rfl) rfl rfl rfl (c_X1_knowers a K (mk (p : Int)) hab hK9 ⟨oW, oN, oV, oL⟩ (by omega)) g_no (fun h9 e83 => ?_)
      subst e83
      exact g_iret C dX1_siblingFact_86 rfl ⟨by decide, by decide⟩ (by rw [show sibF K s (p : Int) what = knw K (mk (p : Int)) by unfold sibF; rw [hx]; exact (if_neg z29_0).trans ((if_neg z29_1).trans ((if_neg z29_2).trans (if_pos z29_3)))]; exact ⟨rfl, rfl, rfl, rfl⟩)
    refine g_tableD 87 C dX1_siblingFact_29 (by omega) (by omega) rfl ?_
    refine g_aload_n 88 C dX1_siblingFact_87 rfl rfl ?_
    refine g_iload 90 C dX1_siblingFact_88 rfl rfl ?_
    refine g_V1r 93 0 0 C dX1_siblingFact_90 rfl lk_RX1_94 gi_X1_holders gv_X1_holders ⟨_, _, rfl⟩ (by omega) k1 ⟨⟨by decide, by decide⟩, by decide, by decide⟩ (Nat.le_of_ble_eq_true rfl) rfl rfl rfl (c_X1_holders a K (mk (p : Int)) hab hK9 ⟨oW, oN, oV, oL⟩ (by omega)) g_no (fun h9 e90 => ?_)
    subst e90
    exact g_iret C dX1_siblingFact_93 rfl ⟨by decide, by decide⟩ (by rw [show sibF K s (p : Int) what = hld K (mk (p : Int)) by unfold sibF; rw [hx]; exact (if_neg z29_0).trans ((if_neg z29_1).trans ((if_neg z29_2).trans (if_neg z29_3)))]; exact ⟨rfl, rfl, rfl, rfl⟩)
  · skip
    have ec : sibF K s (p : Int) what = -1 := by unfold sibF; rw [List.getElem?_eq_none (by omega)]
    refine g_iconst 18 C dX1_siblingFact_17 rfl ?_
    exact g_iret C dX1_siblingFact_18 rfl ⟨by decide, by decide⟩ (by rw [ec]; exact ⟨rfl, rfl, rfl, rfl⟩)
