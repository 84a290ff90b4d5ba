/-! SiblingJoinsModel: the looks at all -/
def okX (S : gSt) : Prop := ∀ k : Int, 0 ≤ k → k < 3 → okO (S.1 k)
set_option maxRecDepth 100000 in
set_option maxHeartbeats 4000000 in
theorem c_X5_unlike {E : gEnv} {n : Nat} {σ : Option Nat} {h : gH} (m : Nat) (g : Int → Int) (hs : Int64) (f : Int → Int) (k : Int) (K : gKy) (hmb : gB E ≤ m ∧ m + 7 ≤ gB E + n) (hm : isMo h m g hs) (hz : h (m + 1) = gI E 311 f) (hk : 0 ≤ k ∧ k < 3) (hR : Rk f k K) (hok : okK K)  : gM E mX5_unlike [.ref m, .int (gi k)] n σ h (gD (some (.int (gi (unlN K)))) n σ (fun h9 => h9 = h)) (gNo) := by
  have hm9 := hm
  unfold isMo at hm
  have hR9 := hR
  have hok9 := hok
  obtain ⟨rW, rN, rV, rL⟩ := hR
  obtain ⟨oW, oN, oV, oL⟩ := hok
  refine gM_of (by decide) (Nat.le_of_ble_eq_true rfl) (fun F C => ?_)
  refine g_iconst 1 C dX5_unlike_0 rfl ?_
  refine g_istore_n 2 [(2, _), (0, _), (1, _)] C dX5_unlike_1 (by decide) rfl rfl ?_
  refine g_iconst 3 C dX5_unlike_2 rfl ?_
  refine g_istore_n 4 [(3, _), (2, _), (0, _), (1, _)] C dX5_unlike_3 (by decide) rfl rfl ?_
  have lp4 : ∀ (k9 : Nat) (i : Nat), (i ≤ 3) → 3 - i < k9 → G E F mX5_unlike (gQ E F mX5_unlike n (gD (some (.int (gi (unlN K)))) n σ (fun h9 => h9 = h)) (gNo)) n σ h 0 0 4 [(3, .int (gi (i : Int))), (2, .int (gi (sumN (fun s => (((K.2.2.2 s).countP (fun p => decide (gmsk (fun j => hasM (K.2.2.2 j) p.1) s.toNat = 0)) : Nat) : Int)) i))), (0, .ref m), (1, .int (gi k))] [] := by
    intro k9
    induction k9 with
    | zero => intro i hi h0; exact absurd h0 (Nat.not_lt_zero _)
    | succ k9 ih4 =>
      intro i hi hk4
      refine g_iload_n 5 C dX5_unlike_4 rfl rfl ?_
      refine g_iconst 6 C dX5_unlike_5 rfl ?_
      refine g_icmp_ge 68 9 C dX5_unlike_6 rfl rfl (by omega) (by omega) (fun c6 => ?_) (fun c6 => ?_)
      · skip
        refine g_iload_n 69 C dX5_unlike_68 rfl rfl ?_
        exact g_iret C dX5_unlike_69 rfl ⟨by decide, by decide⟩ (by rw [show i = 3 by omega]; exact ⟨rfl, rfl, rfl, rfl⟩)
      · skip
        refine g_iconst 10 C dX5_unlike_9 rfl ?_
        refine g_istore 12 [(4, _), (3, _), (2, _), (0, _), (1, _)] C dX5_unlike_10 (by decide) rfl rfl ?_
        have lp12 : ∀ (k9 : Nat) (j : Nat), (j ≤ (K.2.2.2 (i : Int)).length) → (K.2.2.2 (i : Int)).length - j < k9 → G E F mX5_unlike (gQ E F mX5_unlike n (gD (some (.int (gi (unlN K)))) n σ (fun h9 => h9 = h)) (gNo)) n σ h 0 0 12 [(4, .int (gi (j : Int))), (3, .int (gi (i : Int))), (2, .int (gi (sumN (fun s => (((K.2.2.2 s).countP (fun p => decide (gmsk (fun j => hasM (K.2.2.2 j) p.1) s.toNat = 0)) : Nat) : Int)) i + (((K.2.2.2 (i : Int)).take j).countP (fun p : Int × Int => decide (gmsk (fun j => hasM (K.2.2.2 j) p.1) i = 0)) : Int)))), (0, .ref m), (1, .int (gi k))] [] := by
          intro k9
          induction k9 with
          | zero => intro j hj h0; exact absurd h0 (Nat.not_lt_zero _)
          | succ k9 ih12 =>
            intro j hj hk12
            have h4 := (oL (i : Int) (by omega) (by omega)).1
            refine g_iload 14 C dX5_unlike_12 rfl rfl ?_
            refine g_aload_n 15 C dX5_unlike_14 rfl rfl ?_
            refine g_iload_n 16 C dX5_unlike_15 rfl rfl ?_
            refine g_iload_n 17 C dX5_unlike_16 rfl rfl ?_
            refine g_V2r 20 0 0 C dX5_unlike_17 rfl lk_RX5_47 gi_X5_siblings gv_X5_siblings ⟨_, _, rfl⟩ (by omega) hm ⟨⟨by decide, by decide⟩, by decide, by decide⟩ (Nat.le_of_ble_eq_true rfl) rfl rfl rfl (c_X5_siblings m g hs f k (i : Int) (K.2.2.2 (i : Int)) hmb hm9 hz hk (by omega) (rL (i : Int) (by omega) (by omega))) g_no (fun h9 e17 => ?_)
            replace e17 := e17.symm
            subst e17
            refine g_icmp_ge 62 23 C dX5_unlike_20 rfl rfl (by omega) (by omega) (fun c20 => ?_) (fun c20 => ?_)
            · skip
              have he : sumN (fun s => (((K.2.2.2 s).countP (fun p => decide (gmsk (fun j => hasM (K.2.2.2 j) p.1) s.toNat = 0)) : Nat) : Int)) (i + 1) = sumN (fun s => (((K.2.2.2 s).countP (fun p => decide (gmsk (fun j => hasM (K.2.2.2 j) p.1) s.toNat = 0)) : Nat) : Int)) i + (((K.2.2.2 (i : Int)).take j).countP (fun p : Int × Int => decide (gmsk (fun j => hasM (K.2.2.2 j) p.1) i = 0)) : Int) := by rw [show j = (K.2.2.2 (i : Int)).length by omega, List.take_length]; rfl
              refine g_iinc 65 [(3, _), (4, _), (2, _), (0, _), (1, _)] C dX5_unlike_62 rfl (by decide) rfl rfl ?_
              refine g_goto 4 C dX5_unlike_65 rfl ?_
              refine g_loc [(3, _), (2, .int (gi (sumN (fun s => (((K.2.2.2 s).countP (fun p => decide (gmsk (fun j => hasM (K.2.2.2 j) p.1) s.toNat = 0)) : Nat) : Int)) (i + 1)))), (0, _), (1, _)] ⟨rfl, (by rw [he]; rfl), rfl, rfl, trivial⟩ ?_
              exact ih4 (i + 1) (by omega) (by omega)
            · skip
              have hl := rL (i : Int) (by omega) (by omega)
              have hol := oL (i : Int) (by omega) (by omega)
              have h4 := hol.1
              obtain ⟨y, hy, hyl⟩ := get_of (l := K.2.2.2 (i : Int)) (i := j) (by omega)
              obtain ⟨y1, y2, y3⟩ := hl.2 j y hy
              have hyo := hol.2 y hyl
              refine g_aload_n 24 C dX5_unlike_23 rfl rfl ?_
              refine g_iload_n 25 C dX5_unlike_24 rfl rfl ?_
              refine g_iload_n 26 C dX5_unlike_25 rfl rfl ?_
              refine g_iload_n 27 C dX5_unlike_26 rfl rfl ?_
              refine g_iload 29 C dX5_unlike_27 rfl rfl ?_
              refine g_S3r 32 0 0 C dX5_unlike_29 rfl lk_RX5_50 gs_X5_placeAt ⟨⟨by decide, by decide⟩, by decide, by decide⟩ (Nat.le_of_ble_eq_true rfl) rfl rfl rfl (c_X5_placeAt k (i : Int) (j : Int)) g_no (fun h9 e29 => ?_)
              replace e29 := e29.symm
              subst e29
              refine g_V2r 35 0 0 C dX5_unlike_32 rfl lk_RX5_176 gi_X5_holders gv_X5_holders ⟨_, _, rfl⟩ (by omega) hm ⟨⟨by decide, by decide⟩, by decide, by decide⟩ (Nat.le_of_ble_eq_true rfl) rfl rfl rfl (c_X5_holders m g hs f k K ((135 + 19 * (3 * k + (i : Int))) + 1 + 3 * (j : Int)) y.1 hmb hm9 hz hk hR9 hok9 (by omega) (by omega) y1 y2) g_no (fun h9 e32 => ?_)
              replace e32 := e32.symm
              subst e32
              refine g_istore 37 [(5, _), (4, _), (3, _), (2, _), (0, _), (1, _)] C dX5_unlike_35 (by decide) rfl rfl ?_
              refine g_iload_n 38 C dX5_unlike_37 rfl rfl ?_
              refine g_iload 40 C dX5_unlike_38 rfl rfl ?_
              refine g_iconst 41 C dX5_unlike_40 rfl ?_
              refine g_iload_n 42 C dX5_unlike_41 rfl rfl ?_
              refine g_ishl 43 C dX5_unlike_42 (g_shl (by omega)) rfl ?_
              refine g_iconst 44 C dX5_unlike_43 rfl ?_
              refine g_isub 45 C dX5_unlike_44 rfl ?_
              refine g_iand 46 C dX5_unlike_45 (gmsk_low _ (i := i) (by omega)) rfl ?_
              have hgr := gmsk_r (fun j9 => hasM (K.2.2.2 j9) y.1) (i := i) (by omega)
              refine g_if_ne 53 49 C dX5_unlike_46 rfl rfl (by omega) (fun c46 => ?_) (fun c46 => ?_)
              · skip
                have hb9 : gbi ((fun p : Int × Int => decide (gmsk (fun j => hasM (K.2.2.2 j) p.1) i = 0)) y) = 0 := gbi_f (decide_eq_false c46)
                refine g_iconst 54 C dX5_unlike_53 rfl ?_
                refine g_iadd 55 C dX5_unlike_54 rfl ?_
                refine g_istore_n 56 [(2, _), (5, _), (4, _), (3, _), (0, _), (1, _)] C dX5_unlike_55 (by decide) rfl rfl ?_
                refine g_iinc 59 [(4, _), (2, _), (5, _), (3, _), (0, _), (1, _)] C dX5_unlike_56 rfl (by decide) rfl rfl ?_
                refine g_goto 12 C dX5_unlike_59 rfl ?_
                refine g_loc [(4, _), (3, _), (2, .int (gi (sumN (fun s => (((K.2.2.2 s).countP (fun p => decide (gmsk (fun j => hasM (K.2.2.2 j) p.1) s.toNat = 0)) : Nat) : Int)) i + (((K.2.2.2 (i : Int)).take (j + 1)).countP (fun p : Int × Int => decide (gmsk (fun j => hasM (K.2.2.2 j) p.1) i = 0)) : Int)))), (0, _), (1, _)] ⟨rfl, rfl, (by rw [ct_s hy, hb9, ← Int.add_assoc]; first | rfl | (rw [Int.add_zero]; rfl)), rfl, rfl, trivial⟩ ?_
                exact ih12 (j + 1) (by omega) (by omega)
              · skip
                have hb9 : gbi ((fun p : Int × Int => decide (gmsk (fun j => hasM (K.2.2.2 j) p.1) i = 0)) y) = 1 := gbi_t (decide_eq_true (by omega))
                refine g_iconst 50 C dX5_unlike_49 rfl ?_
                refine g_goto 54 C dX5_unlike_50 rfl ?_
                refine g_iadd 55 C dX5_unlike_54 rfl ?_
                refine g_istore_n 56 [(2, _), (5, _), (4, _), (3, _), (0, _), (1, _)] C dX5_unlike_55 (by decide) rfl rfl ?_
                refine g_iinc 59 [(4, _), (2, _), (5, _), (3, _), (0, _), (1, _)] C dX5_unlike_56 rfl (by decide) rfl rfl ?_
                refine g_goto 12 C dX5_unlike_59 rfl ?_
                refine g_loc [(4, _), (3, _), (2, .int (gi (sumN (fun s => (((K.2.2.2 s).countP (fun p => decide (gmsk (fun j => hasM (K.2.2.2 j) p.1) s.toNat = 0)) : Nat) : Int)) i + (((K.2.2.2 (i : Int)).take (j + 1)).countP (fun p : Int × Int => decide (gmsk (fun j => hasM (K.2.2.2 j) p.1) i = 0)) : Int)))), (0, _), (1, _)] ⟨rfl, rfl, (by rw [ct_s hy, hb9, ← Int.add_assoc]; first | rfl | (rw [Int.add_zero]; rfl)), rfl, rfl, trivial⟩ ?_
                exact ih12 (j + 1) (by omega) (by omega)
        refine g_loc [(4, _), (3, _), (2, _), (0, _), (1, _)] ⟨rfl, rfl, rfl, rfl, rfl, trivial⟩ ?_
        refine g_loc [(4, .int (gi ((0 : Nat) : Int))), (3, _), (2, .int (gi (sumN (fun s => (((K.2.2.2 s).countP (fun p => decide (gmsk (fun j => hasM (K.2.2.2 j) p.1) s.toNat = 0)) : Nat) : Int)) i + (((K.2.2.2 (i : Int)).take 0).countP (fun p : Int × Int => decide (gmsk (fun j => hasM (K.2.2.2 j) p.1) i = 0)) : Int)))), (0, _), (1, _)] ⟨rfl, rfl, by show _ = some (Value.int (gi (_ + 0))); rw [Int.add_zero]; rfl, rfl, rfl, trivial⟩ ?_
        exact lp12 _ 0 (by omega) (Nat.lt_succ_self _)
  refine g_loc [(3, _), (2, _), (0, _), (1, _)] ⟨rfl, rfl, rfl, rfl, trivial⟩ ?_
  exact lp4 _ 0 (by omega) (Nat.lt_succ_self _)
set_option maxRecDepth 100000 in
set_option maxHeartbeats 4000000 in
theorem c_X5_ofSibling {E : gEnv} {n : Nat} {σ : Option Nat} {h : gH} (m : Nat) (g : Int → Int) (hs : Int64) (f : Int → Int) (k : Int) (K : gKy) (s : Int) (p : Nat) (what : Int) (y : Int × Int) (hmb : gB E ≤ m ∧ m + 7 ≤ gB E + n) (hm : isMo h m g hs) (hz : h (m + 1) = gI E 311 f) (hk : 0 ≤ k ∧ k < 3) (hR : Rk f k K) (hok : okK K) (hss : 0 ≤ s ∧ s < 3) (hy : (K.2.2.2 s)[p]? = some y) (hwh : 0 ≤ what ∧ what ≤ 4)  : gM E mX5_ofSibling [.ref m, .int (gi s), .int (gi k), .int (gi (p : Int)), .int (gi what)] n σ h (gD (some (.int (gi (sibF K s (p : Int) what)))) n σ (fun h9 => h9 = h)) (gNo) := by
  have hm9 := hm
  unfold isMo at hm
  have hR9 := hR
  have hok9 := hok
  obtain ⟨rW, rN, rV, rL⟩ := hR
  obtain ⟨oW, oN, oV, oL⟩ := hok
  have hl := rL s (by omega) (by omega)
  have hol := oL s (by omega) (by omega)
  have h4 := hol.1
  have hp4 := (List.getElem?_eq_some_iff.mp hy).1
  obtain ⟨y1, y2, y3⟩ := hl.2 p y hy
  have hyo := hol.2 y (List.mem_of_getElem? hy)
  have hx : (K.2.2.2 s)[((p : Nat) : Int).toNat]? = some y := hy
  refine gM_of (by decide) (Nat.le_of_ble_eq_true rfl) (fun F C => ?_)
  refine g_iload_n 1 C dX5_ofSibling_0 rfl rfl ?_
  refine g_iload_n 2 C dX5_ofSibling_1 rfl rfl ?_
  refine g_iload_n 3 C dX5_ofSibling_2 rfl rfl ?_
  refine g_S3r 6 0 0 C dX5_ofSibling_3 rfl lk_RX5_50 gs_X5_placeAt ⟨⟨by decide, by decide⟩, by decide, by decide⟩ (Nat.le_of_ble_eq_true rfl) rfl rfl rfl (c_X5_placeAt k s (p : Int)) g_no (fun h9 e3 => ?_)
  replace e3 := e3.symm
  subst e3
  refine g_istore 8 [(5, _), (0, _), (1, _), (2, _), (3, _), (4, _)] C dX5_ofSibling_6 (by decide) rfl rfl ?_
  refine g_iload 10 C dX5_ofSibling_8 rfl rfl ?_
  refine g_iconst 11 C dX5_ofSibling_10 rfl ?_
  refine g_icmp_ge 27 14 C dX5_ofSibling_11 rfl rfl (by omega) (by omega) (fun c11 => ?_) (fun c11 => ?_)
  · skip
    refine g_iload 29 C dX5_ofSibling_27 rfl rfl ?_
    refine g_iconst 30 C dX5_ofSibling_29 rfl ?_
    refine g_icmp_ne 43 33 C dX5_ofSibling_30 rfl rfl (by omega) (by omega) (fun c30 => ?_) (fun c30 => ?_)
    · skip
      refine g_aload_n 44 C dX5_ofSibling_43 rfl rfl ?_
      refine g_iload_n 45 C dX5_ofSibling_44 rfl rfl ?_
      refine g_iload 47 C dX5_ofSibling_45 rfl rfl ?_
      refine g_V2r 50 0 0 C dX5_ofSibling_47 rfl lk_RX5_176 gi_X5_holders gv_X5_holders ⟨_, _, rfl⟩ (by omega) hm ⟨⟨by decide, by decide⟩, by decide, by decide⟩ (Nat.le_of_ble_eq_true rfl) rfl rfl rfl (c_X5_holders m g hs f k K ((135 + 19 * (3 * k + s)) + 1 + 3 * (p : Int)) y.1 hmb hm9 hz hk hR9 hok9 (by omega) (by omega) y1 y2) g_no (fun h9 e47 => ?_)
      replace e47 := e47.symm
      subst e47
      rw [show hld K y.1 = sibF K s (p : Int) what by unfold sibF; rw [hx]; dsimp only; rw [if_neg (show ¬ what = 0 by omega), if_neg (show ¬ what = 1 by omega), if_neg (show ¬ what = 2 by omega), if_neg (show ¬ what = 3 by omega)]]
      exact g_iret C dX5_ofSibling_50 rfl ⟨by decide, by decide⟩ (⟨rfl, rfl, rfl, rfl⟩)
    · skip
      refine g_aload_n 34 C dX5_ofSibling_33 rfl rfl ?_
      refine g_iload_n 35 C dX5_ofSibling_34 rfl rfl ?_
      refine g_iload 37 C dX5_ofSibling_35 rfl rfl ?_
      refine g_V2r 40 0 0 C dX5_ofSibling_37 rfl lk_RX5_173 gi_X5_coverers gv_X5_coverers ⟨_, _, rfl⟩ (by omega) hm ⟨⟨by decide, by decide⟩, by decide, by decide⟩ (Nat.le_of_ble_eq_true rfl) rfl rfl rfl (c_X5_coverers m g hs f k K ((135 + 19 * (3 * k + s)) + 1 + 3 * (p : Int)) y.1 hmb hm9 hz hk hR9 hok9 (by omega) (by omega) y1 y2) g_no (fun h9 e37 => ?_)
      replace e37 := e37.symm
      subst e37
      rw [show knw K y.1 = sibF K s (p : Int) what by unfold sibF; rw [hx]; dsimp only; rw [if_neg (show ¬ what = 0 by omega), if_neg (show ¬ what = 1 by omega), if_neg (show ¬ what = 2 by omega), if_pos (show what = 3 by omega)]]
      refine g_goto 50 C dX5_ofSibling_40 rfl ?_
      exact g_iret C dX5_ofSibling_50 rfl ⟨by decide, by decide⟩ (⟨rfl, rfl, rfl, rfl⟩)
  · skip
    refine g_aload_n 15 C dX5_ofSibling_14 rfl rfl ?_
    refine g_getf 18 C dX5_ofSibling_15 fl_RX5_7 rfl (by omega) hm rfl rfl ?_
    refine g_iload 20 C dX5_ofSibling_18 rfl rfl ?_
    refine g_iload 22 C dX5_ofSibling_20 rfl rfl ?_
    refine g_iadd 23 C dX5_ofSibling_22 rfl ?_
    refine g_iald 24 C dX5_ofSibling_23 (by omega) hz (by omega) (by decide) rfl ?_
    rw [show f (135 + 19 * (3 * k + s) + 1 + 3 * (p : Int) + what) = sibF K s (p : Int) what by
      unfold sibF
      rw [hx]
      dsimp only
      by_cases e0 : what = 0
      · rw [if_pos e0, e0, Int.add_zero, y1]
      · rw [if_neg e0]
        by_cases e1 : what = 1
        · rw [if_pos e1, e1, y2]
        · rw [if_neg e1, if_pos (show what = 2 by omega), show what = 2 by omega, y3]]
    refine g_goto 50 C dX5_ofSibling_24 rfl ?_
    exact g_iret C dX5_ofSibling_50 rfl ⟨by decide, by decide⟩ (⟨rfl, rfl, rfl, rfl⟩)
set_option maxRecDepth 100000 in
set_option maxHeartbeats 4000000 in
theorem c_X5_ofKey {E : gEnv} {n : Nat} {σ : Option Nat} {h : gH} (m : Nat) (g : Int → Int) (hs : Int64) (f : Int → Int) (k : Int) (K : gKy) (what : Int) (hmb : gB E ≤ m ∧ m + 7 ≤ gB E + n) (hm : isMo h m g hs) (hz : h (m + 1) = gI E 311 f) (hk : 0 ≤ k ∧ k < 3) (hR : Rk f k K) (hok : okK K) (hO : okO K) (hwh : 0 ≤ what ∧ what ≤ 7)  : gM E mX5_ofKey [.ref m, .int (gi k), .int (gi what)] n σ h (gD (some (.int (gi (keyF K what)))) n σ (fun h9 => h9 = h)) (gNo) := by
  have hm9 := hm
  unfold isMo at hm
  have hR9 := hR
  have hok9 := hok
  obtain ⟨rW, rN, rV, rL⟩ := hR
  obtain ⟨oW, oN, oV, oL⟩ := hok
  refine gM_of (by decide) (Nat.le_of_ble_eq_true rfl) (fun F C => ?_)
  refine g_iload_n 1 C dX5_ofKey_0 rfl rfl ?_
  skip
  by_cases z1_0 : what = 0
  · skip
    refine g_table 44 C dX5_ofKey_1 (by omega) (by omega) (by omega) (off := 43) (by rw [z1_0]; rfl) rfl ?_
    refine g_aload_n 45 C dX5_ofKey_44 rfl rfl ?_
    refine g_iload_n 46 C dX5_ofKey_45 rfl rfl ?_
    refine g_iload_n 47 C dX5_ofKey_46 rfl rfl ?_
    refine g_V2r 50 0 0 C dX5_ofKey_47 rfl lk_RX5_47 gi_X5_siblings gv_X5_siblings ⟨_, _, rfl⟩ (by omega) hm ⟨⟨by decide, by decide⟩, by decide, by decide⟩ (Nat.le_of_ble_eq_true rfl) rfl rfl rfl (c_X5_siblings m g hs f k what (K.2.2.2 what) hmb hm9 hz hk (by omega) (rL what (by omega) (by omega))) g_no (fun h9 e47 => ?_)
    replace e47 := e47.symm
    subst e47
    rw [show ((K.2.2.2 what).length : Int) = keyF K what by unfold keyF; rw [if_neg (show ¬ what = 3 by omega), if_neg (show ¬ what = 4 by omega), if_neg (show ¬ what = 5 by omega), if_neg (show ¬ what = 6 by omega), if_neg (show ¬ what = 7 by omega)]]
    exact g_iret C dX5_ofKey_50 rfl ⟨by decide, by decide⟩ (⟨rfl, rfl, rfl, rfl⟩)
  by_cases z1_1 : what = 1
  · skip
    refine g_table 44 C dX5_ofKey_1 (by omega) (by omega) (by omega) (off := 43) (by rw [z1_1]; rfl) rfl ?_
    refine g_aload_n 45 C dX5_ofKey_44 rfl rfl ?_
    refine g_iload_n 46 C dX5_ofKey_45 rfl rfl ?_
    refine g_iload_n 47 C dX5_ofKey_46 rfl rfl ?_
    refine g_V2r 50 0 0 C dX5_ofKey_47 rfl lk_RX5_47 gi_X5_siblings gv_X5_siblings ⟨_, _, rfl⟩ (by omega) hm ⟨⟨by decide, by decide⟩, by decide, by decide⟩ (Nat.le_of_ble_eq_true rfl) rfl rfl rfl (c_X5_siblings m g hs f k what (K.2.2.2 what) hmb hm9 hz hk (by omega) (rL what (by omega) (by omega))) g_no (fun h9 e47 => ?_)
    replace e47 := e47.symm
    subst e47
    rw [show ((K.2.2.2 what).length : Int) = keyF K what by unfold keyF; rw [if_neg (show ¬ what = 3 by omega), if_neg (show ¬ what = 4 by omega), if_neg (show ¬ what = 5 by omega), if_neg (show ¬ what = 6 by omega), if_neg (show ¬ what = 7 by omega)]]
    exact g_iret C dX5_ofKey_50 rfl ⟨by decide, by decide⟩ (⟨rfl, rfl, rfl, rfl⟩)
  by_cases z1_2 : what = 2
  · skip
    refine g_table 44 C dX5_ofKey_1 (by omega) (by omega) (by omega) (off := 43) (by rw [z1_2]; rfl) rfl ?_
    refine g_aload_n 45 C dX5_ofKey_44 rfl rfl ?_
    refine g_iload_n 46 C dX5_ofKey_45 rfl rfl ?_
    refine g_iload_n 47 C dX5_ofKey_46 rfl rfl ?_
    refine g_V2r 50 0 0 C dX5_ofKey_47 rfl lk_RX5_47 gi_X5_siblings gv_X5_siblings ⟨_, _, rfl⟩ (by omega) hm ⟨⟨by decide, by decide⟩, by decide, by decide⟩ (Nat.le_of_ble_eq_true rfl) rfl rfl rfl (c_X5_siblings m g hs f k what (K.2.2.2 what) hmb hm9 hz hk (by omega) (rL what (by omega) (by omega))) g_no (fun h9 e47 => ?_)
    replace e47 := e47.symm
    subst e47
    rw [show ((K.2.2.2 what).length : Int) = keyF K what by unfold keyF; rw [if_neg (show ¬ what = 3 by omega), if_neg (show ¬ what = 4 by omega), if_neg (show ¬ what = 5 by omega), if_neg (show ¬ what = 6 by omega), if_neg (show ¬ what = 7 by omega)]]
    exact g_iret C dX5_ofKey_50 rfl ⟨by decide, by decide⟩ (⟨rfl, rfl, rfl, rfl⟩)
  by_cases z1_3 : what = 3
  · skip
    refine g_table 51 C dX5_ofKey_1 (by omega) (by omega) (by omega) (off := 50) (by rw [z1_3]; rfl) rfl ?_
    refine g_aload_n 52 C dX5_ofKey_51 rfl rfl ?_
    refine g_iload_n 53 C dX5_ofKey_52 rfl rfl ?_
    refine g_V1r 56 0 0 C dX5_ofKey_53 rfl lk_RX5_182 gi_X5_unlike gv_X5_unlike ⟨_, _, rfl⟩ (by omega) hm ⟨⟨by decide, by decide⟩, by decide, by decide⟩ (Nat.le_of_ble_eq_true rfl) rfl rfl rfl (c_X5_unlike m g hs f k K hmb hm9 hz hk hR9 hok9) g_no (fun h9 e53 => ?_)
    replace e53 := e53.symm
    subst e53
    rw [show unlN K = keyF K what by unfold keyF; rw [if_pos (show what = 3 by omega)]]
    exact g_iret C dX5_ofKey_56 rfl ⟨by decide, by decide⟩ (⟨rfl, rfl, rfl, rfl⟩)
  by_cases z1_4 : what = 4
  · skip
    refine g_table 57 C dX5_ofKey_1 (by omega) (by omega) (by omega) (off := 56) (by rw [z1_4]; rfl) rfl ?_
    refine g_aload_n 58 C dX5_ofKey_57 rfl rfl ?_
    refine g_iload_n 59 C dX5_ofKey_58 rfl rfl ?_
    refine g_V1r 62 0 0 C dX5_ofKey_59 rfl lk_RX5_185 gi_X5_counts gv_X5_counts ⟨_, _, rfl⟩ (by omega) hm ⟨⟨by decide, by decide⟩, by decide, by decide⟩ (Nat.le_of_ble_eq_true rfl) rfl rfl rfl (c_X5_counts m g hs f k K hmb hm9 hz hk hR9 hok9) g_no (fun h9 e59 => ?_)
    replace e59 := e59.symm
    subst e59
    rw [show sumN K.1 5 = keyF K what by unfold keyF; rw [if_neg (show ¬ what = 3 by omega), if_pos (show what = 4 by omega)]]
    exact g_iret C dX5_ofKey_62 rfl ⟨by decide, by decide⟩ (⟨rfl, rfl, rfl, rfl⟩)
  by_cases z1_5 : what = 5
  · skip
    refine g_table 63 C dX5_ofKey_1 (by omega) (by omega) (by omega) (off := 62) (by rw [z1_5]; rfl) rfl ?_
    refine g_aload_n 64 C dX5_ofKey_63 rfl rfl ?_
    refine g_iload_n 65 C dX5_ofKey_64 rfl rfl ?_
    refine g_iconst 66 C dX5_ofKey_65 rfl ?_
    refine g_iconst 67 C dX5_ofKey_66 rfl ?_
    refine g_V3r 70 0 0 C dX5_ofKey_67 rfl lk_RX5_188 gi_X5_areAlike gv_X5_areAlike ⟨_, _, rfl⟩ (by omega) hm ⟨⟨by decide, by decide⟩, by decide, by decide⟩ (Nat.le_of_ble_eq_true rfl) rfl rfl rfl (c_X5_areAlike m g hs f k K 0 1 hmb hm9 hz hk hR9 hok9 hO (by decide) (by decide)) g_no (fun h9 e67 => ?_)
    replace e67 := e67.symm
    subst e67
    refine g_if_eq 87 73 C dX5_ofKey_70 rfl rfl (gbi_r _) (fun c70 => ?_) (fun c70 => ?_)
    · skip
      have ec : keyF K what = 0 := by unfold keyF; rw [if_neg (show ¬ what = 3 by omega), if_neg (show ¬ what = 4 by omega), if_pos (show what = 5 by omega)]; unfold agrP; rw [gbi_f (gbi_0 c70)]; have r1 := gbi_r (agr K 0 2); cases agr K 0 2 <;> cases agr K 1 2 <;> rfl
      refine g_iconst 88 C dX5_ofKey_87 rfl ?_
      exact g_iret C dX5_ofKey_88 rfl ⟨by decide, by decide⟩ (by rw [ec]; exact ⟨rfl, rfl, rfl, rfl⟩)
    · skip
      have z1 := gbi_1 c70
      refine g_aload_n 74 C dX5_ofKey_73 rfl rfl ?_
      refine g_iload_n 75 C dX5_ofKey_74 rfl rfl ?_
      refine g_iconst 76 C dX5_ofKey_75 rfl ?_
      refine g_iconst 77 C dX5_ofKey_76 rfl ?_
      refine g_V3r 80 0 0 C dX5_ofKey_77 rfl lk_RX5_188 gi_X5_areAlike gv_X5_areAlike ⟨_, _, rfl⟩ (by omega) hm ⟨⟨by decide, by decide⟩, by decide, by decide⟩ (Nat.le_of_ble_eq_true rfl) rfl rfl rfl (c_X5_areAlike m g hs f k K 0 2 hmb hm9 hz hk hR9 hok9 hO (by decide) (by decide)) g_no (fun h9 e77 => ?_)
      replace e77 := e77.symm
      subst e77
      refine g_if_eq 87 83 C dX5_ofKey_80 rfl rfl (gbi_r _) (fun c80 => ?_) (fun c80 => ?_)
      · skip
        have ec : keyF K what = 0 := by unfold keyF; rw [if_neg (show ¬ what = 3 by omega), if_neg (show ¬ what = 4 by omega), if_pos (show what = 5 by omega)]; unfold agrP; rw [gbi_f (gbi_0 c80)]; cases agr K 0 1 <;> cases agr K 1 2 <;> rfl
        refine g_iconst 88 C dX5_ofKey_87 rfl ?_
        exact g_iret C dX5_ofKey_88 rfl ⟨by decide, by decide⟩ (by rw [ec]; exact ⟨rfl, rfl, rfl, rfl⟩)
      · skip
        have z2 := gbi_1 c80
        have z3 : agr K 1 2 = true := decide_eq_true ((of_decide_eq_true z1).symm.trans (of_decide_eq_true z2))
        have ec : keyF K what = 1 := by unfold keyF; rw [if_neg (show ¬ what = 3 by omega), if_neg (show ¬ what = 4 by omega), if_pos (show what = 5 by omega)]; unfold agrP; rw [z1, z2, z3]; rfl
        refine g_iconst 84 C dX5_ofKey_83 rfl ?_
        refine g_goto 88 C dX5_ofKey_84 rfl ?_
        exact g_iret C dX5_ofKey_88 rfl ⟨by decide, by decide⟩ (by rw [ec]; exact ⟨rfl, rfl, rfl, rfl⟩)
  by_cases z1_6 : what = 6
  · skip
    refine g_table 89 C dX5_ofKey_1 (by omega) (by omega) (by omega) (off := 88) (by rw [z1_6]; rfl) rfl ?_
    refine g_aload_n 90 C dX5_ofKey_89 rfl rfl ?_
    refine g_iload_n 91 C dX5_ofKey_90 rfl rfl ?_
    refine g_V1r 94 0 0 C dX5_ofKey_91 rfl lk_RX5_191 gi_X5_areVectorsAlike gv_X5_areVectorsAlike ⟨_, _, rfl⟩ (by omega) hm ⟨⟨by decide, by decide⟩, by decide, by decide⟩ (Nat.le_of_ble_eq_true rfl) rfl rfl rfl (c_X5_areVectorsAlike m g hs f k K hmb hm9 hz hk hR9 hok9) g_no (fun h9 e91 => ?_)
    replace e91 := e91.symm
    subst e91
    refine g_if_eq 101 97 C dX5_ofKey_94 rfl rfl (gbi_r _) (fun c94 => ?_) (fun c94 => ?_)
    · skip
      have ec : keyF K what = 0 := by unfold keyF; rw [if_neg (show ¬ what = 3 by omega), if_neg (show ¬ what = 4 by omega), if_neg (show ¬ what = 5 by omega), if_pos (show what = 6 by omega)]; exact c94
      refine g_iconst 102 C dX5_ofKey_101 rfl ?_
      exact g_iret C dX5_ofKey_102 rfl ⟨by decide, by decide⟩ (by rw [ec]; exact ⟨rfl, rfl, rfl, rfl⟩)
    · skip
      have ec : keyF K what = 1 := by unfold keyF; rw [if_neg (show ¬ what = 3 by omega), if_neg (show ¬ what = 4 by omega), if_neg (show ¬ what = 5 by omega), if_pos (show what = 6 by omega)]; exact gbi_t (gbi_1 c94)
      refine g_iconst 98 C dX5_ofKey_97 rfl ?_
      refine g_goto 102 C dX5_ofKey_98 rfl ?_
      exact g_iret C dX5_ofKey_102 rfl ⟨by decide, by decide⟩ (by rw [ec]; exact ⟨rfl, rfl, rfl, rfl⟩)
  refine g_tableD 103 C dX5_ofKey_1 (by omega) (by omega) rfl ?_
  refine g_aload_n 104 C dX5_ofKey_103 rfl rfl ?_
  refine g_iload_n 105 C dX5_ofKey_104 rfl rfl ?_
  refine g_V1r 108 0 0 C dX5_ofKey_105 rfl lk_RX5_194 gi_X5_forgettable gv_X5_forgettable ⟨_, _, rfl⟩ (by omega) hm ⟨⟨by decide, by decide⟩, by decide, by decide⟩ (Nat.le_of_ble_eq_true rfl) rfl rfl rfl (c_X5_forgettable m g hs f k K hmb hm9 hz hk hR9 hok9) g_no (fun h9 e105 => ?_)
  replace e105 := e105.symm
  subst e105
  rw [show fgtM K = keyF K what by unfold keyF; rw [if_neg (show ¬ what = 3 by omega), if_neg (show ¬ what = 4 by omega), if_neg (show ¬ what = 5 by omega), if_neg (show ¬ what = 6 by omega), if_pos (show what = 7 by omega)]]
  exact g_iret C dX5_ofKey_108 rfl ⟨by decide, by decide⟩ (⟨rfl, rfl, rfl, rfl⟩)
set_option maxRecDepth 100000 in
set_option maxHeartbeats 4000000 in
theorem c_X5_counted {E : gEnv} {n : Nat} {σ : Option Nat} {h : gH} (m : Nat) (g : Int → Int) (hs : Int64) (f : Int → Int) (T : gTt) (what : Int) (hmb : gB E ≤ m ∧ m + 7 ≤ gB E + n) (hm : isMo h m g hs) (hz : h (m + 1) = gI E 311 f) (hR : Rz f T.1) (hok : okS T.1) (hc : g 3 = (T.2.1.1 : Int)) (hwh : 0 ≤ what ∧ what ≤ 7)  : gM E mX5_counted [.ref m, .int (gi what)] n σ h (gD (some (.int (gi (tTal T what)))) n σ (fun h9 => h9 = h)) (gNo) := by
  have hm9 := hm
  unfold isMo at hm
  obtain ⟨rK, rC⟩ := hR
  have hi3 := cM_e T.1
  have hi4 := cS_e T.1
  refine gM_of (by decide) (Nat.le_of_ble_eq_true rfl) (fun F C => ?_)
  refine g_iconst 1 C dX5_counted_0 rfl ?_
  refine g_istore_n 2 [(2, _), (0, _), (1, _)] C dX5_counted_1 (by decide) rfl rfl ?_
  refine g_iconst 3 C dX5_counted_2 rfl ?_
  refine g_istore_n 4 [(3, _), (2, _), (0, _), (1, _)] C dX5_counted_3 (by decide) rfl rfl ?_
  refine g_iconst 5 C dX5_counted_4 rfl ?_
  refine g_istore 7 [(4, _), (3, _), (2, _), (0, _), (1, _)] C dX5_counted_5 (by decide) rfl rfl ?_
  have lp7 : ∀ (k9 : Nat) (i : Nat), (i ≤ 9) → 9 - i < k9 → G E F mX5_counted (gQ E F mX5_counted n (gD (some (.int (gi (tTal T what)))) n σ (fun h9 => h9 = h)) (gNo)) n σ h 0 0 7 [(4, .int (gi (i : Int))), (3, .int (gi (cM T.1 i))), (2, .int (gi (cS T.1 i))), (0, .ref m), (1, .int (gi what))] [] := by
    intro k9
    induction k9 with
    | zero => intro i hi h0; exact absurd h0 (Nat.not_lt_zero _)
    | succ k9 ih7 =>
      intro i hi hk7
      have hmr := cM_r hok i hi
      refine g_iload 9 C dX5_counted_7 rfl rfl ?_
      refine g_bipush 11 C dX5_counted_9 (by decide) rfl ?_
      refine g_icmp_ge 52 14 C dX5_counted_11 rfl rfl (by omega) (by omega) (fun c11 => ?_) (fun c11 => ?_)
      · skip
        have hi9 : i = 9 := by omega
        subst hi9
        rw [hi3, hi4]
        refine g_iload_n 53 C dX5_counted_52 rfl rfl ?_
        refine g_if_ne 60 56 C dX5_counted_53 rfl rfl (by omega) (fun c53 => ?_) (fun c53 => ?_)
        · skip
          refine g_iload_n 61 C dX5_counted_60 rfl rfl ?_
          refine g_iconst 62 C dX5_counted_61 rfl ?_
          refine g_icmp_ne 69 65 C dX5_counted_62 rfl rfl (by omega) (by omega) (fun c62 => ?_) (fun c62 => ?_)
          · skip
            refine g_iload_n 70 C dX5_counted_69 rfl rfl ?_
            refine g_bipush 72 C dX5_counted_70 (by decide) rfl ?_
            refine g_icmp_ne 82 75 C dX5_counted_72 rfl rfl (by omega) (by omega) (fun c72 => ?_) (fun c72 => ?_)
            · skip
              have ef : tTal T what = T.1.2 (what - 1) := by unfold tTal; rw [if_neg (show ¬ what = 0 by omega), if_neg (show ¬ what = 1 by omega), if_neg (show ¬ what = 7 by omega)]
              refine g_aload_n 83 C dX5_counted_82 rfl rfl ?_
              refine g_getf 86 C dX5_counted_83 fl_RX5_7 rfl (by omega) hm rfl rfl ?_
              refine g_sipush 89 C dX5_counted_86 (by decide) rfl ?_
              refine g_iload_n 90 C dX5_counted_89 rfl rfl ?_
              refine g_iadd 91 C dX5_counted_90 rfl ?_
              refine g_iconst 92 C dX5_counted_91 rfl ?_
              refine g_isub 93 C dX5_counted_92 rfl ?_
              refine g_iald 94 C dX5_counted_93 (by omega) hz (by omega) (by decide) rfl ?_
              rw [show 306 + what - 2 = 305 + (what - 1) by omega, rC (what - 1) (by omega) (by omega)]
              exact g_iret C dX5_counted_94 rfl ⟨by decide, by decide⟩ (by rw [ef]; exact ⟨rfl, rfl, rfl, rfl⟩)
            · skip
              have ef : tTal T what = (T.2.1.1 : Int) := by unfold tTal; rw [if_neg (show ¬ what = 0 by omega), if_neg (show ¬ what = 1 by omega), if_pos (show what = 7 by omega)]
              refine g_aload_n 76 C dX5_counted_75 rfl rfl ?_
              refine g_getf 79 C dX5_counted_76 fl_RX5_28 rfl (by omega) hm rfl rfl ?_
              rw [hc]
              refine g_goto 94 C dX5_counted_79 rfl ?_
              exact g_iret C dX5_counted_94 rfl ⟨by decide, by decide⟩ (by rw [ef]; exact ⟨rfl, rfl, rfl, rfl⟩)
          · skip
            have ef : tTal T what = sMst T.1 3 := by unfold tTal; rw [if_neg (show ¬ what = 0 by omega), if_pos (show what = 1 by omega)]
            refine g_iload_n 66 C dX5_counted_65 rfl rfl ?_
            refine g_goto 94 C dX5_counted_66 rfl ?_
            exact g_iret C dX5_counted_94 rfl ⟨by decide, by decide⟩ (by rw [ef]; exact ⟨rfl, rfl, rfl, rfl⟩)
        · skip
          have ef : tTal T what = sAll T.1 := if_pos (by omega)
          refine g_iload_n 57 C dX5_counted_56 rfl rfl ?_
          refine g_goto 94 C dX5_counted_57 rfl ?_
          exact g_iret C dX5_counted_94 rfl ⟨by decide, by decide⟩ (by rw [ef]; exact ⟨rfl, rfl, rfl, rfl⟩)
      · skip
        have hlr := sLen_r hok (k := (i : Int) / 3) (s := (i : Int) % 3) (by omega) (by omega)
        refine g_aload_n 15 C dX5_counted_14 rfl rfl ?_
        refine g_iload 17 C dX5_counted_15 rfl rfl ?_
        refine g_iconst 18 C dX5_counted_17 rfl ?_
        refine g_idiv 19 C dX5_counted_18 (by omega) (by omega) rfl ?_
        refine g_iload 21 C dX5_counted_19 rfl rfl ?_
        refine g_iconst 22 C dX5_counted_21 rfl ?_
        refine g_irem 23 C dX5_counted_22 (by omega) (by omega) rfl ?_
        refine g_V2r 26 0 0 C dX5_counted_23 rfl lk_RX5_47 gi_X5_siblings gv_X5_siblings ⟨_, _, rfl⟩ (by omega) hm ⟨⟨by decide, by decide⟩, by decide, by decide⟩ (Nat.le_of_ble_eq_true rfl) rfl rfl rfl (c_X5_siblings m g hs f ((i : Int) / 3) ((i : Int) % 3) ((T.1.1 ((i : Int) / 3)).2.2.2 ((i : Int) % 3)) hmb hm9 hz (by omega) (by omega) ((rK ((i : Int) / 3) (by omega) (by omega)).2.2.2 ((i : Int) % 3) (by omega) (by omega))) g_no (fun h9 e23 => ?_)
        replace e23 := e23.symm
        subst e23
        rw [show ((((T.1.1 ((i : Int) / 3)).2.2.2 ((i : Int) % 3)).length : Nat) : Int) = sLen T.1 ((i : Int) / 3) ((i : Int) % 3) from rfl]
        refine g_istore 28 [(5, _), (4, _), (3, _), (2, _), (0, _), (1, _)] C dX5_counted_26 (by decide) rfl rfl ?_
        refine g_iload_n 29 C dX5_counted_28 rfl rfl ?_
        refine g_iload 31 C dX5_counted_29 rfl rfl ?_
        refine g_iadd 32 C dX5_counted_31 rfl ?_
        refine g_istore_n 33 [(2, _), (5, _), (4, _), (3, _), (0, _), (1, _)] C dX5_counted_32 (by decide) rfl rfl ?_
        refine g_iload 35 C dX5_counted_33 rfl rfl ?_
        refine g_iload_n 36 C dX5_counted_35 rfl rfl ?_
        refine g_icmp_le 44 39 C dX5_counted_36 rfl rfl (by omega) (by omega) (fun c36 => ?_) (fun c36 => ?_)
        · skip
          have eb : cM T.1 (i + 1) = cM T.1 i := if_neg (by omega)
          refine g_iload_n 45 C dX5_counted_44 rfl rfl ?_
          refine g_istore_n 46 [(3, _), (2, _), (5, _), (4, _), (0, _), (1, _)] C dX5_counted_45 (by decide) rfl rfl ?_
          refine g_iinc 49 [(4, _), (3, _), (2, _), (5, _), (0, _), (1, _)] C dX5_counted_46 rfl (by decide) rfl rfl ?_
          refine g_goto 7 C dX5_counted_49 rfl ?_
          refine g_loc [(4, _), (3, .int (gi (cM T.1 (i + 1)))), (2, .int (gi (cS T.1 (i + 1)))), (0, _), (1, _)] ⟨rfl, (by rw [eb]; rfl), rfl, rfl, rfl, trivial⟩ ?_
          exact ih7 (i + 1) (by omega) (by omega)
        · skip
          have eb : cM T.1 (i + 1) = sLen T.1 ((i : Int) / 3) ((i : Int) % 3) := if_pos (by omega)
          refine g_iload 41 C dX5_counted_39 rfl rfl ?_
          refine g_goto 45 C dX5_counted_41 rfl ?_
          refine g_istore_n 46 [(3, _), (2, _), (5, _), (4, _), (0, _), (1, _)] C dX5_counted_45 (by decide) rfl rfl ?_
          refine g_iinc 49 [(4, _), (3, _), (2, _), (5, _), (0, _), (1, _)] C dX5_counted_46 rfl (by decide) rfl rfl ?_
          refine g_goto 7 C dX5_counted_49 rfl ?_
          refine g_loc [(4, _), (3, .int (gi (cM T.1 (i + 1)))), (2, .int (gi (cS T.1 (i + 1)))), (0, _), (1, _)] ⟨rfl, (by rw [eb]; rfl), rfl, rfl, rfl, trivial⟩ ?_
          exact ih7 (i + 1) (by omega) (by omega)
  refine g_loc [(4, _), (3, _), (2, _), (0, _), (1, _)] ⟨rfl, rfl, rfl, rfl, rfl, trivial⟩ ?_
  exact lp7 _ 0 (by omega) (Nat.lt_succ_self _)
set_option maxRecDepth 100000 in
set_option maxHeartbeats 4000000 in
theorem c_X5_agrees {E : gEnv} {n : Nat} {σ : Option Nat} {h : gH} (m : Nat) (g : Int → Int) (hs : Int64) (f : Int → Int) (T : gTt) (hmb : gB E ≤ m ∧ m + 7 ≤ gB E + n) (hm : isMo h m g hs) (hz : h (m + 1) = gI E 311 f) (hR : Rz f T.1) (hok : okS T.1) (hO : okX T.1)  : gM E mX5_agrees [.ref m] n σ h (gD (some (.double (gShr (tAgN T)))) n σ (fun h9 => h9 = h)) (gNo) := by
  have hm9 := hm
  unfold isMo at hm
  obtain ⟨rK, rC⟩ := hR
  have ha0 := agrP_r (T.1.1 0)
  have ha1 := agrP_r (T.1.1 1)
  have ha2 := agrP_r (T.1.1 2)
  have hta : tAgN T = 0 + agrP (T.1.1 0) + agrP (T.1.1 1) + agrP (T.1.1 2) := rfl
  have hv := gShr_ok (tAgN T).toNat (by omega)
  rw [Int.toNat_of_nonneg (show 0 ≤ tAgN T by omega)] at hv
  refine gM_of (by decide) (Nat.le_of_ble_eq_true rfl) (fun F C => ?_)
  refine g_iconst 1 C dX5_agrees_0 rfl ?_
  refine g_istore_n 2 [(1, _), (0, _)] C dX5_agrees_1 (by decide) rfl rfl ?_
  refine g_iconst 3 C dX5_agrees_2 rfl ?_
  refine g_istore_n 4 [(2, _), (1, _), (0, _)] C dX5_agrees_3 (by decide) rfl rfl ?_
  have lp4 : ∀ (k9 : Nat) (i : Nat), (i ≤ 3) → 3 - i < k9 → G E F mX5_agrees (gQ E F mX5_agrees n (gD (some (.double (gShr (tAgN T)))) n σ (fun h9 => h9 = h)) (gNo)) n σ h 0 0 4 [(2, .int (gi (i : Int))), (1, .int (gi (sumN (fun k : Int => agrP (T.1.1 k)) i))), (0, .ref m)] [] := by
    intro k9
    induction k9 with
    | zero => intro i hi h0; exact absurd h0 (Nat.not_lt_zero _)
    | succ k9 ih4 =>
      intro i hi hk4
      refine g_iload_n 5 C dX5_agrees_4 rfl rfl ?_
      refine g_iconst 6 C dX5_agrees_5 rfl ?_
      refine g_icmp_ge 69 9 C dX5_agrees_6 rfl rfl (by omega) (by omega) (fun c6 => ?_) (fun c6 => ?_)
      · skip
        have hi9 : i = 3 := by omega
        subst hi9
        rw [show sumN (fun k : Int => agrP (T.1.1 k)) 3 = tAgN T from rfl]
        refine g_iload_n 70 C dX5_agrees_69 rfl rfl ?_
        refine g_i2d 71 C dX5_agrees_70 rfl ?_
        refine g_ldc2d 74 C dX5_agrees_71 ld_RX5_209 rfl ?_
        refine g_ddiv 75 C dX5_agrees_74 hv rfl ?_
        exact g_dret C dX5_agrees_75 rfl ⟨by decide, by decide⟩ (⟨rfl, rfl, rfl, rfl⟩)
      · skip
        refine g_iload_n 10 C dX5_agrees_9 rfl rfl ?_
        refine g_aload_n 11 C dX5_agrees_10 rfl rfl ?_
        refine g_iload_n 12 C dX5_agrees_11 rfl rfl ?_
        refine g_iconst 13 C dX5_agrees_12 rfl ?_
        refine g_iconst 14 C dX5_agrees_13 rfl ?_
        refine g_V3r 17 0 0 C dX5_agrees_14 rfl lk_RX5_188 gi_X5_areAlike gv_X5_areAlike ⟨_, _, rfl⟩ (by omega) hm ⟨⟨by decide, by decide⟩, by decide, by decide⟩ (Nat.le_of_ble_eq_true rfl) rfl rfl rfl (c_X5_areAlike m g hs f (i : Int) (T.1.1 (i : Int)) 0 1 hmb hm9 hz (by omega) (rK (i : Int) (by omega) (by omega)) (hok (i : Int) (by omega) (by omega)) (hO (i : Int) (by omega) (by omega)) (by decide) (by decide)) g_no (fun h9 e14 => ?_)
        replace e14 := e14.symm
        subst e14
        refine g_if_eq 24 20 C dX5_agrees_17 rfl rfl (gbi_r _) (fun c17 => ?_) (fun c17 => ?_)
        · skip
          have e01 : gbi (agr (T.1.1 (i : Int)) 0 1) = 0 := c17
          refine g_iconst 25 C dX5_agrees_24 rfl ?_
          refine g_iadd 26 C dX5_agrees_25 rfl ?_
          refine g_istore_n 27 [(1, _), (2, _), (0, _)] C dX5_agrees_26 (by decide) rfl rfl ?_
          refine g_iload_n 28 C dX5_agrees_27 rfl rfl ?_
          refine g_aload_n 29 C dX5_agrees_28 rfl rfl ?_
          refine g_iload_n 30 C dX5_agrees_29 rfl rfl ?_
          refine g_iconst 31 C dX5_agrees_30 rfl ?_
          refine g_iconst 32 C dX5_agrees_31 rfl ?_
          refine g_V3r 35 0 0 C dX5_agrees_32 rfl lk_RX5_188 gi_X5_areAlike gv_X5_areAlike ⟨_, _, rfl⟩ (by omega) hm ⟨⟨by decide, by decide⟩, by decide, by decide⟩ (Nat.le_of_ble_eq_true rfl) rfl rfl rfl (c_X5_areAlike m g hs f (i : Int) (T.1.1 (i : Int)) 0 2 hmb hm9 hz (by omega) (rK (i : Int) (by omega) (by omega)) (hok (i : Int) (by omega) (by omega)) (hO (i : Int) (by omega) (by omega)) (by decide) (by decide)) g_no (fun h9 e32 => ?_)
          replace e32 := e32.symm
          subst e32
          refine g_if_eq 42 38 C dX5_agrees_35 rfl rfl (gbi_r _) (fun c35 => ?_) (fun c35 => ?_)
          · skip
            have e02 : gbi (agr (T.1.1 (i : Int)) 0 2) = 0 := c35
            refine g_iconst 43 C dX5_agrees_42 rfl ?_
            refine g_iadd 44 C dX5_agrees_43 rfl ?_
            refine g_istore_n 45 [(1, _), (2, _), (0, _)] C dX5_agrees_44 (by decide) rfl rfl ?_
            refine g_iload_n 46 C dX5_agrees_45 rfl rfl ?_
            refine g_aload_n 47 C dX5_agrees_46 rfl rfl ?_
            refine g_iload_n 48 C dX5_agrees_47 rfl rfl ?_
            refine g_iconst 49 C dX5_agrees_48 rfl ?_
            refine g_iconst 50 C dX5_agrees_49 rfl ?_
            refine g_V3r 53 0 0 C dX5_agrees_50 rfl lk_RX5_188 gi_X5_areAlike gv_X5_areAlike ⟨_, _, rfl⟩ (by omega) hm ⟨⟨by decide, by decide⟩, by decide, by decide⟩ (Nat.le_of_ble_eq_true rfl) rfl rfl rfl (c_X5_areAlike m g hs f (i : Int) (T.1.1 (i : Int)) 1 2 hmb hm9 hz (by omega) (rK (i : Int) (by omega) (by omega)) (hok (i : Int) (by omega) (by omega)) (hO (i : Int) (by omega) (by omega)) (by decide) (by decide)) g_no (fun h9 e50 => ?_)
            replace e50 := e50.symm
            subst e50
            refine g_if_eq 60 56 C dX5_agrees_53 rfl rfl (gbi_r _) (fun c53 => ?_) (fun c53 => ?_)
            · skip
              have e12 : gbi (agr (T.1.1 (i : Int)) 1 2) = 0 := c53
              refine g_iconst 61 C dX5_agrees_60 rfl ?_
              refine g_iadd 62 C dX5_agrees_61 rfl ?_
              refine g_istore_n 63 [(1, _), (2, _), (0, _)] C dX5_agrees_62 (by decide) rfl rfl ?_
              refine g_iinc 66 [(2, _), (1, _), (0, _)] C dX5_agrees_63 rfl (by decide) rfl rfl ?_
              refine g_goto 4 C dX5_agrees_66 rfl ?_
              refine g_loc [(2, _), (1, .int (gi (sumN (fun k : Int => agrP (T.1.1 k)) (i + 1)))), (0, _)] ⟨rfl, (by rw [show sumN (fun k : Int => agrP (T.1.1 k)) (i + 1) = sumN (fun k : Int => agrP (T.1.1 k)) i + gbi (agr (T.1.1 (i : Int)) 0 1) + gbi (agr (T.1.1 (i : Int)) 0 2) + gbi (agr (T.1.1 (i : Int)) 1 2) by show sumN (fun k : Int => agrP (T.1.1 k)) i + agrP (T.1.1 (i : Int)) = _; unfold agrP; omega, e01, e02, e12]; rfl), rfl, trivial⟩ ?_
              exact ih4 (i + 1) (by omega) (by omega)
            · skip
              have e12 : gbi (agr (T.1.1 (i : Int)) 1 2) = 1 := gbi_t (gbi_1 c53)
              refine g_iconst 57 C dX5_agrees_56 rfl ?_
              refine g_goto 61 C dX5_agrees_57 rfl ?_
              refine g_iadd 62 C dX5_agrees_61 rfl ?_
              refine g_istore_n 63 [(1, _), (2, _), (0, _)] C dX5_agrees_62 (by decide) rfl rfl ?_
              refine g_iinc 66 [(2, _), (1, _), (0, _)] C dX5_agrees_63 rfl (by decide) rfl rfl ?_
              refine g_goto 4 C dX5_agrees_66 rfl ?_
              refine g_loc [(2, _), (1, .int (gi (sumN (fun k : Int => agrP (T.1.1 k)) (i + 1)))), (0, _)] ⟨rfl, (by rw [show sumN (fun k : Int => agrP (T.1.1 k)) (i + 1) = sumN (fun k : Int => agrP (T.1.1 k)) i + gbi (agr (T.1.1 (i : Int)) 0 1) + gbi (agr (T.1.1 (i : Int)) 0 2) + gbi (agr (T.1.1 (i : Int)) 1 2) by show sumN (fun k : Int => agrP (T.1.1 k)) i + agrP (T.1.1 (i : Int)) = _; unfold agrP; omega, e01, e02, e12]; rfl), rfl, trivial⟩ ?_
              exact ih4 (i + 1) (by omega) (by omega)
          · skip
            have e02 : gbi (agr (T.1.1 (i : Int)) 0 2) = 1 := gbi_t (gbi_1 c35)
            refine g_iconst 39 C dX5_agrees_38 rfl ?_
            refine g_goto 43 C dX5_agrees_39 rfl ?_
            refine g_iadd 44 C dX5_agrees_43 rfl ?_
            refine g_istore_n 45 [(1, _), (2, _), (0, _)] C dX5_agrees_44 (by decide) rfl rfl ?_
            refine g_iload_n 46 C dX5_agrees_45 rfl rfl ?_
            refine g_aload_n 47 C dX5_agrees_46 rfl rfl ?_
            refine g_iload_n 48 C dX5_agrees_47 rfl rfl ?_
            refine g_iconst 49 C dX5_agrees_48 rfl ?_
            refine g_iconst 50 C dX5_agrees_49 rfl ?_
            refine g_V3r 53 0 0 C dX5_agrees_50 rfl lk_RX5_188 gi_X5_areAlike gv_X5_areAlike ⟨_, _, rfl⟩ (by omega) hm ⟨⟨by decide, by decide⟩, by decide, by decide⟩ (Nat.le_of_ble_eq_true rfl) rfl rfl rfl (c_X5_areAlike m g hs f (i : Int) (T.1.1 (i : Int)) 1 2 hmb hm9 hz (by omega) (rK (i : Int) (by omega) (by omega)) (hok (i : Int) (by omega) (by omega)) (hO (i : Int) (by omega) (by omega)) (by decide) (by decide)) g_no (fun h9 e50 => ?_)
            replace e50 := e50.symm
            subst e50
            refine g_if_eq 60 56 C dX5_agrees_53 rfl rfl (gbi_r _) (fun c53 => ?_) (fun c53 => ?_)
            · skip
              have e12 : gbi (agr (T.1.1 (i : Int)) 1 2) = 0 := c53
              refine g_iconst 61 C dX5_agrees_60 rfl ?_
              refine g_iadd 62 C dX5_agrees_61 rfl ?_
              refine g_istore_n 63 [(1, _), (2, _), (0, _)] C dX5_agrees_62 (by decide) rfl rfl ?_
              refine g_iinc 66 [(2, _), (1, _), (0, _)] C dX5_agrees_63 rfl (by decide) rfl rfl ?_
              refine g_goto 4 C dX5_agrees_66 rfl ?_
              refine g_loc [(2, _), (1, .int (gi (sumN (fun k : Int => agrP (T.1.1 k)) (i + 1)))), (0, _)] ⟨rfl, (by rw [show sumN (fun k : Int => agrP (T.1.1 k)) (i + 1) = sumN (fun k : Int => agrP (T.1.1 k)) i + gbi (agr (T.1.1 (i : Int)) 0 1) + gbi (agr (T.1.1 (i : Int)) 0 2) + gbi (agr (T.1.1 (i : Int)) 1 2) by show sumN (fun k : Int => agrP (T.1.1 k)) i + agrP (T.1.1 (i : Int)) = _; unfold agrP; omega, e01, e02, e12]; rfl), rfl, trivial⟩ ?_
              exact ih4 (i + 1) (by omega) (by omega)
            · skip
              have e12 : gbi (agr (T.1.1 (i : Int)) 1 2) = 1 := gbi_t (gbi_1 c53)
              refine g_iconst 57 C dX5_agrees_56 rfl ?_
              refine g_goto 61 C dX5_agrees_57 rfl ?_
              refine g_iadd 62 C dX5_agrees_61 rfl ?_
              refine g_istore_n 63 [(1, _), (2, _), (0, _)] C dX5_agrees_62 (by decide) rfl rfl ?_
              refine g_iinc 66 [(2, _), (1, _), (0, _)] C dX5_agrees_63 rfl (by decide) rfl rfl ?_
              refine g_goto 4 C dX5_agrees_66 rfl ?_
              refine g_loc [(2, _), (1, .int (gi (sumN (fun k : Int => agrP (T.1.1 k)) (i + 1)))), (0, _)] ⟨rfl, (by rw [show sumN (fun k : Int => agrP (T.1.1 k)) (i + 1) = sumN (fun k : Int => agrP (T.1.1 k)) i + gbi (agr (T.1.1 (i : Int)) 0 1) + gbi (agr (T.1.1 (i : Int)) 0 2) + gbi (agr (T.1.1 (i : Int)) 1 2) by show sumN (fun k : Int => agrP (T.1.1 k)) i + agrP (T.1.1 (i : Int)) = _; unfold agrP; omega, e01, e02, e12]; rfl), rfl, trivial⟩ ?_
              exact ih4 (i + 1) (by omega) (by omega)
        · skip
          have e01 : gbi (agr (T.1.1 (i : Int)) 0 1) = 1 := gbi_t (gbi_1 c17)
          refine g_iconst 21 C dX5_agrees_20 rfl ?_
          refine g_goto 25 C dX5_agrees_21 rfl ?_
          refine g_iadd 26 C dX5_agrees_25 rfl ?_
          refine g_istore_n 27 [(1, _), (2, _), (0, _)] C dX5_agrees_26 (by decide) rfl rfl ?_
          refine g_iload_n 28 C dX5_agrees_27 rfl rfl ?_
          refine g_aload_n 29 C dX5_agrees_28 rfl rfl ?_
          refine g_iload_n 30 C dX5_agrees_29 rfl rfl ?_
          refine g_iconst 31 C dX5_agrees_30 rfl ?_
          refine g_iconst 32 C dX5_agrees_31 rfl ?_
          refine g_V3r 35 0 0 C dX5_agrees_32 rfl lk_RX5_188 gi_X5_areAlike gv_X5_areAlike ⟨_, _, rfl⟩ (by omega) hm ⟨⟨by decide, by decide⟩, by decide, by decide⟩ (Nat.le_of_ble_eq_true rfl) rfl rfl rfl (c_X5_areAlike m g hs f (i : Int) (T.1.1 (i : Int)) 0 2 hmb hm9 hz (by omega) (rK (i : Int) (by omega) (by omega)) (hok (i : Int) (by omega) (by omega)) (hO (i : Int) (by omega) (by omega)) (by decide) (by decide)) g_no (fun h9 e32 => ?_)
          replace e32 := e32.symm
          subst e32
          refine g_if_eq 42 38 C dX5_agrees_35 rfl rfl (gbi_r _) (fun c35 => ?_) (fun c35 => ?_)
          · skip
            have e02 : gbi (agr (T.1.1 (i : Int)) 0 2) = 0 := c35
            refine g_iconst 43 C dX5_agrees_42 rfl ?_
            refine g_iadd 44 C dX5_agrees_43 rfl ?_
            refine g_istore_n 45 [(1, _), (2, _), (0, _)] C dX5_agrees_44 (by decide) rfl rfl ?_
            refine g_iload_n 46 C dX5_agrees_45 rfl rfl ?_
            refine g_aload_n 47 C dX5_agrees_46 rfl rfl ?_
            refine g_iload_n 48 C dX5_agrees_47 rfl rfl ?_
            refine g_iconst 49 C dX5_agrees_48 rfl ?_
            refine g_iconst 50 C dX5_agrees_49 rfl ?_
            refine g_V3r 53 0 0 C dX5_agrees_50 rfl lk_RX5_188 gi_X5_areAlike gv_X5_areAlike ⟨_, _, rfl⟩ (by omega) hm ⟨⟨by decide, by decide⟩, by decide, by decide⟩ (Nat.le_of_ble_eq_true rfl) rfl rfl rfl (c_X5_areAlike m g hs f (i : Int) (T.1.1 (i : Int)) 1 2 hmb hm9 hz (by omega) (rK (i : Int) (by omega) (by omega)) (hok (i : Int) (by omega) (by omega)) (hO (i : Int) (by omega) (by omega)) (by decide) (by decide)) g_no (fun h9 e50 => ?_)
            replace e50 := e50.symm
            subst e50
            refine g_if_eq 60 56 C dX5_agrees_53 rfl rfl (gbi_r _) (fun c53 => ?_) (fun c53 => ?_)
            · skip
              have e12 : gbi (agr (T.1.1 (i : Int)) 1 2) = 0 := c53
              refine g_iconst 61 C dX5_agrees_60 rfl ?_
              refine g_iadd 62 C dX5_agrees_61 rfl ?_
              refine g_istore_n 63 [(1, _), (2, _), (0, _)] C dX5_agrees_62 (by decide) rfl rfl ?_
              refine g_iinc 66 [(2, _), (1, _), (0, _)] C dX5_agrees_63 rfl (by decide) rfl rfl ?_
              refine g_goto 4 C dX5_agrees_66 rfl ?_
              refine g_loc [(2, _), (1, .int (gi (sumN (fun k : Int => agrP (T.1.1 k)) (i + 1)))), (0, _)] ⟨rfl, (by rw [show sumN (fun k : Int => agrP (T.1.1 k)) (i + 1) = sumN (fun k : Int => agrP (T.1.1 k)) i + gbi (agr (T.1.1 (i : Int)) 0 1) + gbi (agr (T.1.1 (i : Int)) 0 2) + gbi (agr (T.1.1 (i : Int)) 1 2) by show sumN (fun k : Int => agrP (T.1.1 k)) i + agrP (T.1.1 (i : Int)) = _; unfold agrP; omega, e01, e02, e12]; rfl), rfl, trivial⟩ ?_
              exact ih4 (i + 1) (by omega) (by omega)
            · skip
              have e12 : gbi (agr (T.1.1 (i : Int)) 1 2) = 1 := gbi_t (gbi_1 c53)
              refine g_iconst 57 C dX5_agrees_56 rfl ?_
              refine g_goto 61 C dX5_agrees_57 rfl ?_
              refine g_iadd 62 C dX5_agrees_61 rfl ?_
              refine g_istore_n 63 [(1, _), (2, _), (0, _)] C dX5_agrees_62 (by decide) rfl rfl ?_
              refine g_iinc 66 [(2, _), (1, _), (0, _)] C dX5_agrees_63 rfl (by decide) rfl rfl ?_
              refine g_goto 4 C dX5_agrees_66 rfl ?_
              refine g_loc [(2, _), (1, .int (gi (sumN (fun k : Int => agrP (T.1.1 k)) (i + 1)))), (0, _)] ⟨rfl, (by rw [show sumN (fun k : Int => agrP (T.1.1 k)) (i + 1) = sumN (fun k : Int => agrP (T.1.1 k)) i + gbi (agr (T.1.1 (i : Int)) 0 1) + gbi (agr (T.1.1 (i : Int)) 0 2) + gbi (agr (T.1.1 (i : Int)) 1 2) by show sumN (fun k : Int => agrP (T.1.1 k)) i + agrP (T.1.1 (i : Int)) = _; unfold agrP; omega, e01, e02, e12]; rfl), rfl, trivial⟩ ?_
              exact ih4 (i + 1) (by omega) (by omega)
          · skip
            have e02 : gbi (agr (T.1.1 (i : Int)) 0 2) = 1 := gbi_t (gbi_1 c35)
            refine g_iconst 39 C dX5_agrees_38 rfl ?_
            refine g_goto 43 C dX5_agrees_39 rfl ?_
            refine g_iadd 44 C dX5_agrees_43 rfl ?_
            refine g_istore_n 45 [(1, _), (2, _), (0, _)] C dX5_agrees_44 (by decide) rfl rfl ?_
            refine g_iload_n 46 C dX5_agrees_45 rfl rfl ?_
            refine g_aload_n 47 C dX5_agrees_46 rfl rfl ?_
            refine g_iload_n 48 C dX5_agrees_47 rfl rfl ?_
            refine g_iconst 49 C dX5_agrees_48 rfl ?_
            refine g_iconst 50 C dX5_agrees_49 rfl ?_
            refine g_V3r 53 0 0 C dX5_agrees_50 rfl lk_RX5_188 gi_X5_areAlike gv_X5_areAlike ⟨_, _, rfl⟩ (by omega) hm ⟨⟨by decide, by decide⟩, by decide, by decide⟩ (Nat.le_of_ble_eq_true rfl) rfl rfl rfl (c_X5_areAlike m g hs f (i : Int) (T.1.1 (i : Int)) 1 2 hmb hm9 hz (by omega) (rK (i : Int) (by omega) (by omega)) (hok (i : Int) (by omega) (by omega)) (hO (i : Int) (by omega) (by omega)) (by decide) (by decide)) g_no (fun h9 e50 => ?_)
            replace e50 := e50.symm
            subst e50
            refine g_if_eq 60 56 C dX5_agrees_53 rfl rfl (gbi_r _) (fun c53 => ?_) (fun c53 => ?_)
            · skip
              have e12 : gbi (agr (T.1.1 (i : Int)) 1 2) = 0 := c53
              refine g_iconst 61 C dX5_agrees_60 rfl ?_
              refine g_iadd 62 C dX5_agrees_61 rfl ?_
              refine g_istore_n 63 [(1, _), (2, _), (0, _)] C dX5_agrees_62 (by decide) rfl rfl ?_
              refine g_iinc 66 [(2, _), (1, _), (0, _)] C dX5_agrees_63 rfl (by decide) rfl rfl ?_
              refine g_goto 4 C dX5_agrees_66 rfl ?_
              refine g_loc [(2, _), (1, .int (gi (sumN (fun k : Int => agrP (T.1.1 k)) (i + 1)))), (0, _)] ⟨rfl, (by rw [show sumN (fun k : Int => agrP (T.1.1 k)) (i + 1) = sumN (fun k : Int => agrP (T.1.1 k)) i + gbi (agr (T.1.1 (i : Int)) 0 1) + gbi (agr (T.1.1 (i : Int)) 0 2) + gbi (agr (T.1.1 (i : Int)) 1 2) by show sumN (fun k : Int => agrP (T.1.1 k)) i + agrP (T.1.1 (i : Int)) = _; unfold agrP; omega, e01, e02, e12]; rfl), rfl, trivial⟩ ?_
              exact ih4 (i + 1) (by omega) (by omega)
            · skip
              have e12 : gbi (agr (T.1.1 (i : Int)) 1 2) = 1 := gbi_t (gbi_1 c53)
              refine g_iconst 57 C dX5_agrees_56 rfl ?_
              refine g_goto 61 C dX5_agrees_57 rfl ?_
              refine g_iadd 62 C dX5_agrees_61 rfl ?_
              refine g_istore_n 63 [(1, _), (2, _), (0, _)] C dX5_agrees_62 (by decide) rfl rfl ?_
              refine g_iinc 66 [(2, _), (1, _), (0, _)] C dX5_agrees_63 rfl (by decide) rfl rfl ?_
              refine g_goto 4 C dX5_agrees_66 rfl ?_
              refine g_loc [(2, _), (1, .int (gi (sumN (fun k : Int => agrP (T.1.1 k)) (i + 1)))), (0, _)] ⟨rfl, (by rw [show sumN (fun k : Int => agrP (T.1.1 k)) (i + 1) = sumN (fun k : Int => agrP (T.1.1 k)) i + gbi (agr (T.1.1 (i : Int)) 0 1) + gbi (agr (T.1.1 (i : Int)) 0 2) + gbi (agr (T.1.1 (i : Int)) 1 2) by show sumN (fun k : Int => agrP (T.1.1 k)) i + agrP (T.1.1 (i : Int)) = _; unfold agrP; omega, e01, e02, e12]; rfl), rfl, trivial⟩ ?_
              exact ih4 (i + 1) (by omega) (by omega)
  refine g_loc [(2, _), (1, _), (0, _)] ⟨rfl, rfl, rfl, trivial⟩ ?_
  exact lp4 _ 0 (by omega) (Nat.lt_succ_self _)
