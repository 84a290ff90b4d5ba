/-! SiblingJoinsModel: lose, forget, undo, pull -/
set_option maxRecDepth 100000 in
set_option maxHeartbeats 4000000 in
theorem c_X5_lose {E : gEnv} {n : Nat} {σ : Option Nat} {h : gH} (m : Nat) (T : gTt) (c0 : Int) (w k : Int) (hmb : gB E ≤ m ∧ m + 7 ≤ gB E + n) (hM : isM E h m T c0) (hok : okT T) (hI : gIv T.1) (hwr : -2147483648 ≤ w ∧ w < 2147483648) (hkr : -2147483648 ≤ k ∧ k < 2147483648) : gM E mX5_lose [.ref m, .int (gi w), .int (gi k)] n σ h (gRM E h m n σ (oLose T w k)) (gNo) := by
  obtain ⟨g, hs, f, fp, X0, -⟩ := hM
  have m0 := X0.1
  unfold isMo at m0
  have hokS := hok.1
  refine gM_of (by decide) (Nat.le_of_ble_eq_true rfl) (fun F C => ?_)
  refine g_aload_n 1 C dX5_lose_0 rfl rfl ?_
  refine g_iconst 2 C dX5_lose_1 rfl ?_
  refine g_putf 5 C dX5_lose_2 fp_RX5_32 rfl (by omega) m0 rfl rfl (Nat.le_of_ble_eq_true rfl) rfl ?_
  refine g_ab (fun z => isMx E z m T (gup g 6 0) hs f fp ∧ gKp m (m + 7) h z) ⟨X0.obj up_s (gKp_up (by omega)) (gup_ne (by decide)) (gup_ne (by decide)), gKp_up (by omega)⟩ (fun h1 q1 => ?_)
  obtain ⟨X1, K1⟩ := q1
  obtain ⟨x1, z1, x3, ⟨fs, x4⟩, x5, x6, x7, ⟨ft, x8, x8e⟩, x9, ⟨fm, x10⟩, ⟨fo, x11⟩⟩ := id X1
  have m1 := x1
  unfold isMo at m1
  have g6 : gup g 6 0 6 = 0 := gup_at
  refine g_iload_n 6 C dX5_lose_5 rfl rfl ?_
  refine g_S1r 9 0 0 C dX5_lose_6 rfl lk_RX5_82 gs_X5_isWriter ⟨⟨by decide, by decide⟩, by decide, by decide⟩ (Nat.le_of_ble_eq_true rfl) rfl rfl rfl (c_X5_isWriter w hwr) g_no (fun h9 e6 => ?_)
  replace e6 := e6.symm
  subst e6
  refine g_if_eq 19 12 C dX5_lose_9 rfl rfl (gbi_r _) (fun c9 => ?_) (fun c9 => ?_)
  · skip
    have w9 := of_decide_eq_false (gbi_0 c9)
    refine g_aload_n 20 C dX5_lose_19 rfl rfl ?_
    refine g_iconst 21 C dX5_lose_20 rfl ?_
    refine g_V1r 24 0 0 C dX5_lose_21 rfl lk_RX5_39 gi_X5_fails gv_X5_fails ⟨_, _, rfl⟩ (by omega) m1 ⟨⟨by decide, by decide⟩, by decide, by decide⟩ (Nat.le_of_ble_eq_true rfl) rfl rfl rfl (c_X5_fails m (gup g 6 0) hs 1 (by omega) x1) g_no (fun h2 e21 => ?_)
    obtain ⟨n1, n2⟩ := e21
    exact g_iret C dX5_lose_24 rfl ⟨by decide, by decide⟩ (mret (by unfold oLose; exact if_neg (by omega)) rfl ⟨_, _, _, _, X1.obj n1 n2 (gup_ne (by decide)) (gup_ne (by decide)), gup_at⟩ (gKp_tr K1 (gKp_wd n2 (by omega) (by omega))))
  · skip
    have w9 := of_decide_eq_true (gbi_1 c9)
    refine g_iload_n 13 C dX5_lose_12 rfl rfl ?_
    refine g_S1r 16 0 0 C dX5_lose_13 rfl lk_RX5_86 gs_X5_isKey ⟨⟨by decide, by decide⟩, by decide, by decide⟩ (Nat.le_of_ble_eq_true rfl) rfl rfl rfl (c_X5_isKey k hkr) g_no (fun h9 e13 => ?_)
    replace e13 := e13.symm
    subst e13
    refine g_if_ne 25 19 C dX5_lose_16 rfl rfl (gbi_r _) (fun c16 => ?_) (fun c16 => ?_)
    · skip
      have w16 := of_decide_eq_true (gbi_1 c16)
      have hRk := x3.1 k (by omega) (by omega)
      have hoK := hokS k (by omega) (by omega)
      refine g_aload_n 26 C dX5_lose_25 rfl rfl ?_
      refine g_aload_n 27 C dX5_lose_26 rfl rfl ?_
      refine g_getf 30 C dX5_lose_27 fl_RX5_7 rfl (by omega) m1 rfl rfl ?_
      refine g_V1v 33 0 0 C dX5_lose_30 rfl lk_RX5_95 gi_X5_saves gv_X5_saves ⟨_, _, rfl⟩ (by omega) m1 ⟨⟨by decide, by decide⟩, by decide, by decide⟩ (Nat.le_of_ble_eq_true rfl) rfl rfl rfl (c_X5_saves m (gup g 6 0) hs fp T.2.1 (m + 1) f T.1 hmb x1 x5 x6 hok.2.1 x7 hok.2.2.1 (Or.inl rfl) z1 x3 hokS) g_no (fun h2 e30 => ?_)
      obtain ⟨y1, ⟨fp2, y2, y3⟩, y4⟩ := e30
      have X2 : isMx E h2 m (tSave T) (gup (gup g 6 0) 3 (((tDrop T.2.1).1 : Int) + 1)) hs f fp2 := X1.sav y1 y2 y3 y4 gup_at (gup_ne (by decide))
      have K2 : gKp m (m + 7) h h2 := gKp_tr K1 (fun q hq => y4 q (by omega) (by omega))
      have g62 : gup (gup g 6 0) 3 (((tDrop T.2.1).1 : Int) + 1) 6 = 0 := (gup_ne (by decide)).trans g6
      obtain ⟨x1, z1, x3, ⟨fs, x4⟩, x5, x6, x7, ⟨ft, x8, x8e⟩, x9, ⟨fm, x10⟩, ⟨fo, x11⟩⟩ := id X2
      have m1 := x1
      unfold isMo at m1
      have x3 : Rz f T.1 := x3
      refine g_iconst 34 C dX5_lose_33 rfl ?_
      refine g_istore_n 35 [(3, _), (0, _), (1, _), (2, _)] C dX5_lose_34 (by decide) rfl rfl ?_
      refine g_iconst 36 C dX5_lose_35 rfl ?_
      refine g_istore 38 [(4, _), (3, _), (0, _), (1, _), (2, _)] C dX5_lose_36 (by decide) rfl rfl ?_
      have lp38 : ∀ (k9 : Nat) (i : Nat) (h3 : gH) (f3 : Int → Int), (i ≤ 5) → (h3 (m + 1) = gI E 311 f3) → (gKp (m + 1) (m + 2) h2 h3) → (∀ j : Int, 0 ≤ j → j < (i : Int) → f3 (15 + 25 * k + 5 * w + j) = (fun o9 : Int => if o9 = w then (T.1.1 k).2.1 w o9 else 0) j) → (∀ x9 : Int, (x9 < (15 + 25 * k + 5 * w) ∨ (15 + 25 * k + 5 * w) + (i : Int) ≤ x9) → f3 x9 = f x9) → 5 - i < k9 → G E F mX5_lose (gQ E F mX5_lose n (gRM E h m n σ (oLose T w k)) (gNo)) n σ h3 0 0 38 [(4, .int (gi (i : Int))), (3, .int (gi (sumN (fun o9 : Int => if o9 = w then 0 else (T.1.1 k).2.1 w o9) i))), (0, .ref m), (1, .int (gi w)), (2, .int (gi k))] [] := by
        intro k9
        induction k9 with
        | zero => intro i h3 f3 hi z3 hk3 hA hF h0; exact absurd h0 (Nat.not_lt_zero _)
        | succ k9 ih38 =>
          intro i h3 f3 hi z3 hk3 hA hF hk38
          have m3 := (hk3 m (by omega)).trans m1
          refine g_iload 40 C dX5_lose_38 rfl rfl ?_
          refine g_iconst 41 C dX5_lose_40 rfl ?_
          refine g_icmp_ge 104 44 C dX5_lose_41 rfl rfl (by omega) (by omega) (fun c41 => ?_) (fun c41 => ?_)
          · skip
            refine g_iload_n 105 C dX5_lose_104 rfl rfl ?_
            exact g_iret C dX5_lose_105 rfl ⟨by decide, by decide⟩ (by
                have hi5 : i = 5 := by omega
                subst hi5
                have fk3 : fKp (15 + 25 * k + 5 * w) 5 f f3 := fun x9 z => hF x9 (by omega)
                have R3 := hRk.setN hoK (by omega) (w := w) (by omega) (v := (fun o9 : Int => if o9 = w then (T.1.1 k).2.1 w o9 else 0)) (fun r r0 r5 => hA r r0 (by omega)) fk3
                have Z3 := x3.setK (K' := kUnl (T.1.1 k) w) hokS (by omega) R3 (fKy_N (w := w) (by omega) fk3)
                exact mret (by unfold oLose; exact if_pos (by omega)) rfl ⟨_, _, _, _, X2.zed z3 Z3 hk3, g62⟩ (gKp_tr K2 (gKp_wd hk3 (by omega) (by omega))))
          · skip
            have en := (hRk.2.1 w (by omega) (by omega)) (i : Int) (by omega) (by omega)
            have e3 := (hF (15 + 25 * k + 5 * w + (i : Int)) (by omega)).trans en
            refine g_iload_n 45 C dX5_lose_44 rfl rfl ?_
            refine g_iload_n 46 C dX5_lose_45 rfl rfl ?_
            refine g_S2r 49 0 0 C dX5_lose_46 rfl lk_RX5_54 gs_X5_knowsAt ⟨⟨by decide, by decide⟩, by decide, by decide⟩ (Nat.le_of_ble_eq_true rfl) rfl rfl rfl (c_X5_knowsAt k w) g_no (fun h9 e46 => ?_)
            replace e46 := e46.symm
            subst e46
            refine g_iload 51 C dX5_lose_49 rfl rfl ?_
            refine g_iadd 52 C dX5_lose_51 rfl ?_
            refine g_istore 54 [(5, _), (4, _), (3, _), (0, _), (1, _), (2, _)] C dX5_lose_52 (by decide) rfl rfl ?_
            refine g_iload_n 55 C dX5_lose_54 rfl rfl ?_
            refine g_iload 57 C dX5_lose_55 rfl rfl ?_
            refine g_iload_n 58 C dX5_lose_57 rfl rfl ?_
            refine g_icmp_ne 65 61 C dX5_lose_58 rfl rfl (by omega) (by omega) (fun c58 => ?_) (fun c58 => ?_)
            · skip
              have es : (fun o9 : Int => if o9 = w then 0 else (T.1.1 k).2.1 w o9) (i : Int) = (T.1.1 k).2.1 w (i : Int) := if_neg (by omega)
              have eu : (fun o9 : Int => if o9 = w then (T.1.1 k).2.1 w o9 else 0) (i : Int) = 0 := if_neg (by omega)
              refine g_aload_n 66 C dX5_lose_65 rfl rfl ?_
              refine g_getf 69 C dX5_lose_66 fl_RX5_7 rfl (by omega) m3 rfl rfl ?_
              refine g_iload 71 C dX5_lose_69 rfl rfl ?_
              refine g_iald 72 C dX5_lose_71 (by omega) z3 (by omega) (by decide) rfl ?_
              rw [e3]
              refine g_iadd 73 C dX5_lose_72 rfl ?_
              refine g_istore_n 74 [(3, _), (5, _), (4, _), (0, _), (1, _), (2, _)] C dX5_lose_73 (by decide) rfl rfl ?_
              refine g_aload_n 75 C dX5_lose_74 rfl rfl ?_
              refine g_getf 78 C dX5_lose_75 fl_RX5_7 rfl (by omega) m3 rfl rfl ?_
              refine g_iload 80 C dX5_lose_78 rfl rfl ?_
              refine g_iload 82 C dX5_lose_80 rfl rfl ?_
              refine g_iload_n 83 C dX5_lose_82 rfl rfl ?_
              refine g_icmp_ne 96 86 C dX5_lose_83 rfl rfl (by omega) (by omega) (fun c83 => ?_) (fun c83 => ?_)
              · skip
                refine g_iconst 97 C dX5_lose_96 rfl ?_
                refine g_iast 98 C dX5_lose_97 (by omega) z3 (by omega) (by decide) rfl ?_
                have hA8 : ∀ j : Int, 0 ≤ j → j < ((i + 1 : Nat) : Int) → gup f3 (15 + 25 * k + 5 * w + (i : Int)) 0 (15 + 25 * k + 5 * w + j) = (fun o9 : Int => if o9 = w then (T.1.1 k).2.1 w o9 else 0) j := fun j j0 j1 => by
                  by_cases e : j = (i : Int)
                  · rw [e, gup_at, eu]
                  · rw [gup_ne (by omega)]
                    exact hA j j0 (by omega)
                have hF8 : ∀ x9 : Int, (x9 < (15 + 25 * k + 5 * w) ∨ (15 + 25 * k + 5 * w) + ((i + 1 : Nat) : Int) ≤ x9) → gup f3 (15 + 25 * k + 5 * w + (i : Int)) 0 x9 = f x9 := fun x9 z => (gup_ne (by omega)).trans (hF x9 (by omega))
                refine g_iinc 101 [(4, _), (3, _), (5, _), (0, _), (1, _), (2, _)] C dX5_lose_98 rfl (by decide) rfl rfl ?_
                refine g_goto 38 C dX5_lose_101 rfl ?_
                refine g_loc [(4, _), (3, .int (gi (sumN (fun o9 : Int => if o9 = w then 0 else (T.1.1 k).2.1 w o9) (i + 1)))), (0, _), (1, _), (2, _)] ⟨rfl, (by rw [show sumN (fun o9 : Int => if o9 = w then 0 else (T.1.1 k).2.1 w o9) (i + 1) = sumN (fun o9 : Int => if o9 = w then 0 else (T.1.1 k).2.1 w o9) i + (fun o9 : Int => if o9 = w then 0 else (T.1.1 k).2.1 w o9) (i : Int) from rfl, es]; rfl), rfl, rfl, rfl, trivial⟩ ?_
                exact ih38 (i + 1) _ _ (by omega) up_s (gKp_tr hk3 (gKp_up (by omega))) hA8 hF8 (by omega)
              · skip
                exact absurd c83 (by omega)
            · skip
              have es : (fun o9 : Int => if o9 = w then 0 else (T.1.1 k).2.1 w o9) (i : Int) = 0 := if_pos (by omega)
              have eu : (fun o9 : Int => if o9 = w then (T.1.1 k).2.1 w o9 else 0) (i : Int) = (T.1.1 k).2.1 w (i : Int) := if_pos (by omega)
              refine g_iconst 62 C dX5_lose_61 rfl ?_
              refine g_goto 72 C dX5_lose_62 rfl ?_
              refine g_iadd 73 C dX5_lose_72 rfl ?_
              refine g_istore_n 74 [(3, _), (5, _), (4, _), (0, _), (1, _), (2, _)] C dX5_lose_73 (by decide) rfl rfl ?_
              refine g_aload_n 75 C dX5_lose_74 rfl rfl ?_
              refine g_getf 78 C dX5_lose_75 fl_RX5_7 rfl (by omega) m3 rfl rfl ?_
              refine g_iload 80 C dX5_lose_78 rfl rfl ?_
              refine g_iload 82 C dX5_lose_80 rfl rfl ?_
              refine g_iload_n 83 C dX5_lose_82 rfl rfl ?_
              refine g_icmp_ne 96 86 C dX5_lose_83 rfl rfl (by omega) (by omega) (fun c83 => ?_) (fun c83 => ?_)
              · skip
                exact absurd c83 (by omega)
              · skip
                refine g_aload_n 87 C dX5_lose_86 rfl rfl ?_
                refine g_getf 90 C dX5_lose_87 fl_RX5_7 rfl (by omega) m3 rfl rfl ?_
                refine g_iload 92 C dX5_lose_90 rfl rfl ?_
                refine g_iald 93 C dX5_lose_92 (by omega) z3 (by omega) (by decide) rfl ?_
                rw [e3]
                refine g_goto 97 C dX5_lose_93 rfl ?_
                refine g_iast 98 C dX5_lose_97 (by omega) z3 (by omega) (by decide) rfl ?_
                have hA8 : ∀ j : Int, 0 ≤ j → j < ((i + 1 : Nat) : Int) → gup f3 (15 + 25 * k + 5 * w + (i : Int)) ((T.1.1 k).2.1 w (i : Int)) (15 + 25 * k + 5 * w + j) = (fun o9 : Int => if o9 = w then (T.1.1 k).2.1 w o9 else 0) j := fun j j0 j1 => by
                  by_cases e : j = (i : Int)
                  · rw [e, gup_at, eu]
                  · rw [gup_ne (by omega)]
                    exact hA j j0 (by omega)
                have hF8 : ∀ x9 : Int, (x9 < (15 + 25 * k + 5 * w) ∨ (15 + 25 * k + 5 * w) + ((i + 1 : Nat) : Int) ≤ x9) → gup f3 (15 + 25 * k + 5 * w + (i : Int)) ((T.1.1 k).2.1 w (i : Int)) x9 = f x9 := fun x9 z => (gup_ne (by omega)).trans (hF x9 (by omega))
                refine g_iinc 101 [(4, _), (3, _), (5, _), (0, _), (1, _), (2, _)] C dX5_lose_98 rfl (by decide) rfl rfl ?_
                refine g_goto 38 C dX5_lose_101 rfl ?_
                refine g_loc [(4, _), (3, .int (gi (sumN (fun o9 : Int => if o9 = w then 0 else (T.1.1 k).2.1 w o9) (i + 1)))), (0, _), (1, _), (2, _)] ⟨rfl, (by rw [show sumN (fun o9 : Int => if o9 = w then 0 else (T.1.1 k).2.1 w o9) (i + 1) = sumN (fun o9 : Int => if o9 = w then 0 else (T.1.1 k).2.1 w o9) i + (fun o9 : Int => if o9 = w then 0 else (T.1.1 k).2.1 w o9) (i : Int) from rfl, es]; rfl), rfl, rfl, rfl, trivial⟩ ?_
                exact ih38 (i + 1) _ _ (by omega) up_s (gKp_tr hk3 (gKp_up (by omega))) hA8 hF8 (by omega)
      refine g_loc [(4, _), (3, _), (0, _), (1, _), (2, _)] ⟨rfl, rfl, rfl, rfl, rfl, trivial⟩ ?_
      exact lp38 _ 0 h2 f (by omega) z1 gKp_rf (fun j j0 j1 => absurd j1 (by omega)) (fun _ _ => rfl) (Nat.lt_succ_self _)
    · skip
      have w16 := of_decide_eq_false (gbi_0 c16)
      refine g_aload_n 20 C dX5_lose_19 rfl rfl ?_
      refine g_iconst 21 C dX5_lose_20 rfl ?_
      refine g_V1r 24 0 0 C dX5_lose_21 rfl lk_RX5_39 gi_X5_fails gv_X5_fails ⟨_, _, rfl⟩ (by omega) m1 ⟨⟨by decide, by decide⟩, by decide, by decide⟩ (Nat.le_of_ble_eq_true rfl) rfl rfl rfl (c_X5_fails m (gup g 6 0) hs 1 (by omega) x1) g_no (fun h2 e21 => ?_)
      obtain ⟨n1, n2⟩ := e21
      exact g_iret C dX5_lose_24 rfl ⟨by decide, by decide⟩ (mret (by unfold oLose; exact if_neg (by omega)) rfl ⟨_, _, _, _, X1.obj n1 n2 (gup_ne (by decide)) (gup_ne (by decide)), gup_at⟩ (gKp_tr K1 (gKp_wd n2 (by omega) (by omega))))
set_option maxRecDepth 100000 in
set_option maxHeartbeats 4000000 in
theorem c_X5_pull {E : gEnv} {n : Nat} {σ : Option Nat} {h : gH} (m : Nat) (T : gTt) (c0 : Int) (s o k : Int) (hmb : gB E ≤ m ∧ m + 7 ≤ gB E + n) (hM : isM E h m T c0) (hok : okT T) (hI : gIv T.1) (hsr : -2147483648 ≤ s ∧ s < 2147483648) (hor : -2147483648 ≤ o ∧ o < 2147483648) (hkr : -2147483648 ≤ k ∧ k < 2147483648) : gM E mX5_pull [.ref m, .int (gi s), .int (gi o), .int (gi k)] n σ h (gRM E h m n σ (oPull T s o k)) (gNo) := by
  obtain ⟨g, hs, f, fp, X0, -⟩ := hM
  have m0 := X0.1
  unfold isMo at m0
  have hokS := hok.1
  refine gM_of (by decide) (Nat.le_of_ble_eq_true rfl) (fun F C => ?_)
  refine g_aload_n 1 C dX5_pull_0 rfl rfl ?_
  refine g_iconst 2 C dX5_pull_1 rfl ?_
  refine g_putf 5 C dX5_pull_2 fp_RX5_32 rfl (by omega) m0 rfl rfl (Nat.le_of_ble_eq_true rfl) rfl ?_
  refine g_ab (fun z => isMx E z m T (gup g 6 0) hs f fp ∧ gKp m (m + 7) h z) ⟨X0.obj up_s (gKp_up (by omega)) (gup_ne (by decide)) (gup_ne (by decide)), gKp_up (by omega)⟩ (fun h1 q1 => ?_)
  obtain ⟨X1, K1⟩ := q1
  obtain ⟨x1, z1, x3, ⟨fs, x4⟩, x5, x6, x7, ⟨ft, x8, x8e⟩, x9, ⟨fm, x10⟩, ⟨fo, x11⟩⟩ := id X1
  have m1 := x1
  unfold isMo at m1
  have g6 : gup g 6 0 6 = 0 := gup_at
  refine g_iload_n 6 C dX5_pull_5 rfl rfl ?_
  refine g_S1r 9 0 0 C dX5_pull_6 rfl lk_RX5_89 gs_X5_isStore ⟨⟨by decide, by decide⟩, by decide, by decide⟩ (Nat.le_of_ble_eq_true rfl) rfl rfl rfl (c_X5_isStore s hsr) g_no (fun h9 e6 => ?_)
  replace e6 := e6.symm
  subst e6
  refine g_if_eq 26 12 C dX5_pull_9 rfl rfl (gbi_r _) (fun c9 => ?_) (fun c9 => ?_)
  · skip
    have w9 := of_decide_eq_false (gbi_0 c9)
    refine g_aload_n 27 C dX5_pull_26 rfl rfl ?_
    refine g_iconst 28 C dX5_pull_27 rfl ?_
    refine g_V1r 31 0 0 C dX5_pull_28 rfl lk_RX5_39 gi_X5_fails gv_X5_fails ⟨_, _, rfl⟩ (by omega) m1 ⟨⟨by decide, by decide⟩, by decide, by decide⟩ (Nat.le_of_ble_eq_true rfl) rfl rfl rfl (c_X5_fails m (gup g 6 0) hs 1 (by omega) x1) g_no (fun h2 e28 => ?_)
    obtain ⟨n1, n2⟩ := e28
    exact g_iret C dX5_pull_31 rfl ⟨by decide, by decide⟩ (mret (by unfold oPull; exact if_neg (by omega)) rfl ⟨_, _, _, _, X1.obj n1 n2 (gup_ne (by decide)) (gup_ne (by decide)), gup_at⟩ (gKp_tr K1 (gKp_wd n2 (by omega) (by omega))))
  · skip
    have w9 := of_decide_eq_true (gbi_1 c9)
    refine g_iload_n 13 C dX5_pull_12 rfl rfl ?_
    refine g_S1r 16 0 0 C dX5_pull_13 rfl lk_RX5_89 gs_X5_isStore ⟨⟨by decide, by decide⟩, by decide, by decide⟩ (Nat.le_of_ble_eq_true rfl) rfl rfl rfl (c_X5_isStore o hor) g_no (fun h9 e13 => ?_)
    replace e13 := e13.symm
    subst e13
    refine g_if_eq 26 19 C dX5_pull_16 rfl rfl (gbi_r _) (fun c16 => ?_) (fun c16 => ?_)
    · skip
      have w16 := of_decide_eq_false (gbi_0 c16)
      refine g_aload_n 27 C dX5_pull_26 rfl rfl ?_
      refine g_iconst 28 C dX5_pull_27 rfl ?_
      refine g_V1r 31 0 0 C dX5_pull_28 rfl lk_RX5_39 gi_X5_fails gv_X5_fails ⟨_, _, rfl⟩ (by omega) m1 ⟨⟨by decide, by decide⟩, by decide, by decide⟩ (Nat.le_of_ble_eq_true rfl) rfl rfl rfl (c_X5_fails m (gup g 6 0) hs 1 (by omega) x1) g_no (fun h2 e28 => ?_)
      obtain ⟨n1, n2⟩ := e28
      exact g_iret C dX5_pull_31 rfl ⟨by decide, by decide⟩ (mret (by unfold oPull; exact if_neg (by omega)) rfl ⟨_, _, _, _, X1.obj n1 n2 (gup_ne (by decide)) (gup_ne (by decide)), gup_at⟩ (gKp_tr K1 (gKp_wd n2 (by omega) (by omega))))
    · skip
      have w16 := of_decide_eq_true (gbi_1 c16)
      refine g_iload_n 20 C dX5_pull_19 rfl rfl ?_
      refine g_S1r 23 0 0 C dX5_pull_20 rfl lk_RX5_86 gs_X5_isKey ⟨⟨by decide, by decide⟩, by decide, by decide⟩ (Nat.le_of_ble_eq_true rfl) rfl rfl rfl (c_X5_isKey k hkr) g_no (fun h9 e20 => ?_)
      replace e20 := e20.symm
      subst e20
      refine g_if_ne 32 26 C dX5_pull_23 rfl rfl (gbi_r _) (fun c23 => ?_) (fun c23 => ?_)
      · skip
        have w23 := of_decide_eq_true (gbi_1 c23)
        refine g_iload_n 33 C dX5_pull_32 rfl rfl ?_
        refine g_iload_n 34 C dX5_pull_33 rfl rfl ?_
        refine g_icmp_ne 43 37 C dX5_pull_34 rfl rfl (by omega) (by omega) (fun c34 => ?_) (fun c34 => ?_)
        · skip
          have hRk := x3.1 k (by omega) (by omega)
          have hoK := hokS k (by omega) (by omega)
          refine g_aload_n 44 C dX5_pull_43 rfl rfl ?_
          refine g_iload_n 45 C dX5_pull_44 rfl rfl ?_
          refine g_iload_n 46 C dX5_pull_45 rfl rfl ?_
          refine g_iload_n 47 C dX5_pull_46 rfl rfl ?_
          refine g_V3v 50 0 0 C dX5_pull_47 rfl lk_RX5_129 gi_X5_tries gv_X5_tries ⟨_, _, rfl⟩ (by omega) m1 ⟨⟨by decide, by decide⟩, by decide, by decide⟩ (Nat.le_of_ble_eq_true rfl) rfl rfl rfl (c_X5_tries m (gup g 6 0) hs f k (T.1.1 k) fm s o hmb x1 z1 (by omega) hRk hoK (by omega) (by omega) (hI k (by omega) (by omega)).1 x10) g_no (fun h2 e47 => ?_)
          obtain ⟨g2, f2, t1, t2, t3, t4, t5, t6, t7, t8⟩ := e47
          have X2 : isMx E h2 m T g2 hs f fp := ⟨t1, (t8 _ (by omega) (by omega)).trans z1, x3, ⟨fs, (t8 _ (by omega) (by omega)).trans x4⟩, (t8 _ (by omega) (by omega)).trans x5, (t5 3 (by decide) (by decide) (by decide)).trans x6, x7, ⟨ft, (t8 _ (by omega) (by omega)).trans x8, x8e⟩, (t5 5 (by decide) (by decide) (by decide)).trans x9, ⟨f2, t6⟩, ⟨fo, (t8 _ (by omega) (by omega)).trans x11⟩⟩
          have K2 : gKp m (m + 7) h h2 := gKp_tr K1 (fun q hq => t8 q (by omega) (by omega))
          have g26 : g2 6 = 0 := (t5 6 (by decide) (by decide) (by decide)).trans g6
          have m2 := t1
          unfold isMo at m2
          have z2 := (t8 (m + 1) (by omega) (by omega)).trans z1
          have y5 := (t8 (m + 3) (by omega) (by omega)).trans x5
          have hlen := trL_len (K := T.1.1 k) (s := s) (o := o)
          refine g_aload_n 51 C dX5_pull_50 rfl rfl ?_
          refine g_getf 54 C dX5_pull_51 fl_RX5_112 rfl (by omega) m2 rfl rfl ?_
          rw [t2, hlen]
          refine g_iconst 55 C dX5_pull_54 rfl ?_
          refine g_icmp_le 64 58 C dX5_pull_55 rfl rfl (by have z1 := (hoK.2.2.2 s (by omega) (by omega)).1; have z2 := (hoK.2.2.2 o (by omega) (by omega)).1; have z3 := fIn_len (L := ((T.1.1 k).2.2.2 o).filter (fun p => isN ((T.1.1 k).2.2.1 s) ((T.1.1 k).2.2.2 s) p.1)) (((T.1.1 k).2.2.2 s).filter (stay ((T.1.1 k).2.2.1 o) ((T.1.1 k).2.2.2 o))); have z4 := List.length_filter_le (stay ((T.1.1 k).2.2.1 o) ((T.1.1 k).2.2.2 o)) ((T.1.1 k).2.2.2 s); have z5 := List.length_filter_le (fun p : Int × Int => isN ((T.1.1 k).2.2.1 s) ((T.1.1 k).2.2.2 s) p.1) ((T.1.1 k).2.2.2 o); have z6 : (trL (T.1.1 k) s o).length = _ := z3; omega) (by omega) (fun c55 => ?_) (fun c55 => ?_)
          · skip
            have hp4 : pOut (T.1.1 k) s o 2 ≤ 4 := by omega
            refine g_aload_n 65 C dX5_pull_64 rfl rfl ?_
            refine g_aload_n 66 C dX5_pull_65 rfl rfl ?_
            refine g_getf 69 C dX5_pull_66 fl_RX5_7 rfl (by omega) m2 rfl rfl ?_
            refine g_V1v 72 0 0 C dX5_pull_69 rfl lk_RX5_95 gi_X5_saves gv_X5_saves ⟨_, _, rfl⟩ (by omega) m2 ⟨⟨by decide, by decide⟩, by decide, by decide⟩ (Nat.le_of_ble_eq_true rfl) rfl rfl rfl (c_X5_saves m g2 hs fp T.2.1 (m + 1) f T.1 hmb t1 y5 (X2.2.2.2.2.2.1) hok.2.1 x7 hok.2.2.1 (Or.inl rfl) z2 x3 hokS) g_no (fun h3 e69 => ?_)
            obtain ⟨y1, ⟨fp2, y2, y3⟩, y4⟩ := e69
            have X3 : isMx E h3 m (tSave T) (gup g2 3 (((tDrop T.2.1).1 : Int) + 1)) hs f fp2 := X2.sav y1 y2 y3 y4 gup_at (gup_ne (by decide))
            have K3 : gKp m (m + 7) h h3 := gKp_tr K2 (fun q hq => y4 q (by omega) (by omega))
            have g36 : gup g2 3 (((tDrop T.2.1).1 : Int) + 1) 6 = 0 := (gup_ne (by decide)).trans g26
            have m3 := y1
            unfold isMo at m3
            have etk : tkL ((T.1.1 k).2.2.1 s) ((T.1.1 k).2.2.1 o) ((T.1.1 k).2.2.2 s) ((T.1.1 k).2.2.2 o) = trL (T.1.1 k) s o := tk_tr ((hI k (by omega) (by omega)).1 o (by omega) (by omega)) (by omega)
            have olT : okL (trL (T.1.1 k) s o) := by rw [← etk]; exact okL_tkL (hoK.2.2.2 s (by omega) (by omega)) (hoK.2.2.2 o (by omega) (by omega))
            refine g_aload_n 73 C dX5_pull_72 rfl rfl ?_
            refine g_iload_n 74 C dX5_pull_73 rfl rfl ?_
            refine g_iload_n 75 C dX5_pull_74 rfl rfl ?_
            refine g_iload_n 76 C dX5_pull_75 rfl rfl ?_
            refine g_V3r 79 0 0 C dX5_pull_76 rfl lk_RX5_132 gi_X5_pulls gv_X5_pulls ⟨_, _, rfl⟩ (by omega) m3 ⟨⟨by decide, by decide⟩, by decide, by decide⟩ (Nat.le_of_ble_eq_true rfl) rfl rfl rfl (c_X5_pulls m (gup g2 3 (((tDrop T.2.1).1 : Int) + 1)) hs f T.1 f2 s o k (trL (T.1.1 k) s o) hmb y1 ((y4 _ (by omega) (by omega)).trans z2) x3 hokS (by omega) (by omega) (by omega) (fun e => c34 e) ((y4 _ (by omega) (by omega)).trans t6) t7 ((gup_ne (by decide)).trans t2) olT) g_no (fun h4 e76 => ?_)
            obtain ⟨⟨f4, z4, Z4⟩, k4⟩ := e76
            rw [show gup g2 3 (((tDrop T.2.1).1 : Int) + 1) 9 = pLost (T.1.1 k) s o from (gup_ne (by decide)).trans t3] at Z4 ⊢
            have eS : sPul T.1 s o k (trL (T.1.1 k) s o) (pLost (T.1.1 k) s o) = sBri T.1 s o k := by unfold sPul sBri kTake; rw [etk]; rfl
            rw [eS] at Z4
            have X4 := X3.zed z4 Z4 k4
            exact g_iret C dX5_pull_79 rfl ⟨by decide, by decide⟩ (mret (by unfold oPull; rw [if_pos (show SOK s o k by unfold SOK; omega), if_neg c34]; exact if_pos hp4) rfl ⟨_, _, _, _, X4, g36⟩ (gKp_tr K3 (gKp_wd k4 (by omega) (by omega))))
          · skip
            have hp4 : ¬ pOut (T.1.1 k) s o 2 ≤ 4 := by omega
            refine g_aload_n 59 C dX5_pull_58 rfl rfl ?_
            refine g_iconst 60 C dX5_pull_59 rfl ?_
            refine g_V1r 63 0 0 C dX5_pull_60 rfl lk_RX5_39 gi_X5_fails gv_X5_fails ⟨_, _, rfl⟩ (by omega) m2 ⟨⟨by decide, by decide⟩, by decide, by decide⟩ (Nat.le_of_ble_eq_true rfl) rfl rfl rfl (c_X5_fails m g2 hs 3 (by omega) t1) g_no (fun h3 e60 => ?_)
            obtain ⟨n1, n2⟩ := e60
            exact g_iret C dX5_pull_63 rfl ⟨by decide, by decide⟩ (mret (by unfold oPull; rw [if_pos (show SOK s o k by unfold SOK; omega), if_neg c34]; exact if_neg hp4) rfl ⟨_, _, _, _, X2.obj n1 n2 (gup_ne (by decide)) (gup_ne (by decide)), gup_at⟩ (gKp_tr K2 (gKp_wd n2 (by omega) (by omega))))
        · skip
          refine g_aload_n 38 C dX5_pull_37 rfl rfl ?_
          refine g_iconst 39 C dX5_pull_38 rfl ?_
          refine g_V1r 42 0 0 C dX5_pull_39 rfl lk_RX5_39 gi_X5_fails gv_X5_fails ⟨_, _, rfl⟩ (by omega) m1 ⟨⟨by decide, by decide⟩, by decide, by decide⟩ (Nat.le_of_ble_eq_true rfl) rfl rfl rfl (c_X5_fails m (gup g 6 0) hs 2 (by omega) x1) g_no (fun h2 e39 => ?_)
          obtain ⟨n1, n2⟩ := e39
          exact g_iret C dX5_pull_42 rfl ⟨by decide, by decide⟩ (mret (by unfold oPull; rw [if_pos (show SOK s o k by unfold SOK; omega)]; exact if_pos c34) rfl ⟨_, _, _, _, X1.obj n1 n2 (gup_ne (by decide)) (gup_ne (by decide)), gup_at⟩ (gKp_tr K1 (gKp_wd n2 (by omega) (by omega))))
      · skip
        have w23 := of_decide_eq_false (gbi_0 c23)
        refine g_aload_n 27 C dX5_pull_26 rfl rfl ?_
        refine g_iconst 28 C dX5_pull_27 rfl ?_
        refine g_V1r 31 0 0 C dX5_pull_28 rfl lk_RX5_39 gi_X5_fails gv_X5_fails ⟨_, _, rfl⟩ (by omega) m1 ⟨⟨by decide, by decide⟩, by decide, by decide⟩ (Nat.le_of_ble_eq_true rfl) rfl rfl rfl (c_X5_fails m (gup g 6 0) hs 1 (by omega) x1) g_no (fun h2 e28 => ?_)
        obtain ⟨n1, n2⟩ := e28
        exact g_iret C dX5_pull_31 rfl ⟨by decide, by decide⟩ (mret (by unfold oPull; exact if_neg (by omega)) rfl ⟨_, _, _, _, X1.obj n1 n2 (gup_ne (by decide)) (gup_ne (by decide)), gup_at⟩ (gKp_tr K1 (gKp_wd n2 (by omega) (by omega))))
