/-! SiblingJoinsModel: forget, the constructor -/
set_option maxRecDepth 100000 in
set_option maxHeartbeats 4000000 in
theorem c_X5_forget {E : gEnv} {n : Nat} {σ : Option Nat} {h : gH} (m : Nat) (T : gTt) (c0 : Int) (w k : Int) (hmb : gB E ≤ m ∧ m + 7 ≤ gB E + n) (hM : isM E h m T c0) (hok : okT T) (hI : gIv T.1) (hwr : -2147483648 ≤ w ∧ w < 2147483648) (hkr : -2147483648 ≤ k ∧ k < 2147483648) : gM E mX5_forget [.ref m, .int (gi w), .int (gi k)] n σ h (gRM E h m n σ (oForget T w k)) (gNo) := by
  obtain ⟨g, hs, f, fp, X0, -⟩ := hM
  have m0 := X0.1
  unfold isMo at m0
  have hokS := hok.1
  refine gM_of (by decide) (Nat.le_of_ble_eq_true rfl) (fun F C => ?_)
  refine g_aload_n 1 C dX5_forget_0 rfl rfl ?_
  refine g_iconst 2 C dX5_forget_1 rfl ?_
  refine g_putf 5 C dX5_forget_2 fp_RX5_32 rfl (by omega) m0 rfl rfl (Nat.le_of_ble_eq_true rfl) rfl ?_
  refine g_ab (fun z => isMx E z m T (gup g 6 0) hs f fp ∧ gKp m (m + 7) h z) ⟨X0.obj up_s (gKp_up (by omega)) (gup_ne (by decide)) (gup_ne (by decide)), gKp_up (by omega)⟩ (fun h1 q1 => ?_)
  obtain ⟨X1, K1⟩ := q1
  obtain ⟨x1, z1, x3, ⟨fs, x4⟩, x5, x6, x7, ⟨ft, x8, x8e⟩, x9, ⟨fm, x10⟩, ⟨fo, x11⟩⟩ := id X1
  have m1 := x1
  unfold isMo at m1
  have g6 : gup g 6 0 6 = 0 := gup_at
  refine g_iload_n 6 C dX5_forget_5 rfl rfl ?_
  refine g_S1r 9 0 0 C dX5_forget_6 rfl lk_RX5_82 gs_X5_isWriter ⟨⟨by decide, by decide⟩, by decide, by decide⟩ (Nat.le_of_ble_eq_true rfl) rfl rfl rfl (c_X5_isWriter w hwr) g_no (fun h9 e6 => ?_)
  replace e6 := e6.symm
  subst e6
  refine g_if_eq 19 12 C dX5_forget_9 rfl rfl (gbi_r _) (fun c9 => ?_) (fun c9 => ?_)
  · skip
    have w9 := of_decide_eq_false (gbi_0 c9)
    refine g_aload_n 20 C dX5_forget_19 rfl rfl ?_
    refine g_iconst 21 C dX5_forget_20 rfl ?_
    refine g_V1r 24 0 0 C dX5_forget_21 rfl lk_RX5_39 gi_X5_fails gv_X5_fails ⟨_, _, rfl⟩ (by omega) m1 ⟨⟨by decide, by decide⟩, by decide, by decide⟩ (Nat.le_of_ble_eq_true rfl) rfl rfl rfl (c_X5_fails m (gup g 6 0) hs 1 (by omega) x1) g_no (fun h2 e21 => ?_)
    obtain ⟨n1, n2⟩ := e21
    exact g_iret C dX5_forget_24 rfl ⟨by decide, by decide⟩ (mret (by unfold oForget; exact if_neg (by omega)) rfl ⟨_, _, _, _, X1.obj n1 n2 (gup_ne (by decide)) (gup_ne (by decide)), gup_at⟩ (gKp_tr K1 (gKp_wd n2 (by omega) (by omega))))
  · skip
    have w9 := of_decide_eq_true (gbi_1 c9)
    refine g_iload_n 13 C dX5_forget_12 rfl rfl ?_
    refine g_S1r 16 0 0 C dX5_forget_13 rfl lk_RX5_86 gs_X5_isKey ⟨⟨by decide, by decide⟩, by decide, by decide⟩ (Nat.le_of_ble_eq_true rfl) rfl rfl rfl (c_X5_isKey k hkr) g_no (fun h9 e13 => ?_)
    replace e13 := e13.symm
    subst e13
    refine g_if_ne 25 19 C dX5_forget_16 rfl rfl (gbi_r _) (fun c16 => ?_) (fun c16 => ?_)
    · skip
      have w16 := of_decide_eq_true (gbi_1 c16)
      have hRk := x3.1 k (by omega) (by omega)
      have hoK := hokS k (by omega) (by omega)
      refine g_aload_n 26 C dX5_forget_25 rfl rfl ?_
      refine g_iload_n 27 C dX5_forget_26 rfl rfl ?_
      refine g_iload_n 28 C dX5_forget_27 rfl rfl ?_
      refine g_V2r 31 0 0 C dX5_forget_28 rfl lk_RX5_109 gi_X5_why gv_X5_why ⟨_, _, rfl⟩ (by omega) m1 ⟨⟨by decide, by decide⟩, by decide, by decide⟩ (Nat.le_of_ble_eq_true rfl) rfl rfl rfl (c_X5_why m (gup g 6 0) hs f k (T.1.1 k) w hmb x1 z1 (by omega) hRk hoK (by omega)) g_no (fun h9 e28 => ?_)
      replace e28 := e28.symm
      subst e28
      have hhr := hind_r (T.1.1 k) w
      refine g_if_le 40 34 C dX5_forget_31 rfl rfl (by omega) (fun c31 => ?_) (fun c31 => ?_)
      · skip
        have h0 : hind (T.1.1 k) w = 0 := by omega
        refine g_aload_n 41 C dX5_forget_40 rfl rfl ?_
        refine g_aload_n 42 C dX5_forget_41 rfl rfl ?_
        refine g_getf 45 C dX5_forget_42 fl_RX5_7 rfl (by omega) m1 rfl rfl ?_
        refine g_V1v 48 0 0 C dX5_forget_45 rfl lk_RX5_95 gi_X5_saves gv_X5_saves ⟨_, _, rfl⟩ (by omega) m1 ⟨⟨by decide, by decide⟩, by decide, by decide⟩ (Nat.le_of_ble_eq_true rfl) rfl rfl rfl (c_X5_saves m (gup g 6 0) hs fp T.2.1 (m + 1) f T.1 hmb x1 x5 x6 hok.2.1 x7 hok.2.2.1 (Or.inl rfl) z1 x3 hokS) g_no (fun h2 e45 => ?_)
        obtain ⟨y1, ⟨fp2, y2, y3⟩, y4⟩ := e45
        have X2 : isMx E h2 m (tSave T) (gup (gup g 6 0) 3 (((tDrop T.2.1).1 : Int) + 1)) hs f fp2 := X1.sav y1 y2 y3 y4 gup_at (gup_ne (by decide))
        have K2 : gKp m (m + 7) h h2 := gKp_tr K1 (fun q hq => y4 q (by omega) (by omega))
        have g62 : gup (gup g 6 0) 3 (((tDrop T.2.1).1 : Int) + 1) 6 = 0 := (gup_ne (by decide)).trans g6
        obtain ⟨x1, z1, x3, ⟨fs, x4⟩, x5, x6, x7, ⟨ft, x8, x8e⟩, x9, ⟨fm, x10⟩, ⟨fo, x11⟩⟩ := id X2
        have m1 := x1
        unfold isMo at m1
        have x3 : Rz f T.1 := x3
        refine g_iconst 49 C dX5_forget_48 rfl ?_
        refine g_istore_n 50 [(3, _), (0, _), (1, _), (2, _)] C dX5_forget_49 (by decide) rfl rfl ?_
        have lp50 : ∀ (k9 : Nat) (i : Nat) (h3 : gH) (f3 : Int → Int), (i ≤ 3) → (h3 (m + 1) = gI E 311 f3) → (gKp (m + 1) (m + 2) h2 h3) → (∀ j : Int, 0 ≤ j → j < (i : Int) → f3 (90 + 15 * k + 5 * j + w) = 0) → (∀ x9 : Int, (∀ j : Int, 0 ≤ j → j < (i : Int) → x9 ≠ (90 + 15 * k + 5 * j + w)) → f3 x9 = f x9) → 3 - i < k9 → G E F mX5_forget (gQ E F mX5_forget n (gRM E h m n σ (oForget T w k)) (gNo)) n σ h3 0 0 50 [(3, .int (gi (i : Int))), (0, .ref m), (1, .int (gi w)), (2, .int (gi k))] [] := by
          intro k9
          induction k9 with
          | zero => intro i h3 f3 hi z3 hk3 hA hF h0; exact absurd h0 (Nat.not_lt_zero _)
          | succ k9 ih50 =>
            intro i h3 f3 hi z3 hk3 hA hF hk50
            have m3 := (hk3 m (by omega)).trans m1
            refine g_iload_n 51 C dX5_forget_50 rfl rfl ?_
            refine g_iconst 52 C dX5_forget_51 rfl ?_
            refine g_icmp_ge 74 55 C dX5_forget_52 rfl rfl (by omega) (by omega) (fun c52 => ?_) (fun c52 => ?_)
            · skip
              have hi3 : i = 3 := by omega
              subst hi3
              refine g_iconst 75 C dX5_forget_74 rfl ?_
              refine g_istore_n 76 [(3, _), (0, _), (1, _), (2, _)] C dX5_forget_75 (by decide) rfl rfl ?_
              have lp76 : ∀ (k9 : Nat) (i : Nat) (h4 : gH) (f4 : Int → Int), (i ≤ 5) → (h4 (m + 1) = gI E 311 f4) → (gKp (m + 1) (m + 2) h2 h4) → (∀ j : Int, 0 ≤ j → j < (i : Int) → f4 (15 + 25 * k + 5 * j + w) = 0) → (∀ x9 : Int, (∀ j : Int, 0 ≤ j → j < (i : Int) → x9 ≠ (15 + 25 * k + 5 * j + w)) → f4 x9 = f3 x9) → 5 - i < k9 → G E F mX5_forget (gQ E F mX5_forget n (gRM E h m n σ (oForget T w k)) (gNo)) n σ h4 0 0 76 [(3, .int (gi (i : Int))), (0, .ref m), (1, .int (gi w)), (2, .int (gi k))] [] := by
                intro k9
                induction k9 with
                | zero => intro i h4 f4 hi z4 hk4 hA4 hF4 h0; exact absurd h0 (Nat.not_lt_zero _)
                | succ k9 ih76 =>
                  intro i h4 f4 hi z4 hk4 hA4 hF4 hk76
                  have m4 := (hk4 m (by omega)).trans m1
                  refine g_iload_n 77 C dX5_forget_76 rfl rfl ?_
                  refine g_iconst 78 C dX5_forget_77 rfl ?_
                  refine g_icmp_ge 100 81 C dX5_forget_78 rfl rfl (by omega) (by omega) (fun c78 => ?_) (fun c78 => ?_)
                  · skip
                    have hi5 : i = 5 := by omega
                    subst hi5
                    have hFF : ∀ x9 : Int, (∀ j : Int, 0 ≤ j → j < 3 → x9 ≠ (90 + 15 * k + 5 * j + w)) → (∀ j : Int, 0 ≤ j → j < 5 → x9 ≠ (15 + 25 * k + 5 * j + w)) → f4 x9 = f x9 := fun x9 p q => (hF4 x9 (fun j j0 j1 => q j j0 (by omega))).trans (hF x9 (fun j j0 j1 => p j j0 (by omega)))
                    have eW : f4 (0 + 5 * k + w) = (T.1.1 k).1 w := (hFF _ (fun j j0 j1 => by omega) (fun j j0 j1 => by omega)).trans (by rw [show 0 + 5 * k + w = 5 * k + w by omega]; exact hRk.1 w (by omega) (by omega))
                    refine g_aload_n 101 C dX5_forget_100 rfl rfl ?_
                    refine g_getf 104 C dX5_forget_101 fl_RX5_7 rfl (by omega) m4 rfl rfl ?_
                    refine g_iload_n 105 C dX5_forget_104 rfl rfl ?_
                    refine g_iload_n 106 C dX5_forget_105 rfl rfl ?_
                    refine g_S2r 109 0 0 C dX5_forget_106 rfl lk_RX5_64 gs_X5_countAt ⟨⟨by decide, by decide⟩, by decide, by decide⟩ (Nat.le_of_ble_eq_true rfl) rfl rfl rfl (c_X5_countAt k w) g_no (fun h9 e106 => ?_)
                    replace e106 := e106.symm
                    subst e106
                    refine g_iald 110 C dX5_forget_109 (by omega) z4 (by omega) (by decide) rfl ?_
                    rw [eW]
                    refine g_istore_n 111 [(3, _), (0, _), (1, _), (2, _)] C dX5_forget_110 (by decide) rfl rfl ?_
                    refine g_aload_n 112 C dX5_forget_111 rfl rfl ?_
                    refine g_getf 115 C dX5_forget_112 fl_RX5_7 rfl (by omega) m4 rfl rfl ?_
                    refine g_iload_n 116 C dX5_forget_115 rfl rfl ?_
                    refine g_iload_n 117 C dX5_forget_116 rfl rfl ?_
                    refine g_S2r 120 0 0 C dX5_forget_117 rfl lk_RX5_64 gs_X5_countAt ⟨⟨by decide, by decide⟩, by decide, by decide⟩ (Nat.le_of_ble_eq_true rfl) rfl rfl rfl (c_X5_countAt k w) g_no (fun h9 e117 => ?_)
                    replace e117 := e117.symm
                    subst e117
                    refine g_iconst 121 C dX5_forget_120 rfl ?_
                    refine g_iast 122 C dX5_forget_121 (by omega) z4 (by omega) (by decide) rfl ?_
                    refine g_ab (fun z => z (m + 1) = gI E 311 (gup f4 (0 + 5 * k + w) 0) ∧ gKp (m + 1) (m + 2) h2 z) ⟨up_s, gKp_tr hk4 (gKp_up (by omega))⟩ (fun h5 q5 => ?_)
                    obtain ⟨z5, hk5⟩ := q5
                    have m5 := (hk5 m (by omega)).trans m1
                    have hcov : ∀ s : Int, 0 ≤ s → s < 3 → ∀ r : Int, 0 ≤ r → r < 5 → gup f4 (0 + 5 * k + w) 0 (90 + 15 * k + 5 * s + r) = gup ((T.1.1 k).2.2.1 s) w 0 r := fun s s0 s3 r r0 r5 => by
                      by_cases e : r = w
                      · rw [e, gup_at, gup_ne (by omega)]
                        exact (hF4 _ (fun j j0 j1 => by omega)).trans (hA s s0 (by omega))
                      · rw [gup_ne e, gup_ne (by omega)]
                        exact (hFF _ (fun j j0 j1 => by omega) (fun j j0 j1 => by omega)).trans (hRk.2.2.1 s s0 s3 r r0 r5)
                    have hkn : ∀ s : Int, 0 ≤ s → s < 5 → ∀ r : Int, 0 ≤ r → r < 5 → gup f4 (0 + 5 * k + w) 0 (15 + 25 * k + 5 * s + r) = gup ((T.1.1 k).2.1 s) w 0 r := fun s s0 s3 r r0 r5 => by
                      by_cases e : r = w
                      · rw [e, gup_at, gup_ne (by omega)]
                        exact hA4 s s0 (by omega)
                      · rw [gup_ne e, gup_ne (by omega)]
                        exact (hFF _ (fun j j0 j1 => by omega) (fun j j0 j1 => by omega)).trans (hRk.2.1 s s0 s3 r r0 r5)
                    have R5 : Rk (gup f4 (0 + 5 * k + w) 0) k (kErase (T.1.1 k) w) := by
                      refine ⟨fun r r0 r5 => ?_, fun s s0 s5 r r0 r5 => hkn s s0 s5 r r0 r5, fun s s0 s3 r r0 r5 => hcov s s0 s3 r r0 r5, fun s s0 s3 => (hRk.2.2.2 s s0 s3).kept (hoK.2.2.2 s s0 s3).1 (fun i i1 i2 => (gup_ne (by omega)).trans (hFF i (fun j j0 j1 => by omega) (fun j j0 j1 => by omega)))⟩
                      show gup f4 (0 + 5 * k + w) 0 (5 * k + r) = gup (T.1.1 k).1 w 0 r
                      by_cases e : r = w
                      · rw [e, gup_at]
                        exact gup_eq (by omega)
                      · rw [gup_ne e, gup_ne (by omega)]
                        exact (hFF _ (fun j j0 j1 => by omega) (fun j j0 j1 => by omega)).trans (hRk.1 r r0 r5)
                    have Z5 := x3.setK (K' := kErase (T.1.1 k) w) hokS (by omega) R5 (fun i i1 i2 i3 i4 => (gup_ne (by omega)).trans (hFF i (fun j j0 j1 => by omega) (fun j j0 j1 => by omega)))
                    have oS5 : okS (tKey T.1 k (kErase (T.1.1 k) w)) := okS_set hokS (okK_erase hoK)
                    have e310 : gup f4 (0 + 5 * k + w) 0 310 = T.1.2 5 := Z5.2 5 (by decide) (by decide)
                    refine g_aload_n 123 C dX5_forget_122 rfl rfl ?_
                    refine g_getf 126 C dX5_forget_123 fl_RX5_7 rfl (by omega) m5 rfl rfl ?_
                    refine g_sipush 129 C dX5_forget_126 (by decide) rfl ?_
                    refine g_dup2 130 C dX5_forget_129 rfl rfl rfl ?_
                    refine g_iald 131 C dX5_forget_130 (by omega) z5 (by omega) (by decide) rfl ?_
                    rw [e310]
                    refine g_iconst 132 C dX5_forget_131 rfl ?_
                    refine g_iadd 133 C dX5_forget_132 rfl ?_
                    refine g_iast 134 C dX5_forget_133 (by omega) z5 (by omega) (by decide) rfl ?_
                    refine g_iload_n 135 C dX5_forget_134 rfl rfl ?_
                    exact g_iret C dX5_forget_135 rfl ⟨by decide, by decide⟩ (mret (by unfold oForget; rw [if_pos (show WK w k by unfold WK; omega)]; exact if_pos h0) rfl ⟨_, _, _, _, X2.zed up_s (Z5.setC (j := 5) (v := T.1.2 5 + 1) oS5 (by decide)) (gKp_tr hk5 (gKp_up (by omega))), g62⟩ (gKp_tr K2 (gKp_tr (gKp_wd hk5 (by omega) (by omega)) (gKp_up (by omega)))))
                  · skip
                    refine g_aload_n 82 C dX5_forget_81 rfl rfl ?_
                    refine g_getf 85 C dX5_forget_82 fl_RX5_7 rfl (by omega) m4 rfl rfl ?_
                    refine g_iload_n 86 C dX5_forget_85 rfl rfl ?_
                    refine g_iload_n 87 C dX5_forget_86 rfl rfl ?_
                    refine g_S2r 90 0 0 C dX5_forget_87 rfl lk_RX5_54 gs_X5_knowsAt ⟨⟨by decide, by decide⟩, by decide, by decide⟩ (Nat.le_of_ble_eq_true rfl) rfl rfl rfl (c_X5_knowsAt k (i : Int)) g_no (fun h9 e87 => ?_)
                    replace e87 := e87.symm
                    subst e87
                    refine g_iload_n 91 C dX5_forget_90 rfl rfl ?_
                    refine g_iadd 92 C dX5_forget_91 rfl ?_
                    refine g_iconst 93 C dX5_forget_92 rfl ?_
                    refine g_iast 94 C dX5_forget_93 (by omega) z4 (by omega) (by decide) rfl ?_
                    have hA8 : ∀ j : Int, 0 ≤ j → j < ((i + 1 : Nat) : Int) → gup f4 (15 + 25 * k + 5 * (i : Int) + w) 0 (15 + 25 * k + 5 * j + w) = 0 := fun j j0 j1 => by
                      by_cases e : j = (i : Int)
                      · exact gup_eq (by omega)
                      · exact (gup_ne (by omega)).trans (hA4 j j0 (by omega))
                    have hF8 : ∀ x9 : Int, (∀ j : Int, 0 ≤ j → j < ((i + 1 : Nat) : Int) → x9 ≠ (15 + 25 * k + 5 * j + w)) → gup f4 (15 + 25 * k + 5 * (i : Int) + w) 0 x9 = f3 x9 := fun x9 z => (gup_ne (z (i : Int) (by omega) (by omega))).trans (hF4 x9 (fun j j0 j1 => z j j0 (by omega)))
                    refine g_iinc 97 [(3, _), (0, _), (1, _), (2, _)] C dX5_forget_94 rfl (by decide) rfl rfl ?_
                    refine g_goto 76 C dX5_forget_97 rfl ?_
                    refine g_loc [(3, _), (0, _), (1, _), (2, _)] ⟨rfl, rfl, rfl, rfl, trivial⟩ ?_
                    exact ih76 (i + 1) _ _ (by omega) up_s (gKp_tr hk4 (gKp_up (by omega))) hA8 hF8 (by omega)
              refine g_loc [(3, _), (0, _), (1, _), (2, _)] ⟨rfl, rfl, rfl, rfl, trivial⟩ ?_
              exact lp76 _ 0 h3 f3 (by omega) z3 hk3 (fun j j0 j1 => absurd j1 (by omega)) (fun _ _ => rfl) (Nat.lt_succ_self _)
            · skip
              refine g_aload_n 56 C dX5_forget_55 rfl rfl ?_
              refine g_getf 59 C dX5_forget_56 fl_RX5_7 rfl (by omega) m3 rfl rfl ?_
              refine g_iload_n 60 C dX5_forget_59 rfl rfl ?_
              refine g_iload_n 61 C dX5_forget_60 rfl rfl ?_
              refine g_S2r 64 0 0 C dX5_forget_61 rfl lk_RX5_75 gs_X5_vectorAt ⟨⟨by decide, by decide⟩, by decide, by decide⟩ (Nat.le_of_ble_eq_true rfl) rfl rfl rfl (c_X5_vectorAt k (i : Int)) g_no (fun h9 e61 => ?_)
              replace e61 := e61.symm
              subst e61
              refine g_iload_n 65 C dX5_forget_64 rfl rfl ?_
              refine g_iadd 66 C dX5_forget_65 rfl ?_
              refine g_iconst 67 C dX5_forget_66 rfl ?_
              refine g_iast 68 C dX5_forget_67 (by omega) z3 (by omega) (by decide) rfl ?_
              have hA8 : ∀ j : Int, 0 ≤ j → j < ((i + 1 : Nat) : Int) → gup f3 (90 + 15 * k + 5 * (i : Int) + w) 0 (90 + 15 * k + 5 * j + w) = 0 := fun j j0 j1 => by
                by_cases e : j = (i : Int)
                · exact gup_eq (by omega)
                · exact (gup_ne (by omega)).trans (hA j j0 (by omega))
              have hF8 : ∀ x9 : Int, (∀ j : Int, 0 ≤ j → j < ((i + 1 : Nat) : Int) → x9 ≠ (90 + 15 * k + 5 * j + w)) → gup f3 (90 + 15 * k + 5 * (i : Int) + w) 0 x9 = f x9 := fun x9 z => (gup_ne (z (i : Int) (by omega) (by omega))).trans (hF x9 (fun j j0 j1 => z j j0 (by omega)))
              refine g_iinc 71 [(3, _), (0, _), (1, _), (2, _)] C dX5_forget_68 rfl (by decide) rfl rfl ?_
              refine g_goto 50 C dX5_forget_71 rfl ?_
              refine g_loc [(3, _), (0, _), (1, _), (2, _)] ⟨rfl, rfl, rfl, rfl, trivial⟩ ?_
              exact ih50 (i + 1) _ _ (by omega) up_s (gKp_tr hk3 (gKp_up (by omega))) hA8 hF8 (by omega)
        refine g_loc [(3, _), (0, _), (1, _), (2, _)] ⟨rfl, rfl, rfl, rfl, trivial⟩ ?_
        exact lp50 _ 0 h2 f (by omega) z1 gKp_rf (fun j j0 j1 => absurd j1 (by omega)) (fun _ _ => rfl) (Nat.lt_succ_self _)
      · skip
        have h0 : ¬ hind (T.1.1 k) w = 0 := by omega
        refine g_aload_n 35 C dX5_forget_34 rfl rfl ?_
        refine g_iconst 36 C dX5_forget_35 rfl ?_
        refine g_V1r 39 0 0 C dX5_forget_36 rfl lk_RX5_39 gi_X5_fails gv_X5_fails ⟨_, _, rfl⟩ (by omega) m1 ⟨⟨by decide, by decide⟩, by decide, by decide⟩ (Nat.le_of_ble_eq_true rfl) rfl rfl rfl (c_X5_fails m (gup g 6 0) hs 2 (by omega) x1) g_no (fun h2 e36 => ?_)
        obtain ⟨n1, n2⟩ := e36
        exact g_iret C dX5_forget_39 rfl ⟨by decide, by decide⟩ (mret (by unfold oForget; rw [if_pos (show WK w k by unfold WK; omega)]; exact if_neg h0) rfl ⟨_, _, _, _, X1.obj n1 n2 (gup_ne (by decide)) (gup_ne (by decide)), gup_at⟩ (gKp_tr K1 (gKp_wd n2 (by omega) (by omega))))
    · skip
      have w16 := of_decide_eq_false (gbi_0 c16)
      refine g_aload_n 20 C dX5_forget_19 rfl rfl ?_
      refine g_iconst 21 C dX5_forget_20 rfl ?_
      refine g_V1r 24 0 0 C dX5_forget_21 rfl lk_RX5_39 gi_X5_fails gv_X5_fails ⟨_, _, rfl⟩ (by omega) m1 ⟨⟨by decide, by decide⟩, by decide, by decide⟩ (Nat.le_of_ble_eq_true rfl) rfl rfl rfl (c_X5_fails m (gup g 6 0) hs 1 (by omega) x1) g_no (fun h2 e21 => ?_)
      obtain ⟨n1, n2⟩ := e21
      exact g_iret C dX5_forget_24 rfl ⟨by decide, by decide⟩ (mret (by unfold oForget; exact if_neg (by omega)) rfl ⟨_, _, _, _, X1.obj n1 n2 (gup_ne (by decide)) (gup_ne (by decide)), gup_at⟩ (gKp_tr K1 (gKp_wd n2 (by omega) (by omega))))
