/-! SiblingJoinsModel: pullAll -/
theorem bAr_q {S T : gSt} {q : Nat} (h : bAr S q = some T) : bAr S (q + 1) = bA1 T ((q : Int) / 9) ((q : Int) / 3 % 3) ((q : Int) % 3) := by
  show (bAr S q).bind _ = _
  rw [h]
  rfl
theorem bAr_27 {S : gSt} {q : Nat} (hq : q ≤ 27) (h : bAr S q = none) : bAr S 27 = none := by
  have e := bAr_no h (27 - q)
  rw [show q + (27 - q) = 27 by omega] at e
  exact e
set_option maxRecDepth 100000 in
set_option maxHeartbeats 4000000 in
theorem c_X5_pullAll {E : gEnv} {n : Nat} {σ : Option Nat} {h : gH} (m : Nat) (T : gTt) (c0 : Int) (hmb : gB E ≤ m ∧ m + 7 ≤ gB E + n) (hM : isM E h m T c0) (hok : okT T) (hI : gIv T.1)  : gM E mX5_pullAll [.ref m] n σ h (gRM E h m n σ (oPullAll T)) (gNo) := by
  obtain ⟨g, hs, f, fp, X0, -⟩ := hM
  have m0 := X0.1
  unfold isMo at m0
  have hokS := hok.1
  refine gM_of (by decide) (Nat.le_of_ble_eq_true rfl) (fun F C => ?_)
  refine g_aload_n 1 C dX5_pullAll_0 rfl rfl ?_
  refine g_iconst 2 C dX5_pullAll_1 rfl ?_
  refine g_putf 5 C dX5_pullAll_2 fp_RX5_32 rfl (by omega) m0 rfl rfl (Nat.le_of_ble_eq_true rfl) rfl ?_
  refine g_ab (fun z => isMx E z m T (gup g 6 0) hs f fp ∧ gKp m (m + 7) h z) ⟨X0.obj up_s (gKp_up (by omega)) (gup_ne (by decide)) (gup_ne (by decide)), gKp_up (by omega)⟩ (fun h1 q1 => ?_)
  obtain ⟨X1, K1⟩ := q1
  obtain ⟨x1, z1, x3, ⟨fs, x4⟩, x5, x6, x7, ⟨ft, x8, x8e⟩, x9, ⟨fm, x10⟩, ⟨fo, x11⟩⟩ := id X1
  have m1 := x1
  unfold isMo at m1
  have g6 : gup g 6 0 6 = 0 := gup_at
  refine g_iconst 6 C dX5_pullAll_5 rfl ?_
  refine g_istore_n 7 [(1, _), (0, _)] C dX5_pullAll_6 (by decide) rfl rfl ?_
  have lp7 : ∀ (k9 : Nat) (i : Nat) (h2 : gH) (fs2 : Int → Int), (i ≤ 311) → (h2 (m + 2) = gI E 311 fs2) → (∀ j : Int, 0 ≤ j → j < (i : Int) → fs2 j = f j) → (∀ x9 : Nat, x9 ≠ m + 2 → h2 x9 = h1 x9) → 311 - i < k9 → G E F mX5_pullAll (gQ E F mX5_pullAll n (gRM E h m n σ (oPullAll T)) (gNo)) n σ h2 0 0 7 [(1, .int (gi (i : Int))), (0, .ref m)] [] := by
    intro k9
    induction k9 with
    | zero => intro i h2 fs2 hi y4 hF hk2 h0; exact absurd h0 (Nat.not_lt_zero _)
    | succ k9 ih7 =>
      intro i h2 fs2 hi y4 hF hk2 hk7
      have m2 := (hk2 m (by omega)).trans m1
      have z2 := (hk2 (m + 1) (by omega)).trans z1
      refine g_iload_n 8 C dX5_pullAll_7 rfl rfl ?_
      refine g_sipush 11 C dX5_pullAll_8 (by decide) rfl ?_
      refine g_icmp_ge 32 14 C dX5_pullAll_11 rfl rfl (by omega) (by omega) (fun c11 => ?_) (fun c11 => ?_)
      · skip
        have hi : i = 311 := by omega
        subst hi
        have X2 : isMx E h2 m T (gup g 6 0) hs f fp := ⟨(hk2 _ (by omega)).trans x1, (hk2 _ (by omega)).trans z1, x3, ⟨fs2, y4⟩, (hk2 _ (by omega)).trans x5, x6, x7, ⟨ft, (hk2 _ (by omega)).trans x8, x8e⟩, x9, ⟨fm, (hk2 _ (by omega)).trans x10⟩, ⟨fo, (hk2 _ (by omega)).trans x11⟩⟩
        have K2 : gKp m (m + 7) h h2 := gKp_tr K1 (fun q hq => hk2 q (by omega))
        have Zs : Rz fs2 T.1 := x3.ext hokS (fun j j0 j1 => hF j j0 (by omega))
        refine g_iconst 33 C dX5_pullAll_32 rfl ?_
        refine g_istore_n 34 [(1, _), (0, _)] C dX5_pullAll_33 (by decide) rfl rfl ?_
        refine g_iconst 35 C dX5_pullAll_34 rfl ?_
        refine g_istore_n 36 [(2, _), (1, _), (0, _)] C dX5_pullAll_35 (by decide) rfl rfl ?_
        refine g_iconst 37 C dX5_pullAll_36 rfl ?_
        refine g_istore_n 38 [(3, _), (2, _), (1, _), (0, _)] C dX5_pullAll_37 (by decide) rfl rfl ?_
        have lp38 : ∀ (k9 : Nat) (q : Nat) (h3 : gH) (g3 f3 : Int → Int) (S1 : gSt) (b : Bool), (q ≤ 27) → (isMx E h3 m (S1, T.2) g3 hs f3 fp) → (g3 6 = 0) → (okS S1) → (gIv S1) → (h3 (m + 2) = gI E 311 fs2) → (gKp m (m + 7) h h3) → (b = true → bAr T.1 q = some S1) → (b = false → bAr T.1 q = none) → 27 - q < k9 → G E F mX5_pullAll (gQ E F mX5_pullAll n (gRM E h m n σ (oPullAll T)) (gNo)) n σ h3 0 0 38 [(3, .int (gi (q : Int))), (2, .int (gi (gbi b))), (1, .int (gi (S1.2 3 - T.1.2 3))), (0, .ref m)] [] := by
          intro k9
          induction k9 with
          | zero => intro q h3 g3 f3 S1 b hq X3 g36 hoS1 hI1 hsp K3 hbS hbN h0; exact absurd h0 (Nat.not_lt_zero _)
          | succ k9 ih38 =>
            intro q h3 g3 f3 S1 b hq X3 g36 hoS1 hI1 hsp K3 hbS hbN hk38
            obtain ⟨x1, z1, x3, ⟨fs, x4⟩, x5, x6, x7, ⟨ft, x8, x8e⟩, x9, ⟨fm, x10⟩, ⟨fo, x11⟩⟩ := id X3
            have m1 := x1
            unfold isMo at m1
            refine g_iload_n 39 C dX5_pullAll_38 rfl rfl ?_
            refine g_bipush 41 C dX5_pullAll_39 (by decide) rfl ?_
            refine g_icmp_ge 122 44 C dX5_pullAll_41 rfl rfl (by omega) (by omega) (fun c41 => ?_) (fun c41 => ?_)
            · skip
              have hq27 : q = 27 := by omega
              refine g_iload_n 123 C dX5_pullAll_122 rfl rfl ?_
              refine g_if_ne 159 126 C dX5_pullAll_123 rfl rfl (gbi_r _) (fun c123 => ?_) (fun c123 => ?_)
              · skip
                have hbt := gbi_1 c123
                refine g_aload_n 160 C dX5_pullAll_159 rfl rfl ?_
                refine g_aload_n 161 C dX5_pullAll_160 rfl rfl ?_
                refine g_getf 164 C dX5_pullAll_161 fl_RX5_13 rfl (by omega) m1 rfl rfl ?_
                refine g_V1v 167 0 0 C dX5_pullAll_164 rfl lk_RX5_95 gi_X5_saves gv_X5_saves ⟨_, _, rfl⟩ (by omega) m1 ⟨⟨by decide, by decide⟩, by decide, by decide⟩ (Nat.le_of_ble_eq_true rfl) rfl rfl rfl (c_X5_saves m g3 hs fp T.2.1 (m + 2) fs2 T.1 hmb x1 x5 x6 hok.2.1 x7 hok.2.2.1 (Or.inr rfl) hsp Zs hokS) g_no (fun h7 e164 => ?_)
                obtain ⟨y1, ⟨fp2, y2, y3⟩, y4⟩ := e164
                have X7 := X3.sav (d := (tSave T).2.1) y1 y2 y3 y4 gup_at (gup_ne (by decide))
                have K7 : gKp m (m + 7) h h7 := gKp_tr K3 (fun q hq => y4 q (by omega) (by omega))
                have hs27 := hbS hbt
                rw [hq27] at hs27
                refine g_iload_n 168 C dX5_pullAll_167 rfl rfl ?_
                exact g_iret C dX5_pullAll_168 rfl ⟨by decide, by decide⟩ (mret (by unfold oPullAll; rw [hs27]; rfl) rfl ⟨_, _, _, _, X7, (gup_ne (by decide)).trans g36⟩ K7)
              · skip
                have hbf := gbi_0 c123
                have h27 := hbN hbf
                rw [hq27] at h27
                refine g_iconst 127 C dX5_pullAll_126 rfl ?_
                refine g_istore_n 128 [(3, _), (2, _), (1, _), (0, _)] C dX5_pullAll_127 (by decide) rfl rfl ?_
                have lp128 : ∀ (k9 : Nat) (i : Nat) (h6 : gH) (f6 : Int → Int), (i ≤ 311) → (h6 (m + 1) = gI E 311 f6) → (gKp (m + 1) (m + 2) h3 h6) → (∀ j : Int, 0 ≤ j → j < (i : Int) → f6 j = fs2 j) → 311 - i < k9 → G E F mX5_pullAll (gQ E F mX5_pullAll n (gRM E h m n σ (oPullAll T)) (gNo)) n σ h6 0 0 128 [(3, .int (gi (i : Int))), (0, .ref m)] [] := by
                  intro k9
                  induction k9 with
                  | zero => intro i h6 f6 hi6 z6 hk6 hF6 h0; exact absurd h0 (Nat.not_lt_zero _)
                  | succ k9 ih128 =>
                    intro i h6 f6 hi6 z6 hk6 hF6 hk128
                    have m6 := (hk6 m (by omega)).trans m1
                    have s6 := (hk6 (m + 2) (by omega)).trans hsp
                    refine g_iload_n 129 C dX5_pullAll_128 rfl rfl ?_
                    refine g_sipush 132 C dX5_pullAll_129 (by decide) rfl ?_
                    refine g_icmp_ge 153 135 C dX5_pullAll_132 rfl rfl (by omega) (by omega) (fun c132 => ?_) (fun c132 => ?_)
                    · skip
                      have X6 : isMx E h6 m T g3 hs f6 fp := X3.zed z6 (Zs.ext hokS (fun j j0 j1 => hF6 j j0 (by omega))) hk6
                      refine g_aload_n 154 C dX5_pullAll_153 rfl rfl ?_
                      refine g_iconst 155 C dX5_pullAll_154 rfl ?_
                      refine g_V1r 158 0 0 C dX5_pullAll_155 rfl lk_RX5_39 gi_X5_fails gv_X5_fails ⟨_, _, rfl⟩ (by omega) m6 ⟨⟨by decide, by decide⟩, by decide, by decide⟩ (Nat.le_of_ble_eq_true rfl) rfl rfl rfl (c_X5_fails m g3 hs 1 (by omega) X6.1) g_no (fun h7 e155 => ?_)
                      obtain ⟨n1, n2⟩ := e155
                      exact g_iret C dX5_pullAll_158 rfl ⟨by decide, by decide⟩ (mret (by unfold oPullAll; rw [h27]) rfl ⟨_, _, _, _, X6.obj n1 n2 (gup_ne (by decide)) (gup_ne (by decide)), gup_at⟩ (gKp_tr K3 (gKp_tr (gKp_wd hk6 (by omega) (by omega)) (gKp_wd n2 (by omega) (by omega)))))
                    · skip
                      refine g_aload_n 136 C dX5_pullAll_135 rfl rfl ?_
                      refine g_getf 139 C dX5_pullAll_136 fl_RX5_7 rfl (by omega) m6 rfl rfl ?_
                      refine g_iload_n 140 C dX5_pullAll_139 rfl rfl ?_
                      refine g_aload_n 141 C dX5_pullAll_140 rfl rfl ?_
                      refine g_getf 144 C dX5_pullAll_141 fl_RX5_13 rfl (by omega) m6 rfl rfl ?_
                      refine g_iload_n 145 C dX5_pullAll_144 rfl rfl ?_
                      refine g_iald 146 C dX5_pullAll_145 (by omega) s6 (by omega) (by decide) rfl ?_
                      refine g_iast 147 C dX5_pullAll_146 (by omega) z6 (by omega) (by decide) rfl ?_
                      have hF8 : ∀ j : Int, 0 ≤ j → j < ((i + 1 : Nat) : Int) → gup f6 (i : Int) (fs2 (i : Int)) j = fs2 j := fun j j0 j1 => by
                        by_cases e : j = (i : Int)
                        · rw [e, gup_at]
                        · rw [gup_ne e]
                          exact hF6 j j0 (by omega)
                      refine g_iinc 150 [(3, _), (0, _)] C dX5_pullAll_147 rfl (by decide) rfl rfl ?_
                      refine g_goto 128 C dX5_pullAll_150 rfl ?_
                      refine g_loc [(3, _), (0, _)] ⟨rfl, rfl, trivial⟩ ?_
                      exact ih128 (i + 1) _ _ (by omega) up_s (gKp_tr hk6 (gKp_up (by omega))) hF8 (by omega)
                refine g_loc [(3, _), (0, _)] ⟨rfl, rfl, trivial⟩ ?_
                exact lp128 _ 0 h3 f3 (by omega) z1 gKp_rf (fun j j0 j1 => absurd j1 (by omega)) (Nat.lt_succ_self _)
            · skip
              refine g_iload_n 45 C dX5_pullAll_44 rfl rfl ?_
              refine g_if_eq 122 48 C dX5_pullAll_45 rfl rfl (gbi_r _) (fun c45 => ?_) (fun c45 => ?_)
              · skip
                have hbf := gbi_0 c45
                have hno := hbN hbf
                have h27 := bAr_27 hq hno
                refine g_iload_n 123 C dX5_pullAll_122 rfl rfl ?_
                refine g_if_ne 159 126 C dX5_pullAll_123 rfl rfl (gbi_r _) (fun c123 => ?_) (fun c123 => ?_)
                · skip
                  exact absurd c45 c123
                · skip
                  refine g_iconst 127 C dX5_pullAll_126 rfl ?_
                  refine g_istore_n 128 [(3, _), (2, _), (1, _), (0, _)] C dX5_pullAll_127 (by decide) rfl rfl ?_
                  have lp128 : ∀ (k9 : Nat) (i : Nat) (h6 : gH) (f6 : Int → Int), (i ≤ 311) → (h6 (m + 1) = gI E 311 f6) → (gKp (m + 1) (m + 2) h3 h6) → (∀ j : Int, 0 ≤ j → j < (i : Int) → f6 j = fs2 j) → 311 - i < k9 → G E F mX5_pullAll (gQ E F mX5_pullAll n (gRM E h m n σ (oPullAll T)) (gNo)) n σ h6 0 0 128 [(3, .int (gi (i : Int))), (0, .ref m)] [] := by
                    intro k9
                    induction k9 with
                    | zero => intro i h6 f6 hi6 z6 hk6 hF6 h0; exact absurd h0 (Nat.not_lt_zero _)
                    | succ k9 ih128 =>
                      intro i h6 f6 hi6 z6 hk6 hF6 hk128
                      have m6 := (hk6 m (by omega)).trans m1
                      have s6 := (hk6 (m + 2) (by omega)).trans hsp
                      refine g_iload_n 129 C dX5_pullAll_128 rfl rfl ?_
                      refine g_sipush 132 C dX5_pullAll_129 (by decide) rfl ?_
                      refine g_icmp_ge 153 135 C dX5_pullAll_132 rfl rfl (by omega) (by omega) (fun c132 => ?_) (fun c132 => ?_)
                      · skip
                        have X6 : isMx E h6 m T g3 hs f6 fp := X3.zed z6 (Zs.ext hokS (fun j j0 j1 => hF6 j j0 (by omega))) hk6
                        refine g_aload_n 154 C dX5_pullAll_153 rfl rfl ?_
                        refine g_iconst 155 C dX5_pullAll_154 rfl ?_
                        refine g_V1r 158 0 0 C dX5_pullAll_155 rfl lk_RX5_39 gi_X5_fails gv_X5_fails ⟨_, _, rfl⟩ (by omega) m6 ⟨⟨by decide, by decide⟩, by decide, by decide⟩ (Nat.le_of_ble_eq_true rfl) rfl rfl rfl (c_X5_fails m g3 hs 1 (by omega) X6.1) g_no (fun h7 e155 => ?_)
                        obtain ⟨n1, n2⟩ := e155
                        exact g_iret C dX5_pullAll_158 rfl ⟨by decide, by decide⟩ (mret (by unfold oPullAll; rw [h27]) rfl ⟨_, _, _, _, X6.obj n1 n2 (gup_ne (by decide)) (gup_ne (by decide)), gup_at⟩ (gKp_tr K3 (gKp_tr (gKp_wd hk6 (by omega) (by omega)) (gKp_wd n2 (by omega) (by omega)))))
                      · skip
                        refine g_aload_n 136 C dX5_pullAll_135 rfl rfl ?_
                        refine g_getf 139 C dX5_pullAll_136 fl_RX5_7 rfl (by omega) m6 rfl rfl ?_
                        refine g_iload_n 140 C dX5_pullAll_139 rfl rfl ?_
                        refine g_aload_n 141 C dX5_pullAll_140 rfl rfl ?_
                        refine g_getf 144 C dX5_pullAll_141 fl_RX5_13 rfl (by omega) m6 rfl rfl ?_
                        refine g_iload_n 145 C dX5_pullAll_144 rfl rfl ?_
                        refine g_iald 146 C dX5_pullAll_145 (by omega) s6 (by omega) (by decide) rfl ?_
                        refine g_iast 147 C dX5_pullAll_146 (by omega) z6 (by omega) (by decide) rfl ?_
                        have hF8 : ∀ j : Int, 0 ≤ j → j < ((i + 1 : Nat) : Int) → gup f6 (i : Int) (fs2 (i : Int)) j = fs2 j := fun j j0 j1 => by
                          by_cases e : j = (i : Int)
                          · rw [e, gup_at]
                          · rw [gup_ne e]
                            exact hF6 j j0 (by omega)
                        refine g_iinc 150 [(3, _), (0, _)] C dX5_pullAll_147 rfl (by decide) rfl rfl ?_
                        refine g_goto 128 C dX5_pullAll_150 rfl ?_
                        refine g_loc [(3, _), (0, _)] ⟨rfl, rfl, trivial⟩ ?_
                        exact ih128 (i + 1) _ _ (by omega) up_s (gKp_tr hk6 (gKp_up (by omega))) hF8 (by omega)
                  refine g_loc [(3, _), (0, _)] ⟨rfl, rfl, trivial⟩ ?_
                  exact lp128 _ 0 h3 f3 (by omega) z1 gKp_rf (fun j j0 j1 => absurd j1 (by omega)) (Nat.lt_succ_self _)
              · skip
                have hbt := gbi_1 c45
                have hsome := hbS hbt
                have hnx := bAr_q hsome
                refine g_iload_n 49 C dX5_pullAll_48 rfl rfl ?_
                refine g_iconst 50 C dX5_pullAll_49 rfl ?_
                refine g_idiv 51 C dX5_pullAll_50 (by omega) (by omega) rfl ?_
                refine g_iconst 52 C dX5_pullAll_51 rfl ?_
                refine g_irem 53 C dX5_pullAll_52 (by omega) (by omega) rfl ?_
                refine g_istore 55 [(4, _), (3, _), (2, _), (1, _), (0, _)] C dX5_pullAll_53 (by decide) rfl rfl ?_
                refine g_iload_n 56 C dX5_pullAll_55 rfl rfl ?_
                refine g_iconst 57 C dX5_pullAll_56 rfl ?_
                refine g_irem 58 C dX5_pullAll_57 (by omega) (by omega) rfl ?_
                refine g_istore 60 [(5, _), (4, _), (3, _), (2, _), (1, _), (0, _)] C dX5_pullAll_58 (by decide) rfl rfl ?_
                refine g_iload 62 C dX5_pullAll_60 rfl rfl ?_
                refine g_iload 64 C dX5_pullAll_62 rfl rfl ?_
                refine g_icmp_eq 116 67 C dX5_pullAll_64 rfl rfl (by omega) (by omega) (fun c64 => ?_) (fun c64 => ?_)
                · skip
                  have hb8 := hnx.trans (if_pos c64)
                  have hJ8 := X3
                  have hg8 := g36
                  have ho8 := hoS1
                  have hi8 := hI1
                  have hs8 := hsp
                  have hk8 := K3
                  refine g_iinc 119 [(3, _), (5, _), (4, _), (2, _), (1, _), (0, _)] C dX5_pullAll_116 rfl (by decide) rfl rfl ?_
                  refine g_goto 38 C dX5_pullAll_119 rfl ?_
                  refine g_loc [(3, _), (2, _), (1, _), (0, _)] ⟨rfl, rfl, rfl, rfl, trivial⟩ ?_
                  exact ih38 (q + 1) _ _ _ S1 b (by omega) X3 g36 hoS1 hI1 hsp K3 (fun _ => hb8) (fun z => by rw [hbt] at z; cases z) (by omega)
                · skip
                  refine g_aload_n 68 C dX5_pullAll_67 rfl rfl ?_
                  refine g_iload 70 C dX5_pullAll_68 rfl rfl ?_
                  refine g_iload 72 C dX5_pullAll_70 rfl rfl ?_
                  refine g_iload_n 73 C dX5_pullAll_72 rfl rfl ?_
                  refine g_bipush 75 C dX5_pullAll_73 (by decide) rfl ?_
                  refine g_idiv 76 C dX5_pullAll_75 (by omega) (by omega) rfl ?_
                  have hRk := x3.1 ((q : Int) / 9) (by omega) (by omega)
                  have hoK := hoS1 ((q : Int) / 9) (by omega) (by omega)
                  refine g_V3v 79 0 0 C dX5_pullAll_76 rfl lk_RX5_129 gi_X5_tries gv_X5_tries ⟨_, _, rfl⟩ (by omega) m1 ⟨⟨by decide, by decide⟩, by decide, by decide⟩ (Nat.le_of_ble_eq_true rfl) rfl rfl rfl (c_X5_tries m g3 hs f3 ((q : Int) / 9) (S1.1 ((q : Int) / 9)) fm ((q : Int) / 3 % 3) ((q : Int) % 3) hmb x1 z1 (by omega) hRk hoK (by omega) (by omega) (hI1 ((q : Int) / 9) (by omega) (by omega)).1 x10) g_no (fun h4 e76 => ?_)
                  obtain ⟨g2, f2, t1, t2, t3, t4, t5, t6, t7, t8⟩ := e76
                  have X4 : isMx E h4 m (S1, T.2) g2 hs f3 fp := ⟨t1, (t8 _ (by omega) (by omega)).trans z1, x3, ⟨fs, (t8 _ (by omega) (by omega)).trans x4⟩, (t8 _ (by omega) (by omega)).trans x5, (t5 3 (by decide) (by decide) (by decide)).trans x6, x7, ⟨ft, (t8 _ (by omega) (by omega)).trans x8, x8e⟩, (t5 5 (by decide) (by decide) (by decide)).trans x9, ⟨f2, t6⟩, ⟨fo, (t8 _ (by omega) (by omega)).trans x11⟩⟩
                  have K4 : gKp m (m + 7) h h4 := gKp_tr K3 (fun q hq => t8 q (by omega) (by omega))
                  have g46 : g2 6 = 0 := (t5 6 (by decide) (by decide) (by decide)).trans g36
                  have m4 := t1
                  unfold isMo at m4
                  have s4 := (t8 (m + 2) (by omega) (by omega)).trans hsp
                  have hlen := trL_len (K := (S1.1 ((q : Int) / 9))) (s := ((q : Int) / 3 % 3)) (o := ((q : Int) % 3))
                  have hbd : (trL (S1.1 ((q : Int) / 9)) ((q : Int) / 3 % 3) ((q : Int) % 3)).length ≤ 8 := by
                    unfold trL
                    rw [fIn_len]
                    have z1 := List.length_filter_le (stay ((S1.1 ((q : Int) / 9)).2.2.1 ((q : Int) % 3)) ((S1.1 ((q : Int) / 9)).2.2.2 ((q : Int) % 3))) ((S1.1 ((q : Int) / 9)).2.2.2 ((q : Int) / 3 % 3))
                    have z2 := List.length_filter_le (fun p : Int × Int => isN ((S1.1 ((q : Int) / 9)).2.2.1 ((q : Int) / 3 % 3)) ((S1.1 ((q : Int) / 9)).2.2.2 ((q : Int) / 3 % 3)) p.1) ((S1.1 ((q : Int) / 9)).2.2.2 ((q : Int) % 3))
                    have z3 := (hoK.2.2.2 ((q : Int) / 3 % 3) (by omega) (by omega)).1
                    have z4 := (hoK.2.2.2 ((q : Int) % 3) (by omega) (by omega)).1
                    omega
                  refine g_aload_n 80 C dX5_pullAll_79 rfl rfl ?_
                  refine g_getf 83 C dX5_pullAll_80 fl_RX5_112 rfl (by omega) m4 rfl rfl ?_
                  rw [t2, hlen]
                  refine g_iconst 84 C dX5_pullAll_83 rfl ?_
                  refine g_icmp_gt 91 87 C dX5_pullAll_84 rfl rfl (by omega) (by omega) (fun c84 => ?_) (fun c84 => ?_)
                  · skip
                    have hb8 : bAr T.1 (q + 1) = none := hnx.trans ((if_neg c64).trans (if_neg (show ¬ pOut (S1.1 ((q : Int) / 9)) ((q : Int) / 3 % 3) ((q : Int) % 3) 2 ≤ 4 by omega)))
                    refine g_iconst 92 C dX5_pullAll_91 rfl ?_
                    refine g_istore_n 93 [(2, _), (5, _), (4, _), (3, _), (1, _), (0, _)] C dX5_pullAll_92 (by decide) rfl rfl ?_
                    refine g_iload_n 94 C dX5_pullAll_93 rfl rfl ?_
                    refine g_iload_n 95 C dX5_pullAll_94 rfl rfl ?_
                    refine g_if_eq 113 98 C dX5_pullAll_95 rfl rfl (by omega) (fun c95 => ?_) (fun c95 => ?_)
                    · skip
                      refine g_iconst 114 C dX5_pullAll_113 rfl ?_
                      refine g_iadd 115 C dX5_pullAll_114 rfl ?_
                      refine g_istore_n 116 [(1, _), (2, _), (5, _), (4, _), (3, _), (0, _)] C dX5_pullAll_115 (by decide) rfl rfl ?_
                      refine g_iinc 119 [(3, _), (1, _), (2, _), (5, _), (4, _), (0, _)] C dX5_pullAll_116 rfl (by decide) rfl rfl ?_
                      refine g_goto 38 C dX5_pullAll_119 rfl ?_
                      refine g_loc [(3, _), (2, .int (gi (gbi false))), (1, .int (gi (S1.2 3 - T.1.2 3))), (0, _)] ⟨rfl, rfl, (by show some (Value.int (gi (S1.2 3 - T.1.2 3 + 0))) = some (Value.int (gi (S1.2 3 - T.1.2 3))); rw [Int.add_zero]), rfl, trivial⟩ ?_
                      exact ih38 (q + 1) _ _ _ S1 false (by omega) X4 g46 hoS1 hI1 s4 K4 (fun z => by cases z) (fun _ => hb8) (by omega)
                    · skip
                      exact absurd c95 (by omega)
                  · skip
                    have hp4 : pOut (S1.1 ((q : Int) / 9)) ((q : Int) / 3 % 3) ((q : Int) % 3) 2 ≤ 4 := by omega
                    have hb8 := hnx.trans ((if_neg c64).trans (if_pos hp4))
                    have etk := tk_tr (K := (S1.1 ((q : Int) / 9))) (s := ((q : Int) / 3 % 3)) (o := ((q : Int) % 3)) ((hI1 ((q : Int) / 9) (by omega) (by omega)).1 ((q : Int) % 3) (by omega) (by omega)) (by omega)
                    have olT : okL (trL (S1.1 ((q : Int) / 9)) ((q : Int) / 3 % 3) ((q : Int) % 3)) := by rw [← etk]; exact okL_tkL (hoK.2.2.2 ((q : Int) / 3 % 3) (by omega) (by omega)) (hoK.2.2.2 ((q : Int) % 3) (by omega) (by omega))
                    refine g_iconst 88 C dX5_pullAll_87 rfl ?_
                    refine g_goto 92 C dX5_pullAll_88 rfl ?_
                    refine g_istore_n 93 [(2, _), (5, _), (4, _), (3, _), (1, _), (0, _)] C dX5_pullAll_92 (by decide) rfl rfl ?_
                    refine g_iload_n 94 C dX5_pullAll_93 rfl rfl ?_
                    refine g_iload_n 95 C dX5_pullAll_94 rfl rfl ?_
                    refine g_if_eq 113 98 C dX5_pullAll_95 rfl rfl (by omega) (fun c95 => ?_) (fun c95 => ?_)
                    · skip
                      exact absurd c95 (by omega)
                    · skip
                      refine g_aload_n 99 C dX5_pullAll_98 rfl rfl ?_
                      refine g_iload 101 C dX5_pullAll_99 rfl rfl ?_
                      refine g_iload 103 C dX5_pullAll_101 rfl rfl ?_
                      refine g_iload_n 104 C dX5_pullAll_103 rfl rfl ?_
                      refine g_bipush 106 C dX5_pullAll_104 (by decide) rfl ?_
                      refine g_idiv 107 C dX5_pullAll_106 (by omega) (by omega) rfl ?_
                      refine g_V3r 110 0 0 C dX5_pullAll_107 rfl lk_RX5_132 gi_X5_pulls gv_X5_pulls ⟨_, _, rfl⟩ (by omega) m4 ⟨⟨by decide, by decide⟩, by decide, by decide⟩ (Nat.le_of_ble_eq_true rfl) rfl rfl rfl (c_X5_pulls m g2 hs f3 S1 f2 ((q : Int) / 3 % 3) ((q : Int) % 3) ((q : Int) / 9) (trL (S1.1 ((q : Int) / 9)) ((q : Int) / 3 % 3) ((q : Int) % 3)) hmb t1 ((t8 _ (by omega) (by omega)).trans z1) x3 hoS1 (by omega) (by omega) (by omega) (fun e => c64 e) t6 t7 t2 olT) g_no (fun h5 e107 => ?_)
                      obtain ⟨⟨f5, z5, Z5⟩, k5⟩ := e107
                      rw [show g2 9 = pLost (S1.1 ((q : Int) / 9)) ((q : Int) / 3 % 3) ((q : Int) % 3) from t3] at Z5 ⊢
                      have eS : sPul S1 ((q : Int) / 3 % 3) ((q : Int) % 3) ((q : Int) / 9) (trL (S1.1 ((q : Int) / 9)) ((q : Int) / 3 % 3) ((q : Int) % 3)) (pLost (S1.1 ((q : Int) / 9)) ((q : Int) / 3 % 3) ((q : Int) % 3)) = sBri S1 ((q : Int) / 3 % 3) ((q : Int) % 3) ((q : Int) / 9) := by unfold sPul sBri kTake; rw [etk]; rfl
                      rw [eS] at Z5
                      have hJ8 := X4.zed z5 Z5 k5
                      have hk8 := gKp_tr K4 (gKp_wd k5 (by omega) (by omega))
                      have hs8 := (k5 (m + 2) (by omega)).trans s4
                      have ho8 : okS (sBri S1 ((q : Int) / 3 % 3) ((q : Int) % 3) ((q : Int) / 9)) := okS_set hoS1 (okK_take hoK (by omega) (by omega))
                      have hi8 : gIv (sBri S1 ((q : Int) / 3 % 3) ((q : Int) % 3) ((q : Int) / 9)) := gIv_set hI1 (gIk_take (hI1 ((q : Int) / 9) (by omega) (by omega)) (by omega) (by omega) hp4)
                      refine g_goto 114 C dX5_pullAll_110 rfl ?_
                      refine g_iadd 115 C dX5_pullAll_114 rfl ?_
                      refine g_istore_n 116 [(1, _), (2, _), (5, _), (4, _), (3, _), (0, _)] C dX5_pullAll_115 (by decide) rfl rfl ?_
                      refine g_iinc 119 [(3, _), (1, _), (2, _), (5, _), (4, _), (0, _)] C dX5_pullAll_116 rfl (by decide) rfl rfl ?_
                      refine g_goto 38 C dX5_pullAll_119 rfl ?_
                      refine g_loc [(3, _), (2, .int (gi (gbi true))), (1, .int (gi ((sBri S1 ((q : Int) / 3 % 3) ((q : Int) % 3) ((q : Int) / 9)).2 3 - T.1.2 3))), (0, _)] ⟨rfl, rfl, (by rw [show (sBri S1 ((q : Int) / 3 % 3) ((q : Int) % 3) ((q : Int) / 9)).2 3 = S1.2 3 + pLost (S1.1 ((q : Int) / 9)) ((q : Int) / 3 % 3) ((q : Int) % 3) from (by show gup S1.2 3 _ 3 = _; exact gup_at), show S1.2 3 + pLost (S1.1 ((q : Int) / 9)) ((q : Int) / 3 % 3) ((q : Int) % 3) - T.1.2 3 = S1.2 3 - T.1.2 3 + pLost (S1.1 ((q : Int) / 9)) ((q : Int) / 3 % 3) ((q : Int) % 3) by omega]; rfl), rfl, trivial⟩ ?_
                      exact ih38 (q + 1) _ _ _ (sBri S1 ((q : Int) / 3 % 3) ((q : Int) % 3) ((q : Int) / 9)) true (by omega) hJ8 g46 ho8 hi8 hs8 hk8 (fun _ => hb8) (fun z => by cases z) (by omega)
        refine g_loc [(3, _), (2, _), (1, _), (0, _)] ⟨rfl, rfl, rfl, rfl, trivial⟩ ?_
        refine g_loc [(3, .int (gi ((0 : Nat) : Int))), (2, .int (gi (gbi true))), (1, .int (gi (T.1.2 3 - T.1.2 3))), (0, _)] ⟨rfl, rfl, (by rw [Int.sub_self]; rfl), rfl, trivial⟩ ?_
        exact lp38 _ 0 h2 _ f T.1 true (by omega) X2 g6 hokS hI y4 K2 (fun _ => rfl) (fun z => by cases z) (Nat.lt_succ_self _)
      · skip
        refine g_aload_n 15 C dX5_pullAll_14 rfl rfl ?_
        refine g_getf 18 C dX5_pullAll_15 fl_RX5_13 rfl (by omega) m2 rfl rfl ?_
        refine g_iload_n 19 C dX5_pullAll_18 rfl rfl ?_
        refine g_aload_n 20 C dX5_pullAll_19 rfl rfl ?_
        refine g_getf 23 C dX5_pullAll_20 fl_RX5_7 rfl (by omega) m2 rfl rfl ?_
        refine g_iload_n 24 C dX5_pullAll_23 rfl rfl ?_
        refine g_iald 25 C dX5_pullAll_24 (by omega) z2 (by omega) (by decide) rfl ?_
        refine g_iast 26 C dX5_pullAll_25 (by omega) y4 (by omega) (by decide) rfl ?_
        have hF8 : ∀ j : Int, 0 ≤ j → j < ((i + 1 : Nat) : Int) → gup fs2 (i : Int) (f (i : Int)) j = f j := fun j j0 j1 => by
          by_cases e : j = (i : Int)
          · rw [e, gup_at]
          · rw [gup_ne e]
            exact hF j j0 (by omega)
        refine g_iinc 29 [(1, _), (0, _)] C dX5_pullAll_26 rfl (by decide) rfl rfl ?_
        refine g_goto 7 C dX5_pullAll_29 rfl ?_
        refine g_loc [(1, _), (0, _)] ⟨rfl, rfl, trivial⟩ ?_
        exact ih7 (i + 1) _ _ (by omega) up_s hF8 (fun x9 z => (up_n z).trans (hk2 x9 z)) (by omega)
  refine g_loc [(1, _), (0, _)] ⟨rfl, rfl, trivial⟩ ?_
  exact lp7 _ 0 h1 fs (by omega) x4 (fun j j0 j1 => absurd j1 (by omega)) (fun _ _ => rfl) (Nat.lt_succ_self _)
