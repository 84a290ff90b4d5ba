/-! SiblingJoinsModel: the digest -/
set_option maxRecDepth 100000 in
set_option maxHeartbeats 4000000 in
theorem c_X5_mixes {E : gEnv} {n : Nat} {σ : Option Nat} {h : gH} (m : Nat) (g : Int → Int) (hs v : Int64) (hmb : gB E ≤ m ∧ m < gB E + n) (hm : isMo h m g hs) : gM E mX5_mixes [.ref m, .long v] n σ h (gD none n σ (fun h9 => isMo h9 m g (31 * hs + v) ∧ gKp m (m + 1) h h9)) (gNo) := by
  unfold isMo at hm
  refine gM_of (by decide) (Nat.le_of_ble_eq_true rfl) (fun F C => ?_)
  refine g_aload_n 1 C dX5_mixes_0 rfl rfl ?_
  refine g_ldc2l 4 C dX5_mixes_1 ld_RX5_215 rfl ?_
  refine g_aload_n 5 C dX5_mixes_4 rfl rfl ?_
  refine g_getf 8 C dX5_mixes_5 fl_RX5_217 rfl (by omega) hm rfl rfl ?_
  refine g_lmul 9 C dX5_mixes_8 rfl ?_
  refine g_lload_n 10 C dX5_mixes_9 rfl rfl ?_
  refine g_ladd 11 C dX5_mixes_10 rfl ?_
  refine g_putf 14 C dX5_mixes_11 fp_RX5_217 rfl (by omega) hm rfl rfl (Nat.le_of_ble_eq_true rfl) rfl ?_
  exact g_vret C dX5_mixes_14 rfl ⟨by decide, by decide⟩ (⟨rfl, rfl, rfl, up_s, gKp_up (by omega)⟩)
theorem stN_mod (K : gKy) (s : Int) (h : Int64) (p : Nat) (j : Nat) (hj : j < 5) : fldN (fun what => sibF K s (p : Int) what) (stN K s h p) (j + 1) = mxi (fldN (fun what => sibF K s (p : Int) what) (stN K s h p) j) (sibF K s (p : Int) (j : Int)) := rfl
/-- the hash after j of the numbers of a store's siblings -/
def smN (K : gKy) (s : Int) (h : Int64) : Nat → Int64
  | 0 => h
  | i + 1 => mxi (smN K s h i) (sibF K s ((i / 5 : Nat) : Int) ((i % 5 : Nat) : Int))
theorem smN_e (K : gKy) (s : Int) (h : Int64) : ∀ p : Nat, smN K s h (5 * p) = stN K s h p := by
  intro p
  induction p with
  | zero => rfl
  | succ p ih =>
    have e : ∀ j : Nat, j ≤ 5 → smN K s h (5 * p + j) = fldN (fun what => sibF K s (p : Int) what) (stN K s h p) j := by
      intro j
      induction j with
      | zero => intro _; exact ih
      | succ j ihj =>
        intro hj
        show mxi (smN K s h (5 * p + j)) (sibF K s (((5 * p + j) / 5 : Nat) : Int) (((5 * p + j) % 5 : Nat) : Int)) = _
        rw [ihj (by omega), show (5 * p + j) / 5 = p by omega, show (5 * p + j) % 5 = j by omega]
        rfl
    rw [show 5 * (p + 1) = 5 * p + 5 by omega]
    exact e 5 (Nat.le_refl _)
set_option maxRecDepth 100000 in
set_option maxHeartbeats 4000000 in
theorem c_X5_mixesKey {E : gEnv} {n : Nat} {σ : Option Nat} {h : gH} (m : Nat) (g : Int → Int) (hs : Int64) (f : Int → Int) (k : Int) (K : gKy) (hmb : gB E ≤ m ∧ m + 7 ≤ gB E + n) (hm : isMo h m g hs) (hz : h (m + 1) = gI E 311 f) (hk : 0 ≤ k ∧ k < 3) (hR : Rk f k K) (hok : okK K) (hO : okO K)  : gM E mX5_mixesKey [.ref m, .int (gi k)] n σ h (gD none n σ (fun h9 => isMo h9 m g (kMix K hs) ∧ gKp m (m + 1) h h9)) (gNo) := by
  have hm9 := hm
  unfold isMo at hm
  have hR9 := hR
  have hok9 := hok
  obtain ⟨rW, rN, rV, rL⟩ := hR
  obtain ⟨oW, oN, oV, oL⟩ := hok
  have m1 := hm
  have z1 := hz
  refine gM_of (by decide) (Nat.le_of_ble_eq_true rfl) (fun F C => ?_)
  refine g_iconst 1 C dX5_mixesKey_0 rfl ?_
  refine g_istore_n 2 [(2, _), (0, _), (1, _)] C dX5_mixesKey_1 (by decide) rfl rfl ?_
  have lp2 : ∀ (k9 : Nat) (i : Nat) (h1 : gH), (i ≤ 8) → (isMo h1 m g (fldN (keyF K) hs i)) → (gKp m (m + 1) h h1) → 8 - i < k9 → G E F mX5_mixesKey (gQ E F mX5_mixesKey n (gD none n σ (fun h9 => isMo h9 m g (kMix K hs) ∧ gKp m (m + 1) h h9)) (gNo)) n σ h1 0 0 2 [(2, .int (gi (i : Int))), (0, .ref m), (1, .int (gi k))] [] := by
    intro k9
    induction k9 with
    | zero => intro i h1 hi hm1 hk1 h0; exact absurd h0 (Nat.not_lt_zero _)
    | succ k9 ih2 =>
      intro i h1 hi hm1 hk1 hk2
      have m1 := hm1
      unfold isMo at m1
      have z1 := (hk1 (m + 1) (by omega)).trans hz
      refine g_iload_n 3 C dX5_mixesKey_2 rfl rfl ?_
      refine g_bipush 5 C dX5_mixesKey_3 (by decide) rfl ?_
      refine g_icmp_ge 25 8 C dX5_mixesKey_5 rfl rfl (by omega) (by omega) (fun c5 => ?_) (fun c5 => ?_)
      · skip
        have hi8 : i = 8 := by omega
        subst hi8
        refine g_iconst 26 C dX5_mixesKey_25 rfl ?_
        refine g_istore_n 27 [(2, _), (0, _), (1, _)] C dX5_mixesKey_26 (by decide) rfl rfl ?_
        have lp27 : ∀ (k9 : Nat) (i : Nat) (h1 : gH), (i ≤ 3) → (isMo h1 m g (kmB K (fldN (keyF K) hs 8) i)) → (gKp m (m + 1) h h1) → 3 - i < k9 → G E F mX5_mixesKey (gQ E F mX5_mixesKey n (gD none n σ (fun h9 => isMo h9 m g (kMix K hs) ∧ gKp m (m + 1) h h9)) (gNo)) n σ h1 0 0 27 [(2, .int (gi (i : Int))), (0, .ref m), (1, .int (gi k))] [] := by
          intro k9
          induction k9 with
          | zero => intro i h1 hi hm1 hk1 h0; exact absurd h0 (Nat.not_lt_zero _)
          | succ k9 ih27 =>
            intro i h1 hi hm1 hk1 hk27
            have m1 := hm1
            unfold isMo at m1
            have z1 := (hk1 (m + 1) (by omega)).trans hz
            refine g_iload_n 28 C dX5_mixesKey_27 rfl rfl ?_
            refine g_iconst 29 C dX5_mixesKey_28 rfl ?_
            refine g_icmp_ge 105 32 C dX5_mixesKey_29 rfl rfl (by omega) (by omega) (fun c29 => ?_) (fun c29 => ?_)
            · skip
              have hi3 : i = 3 := by omega
              subst hi3
              refine g_iconst 106 C dX5_mixesKey_105 rfl ?_
              refine g_istore_n 107 [(2, _), (0, _), (1, _)] C dX5_mixesKey_106 (by decide) rfl rfl ?_
              have lp107 : ∀ (k9 : Nat) (i : Nat) (h1 : gH), (i ≤ 5) → (isMo h1 m g (kmC K (kmB K (fldN (keyF K) hs 8) 3) i)) → (gKp m (m + 1) h h1) → 5 - i < k9 → G E F mX5_mixesKey (gQ E F mX5_mixesKey n (gD none n σ (fun h9 => isMo h9 m g (kMix K hs) ∧ gKp m (m + 1) h h9)) (gNo)) n σ h1 0 0 107 [(2, .int (gi (i : Int))), (0, .ref m), (1, .int (gi k))] [] := by
                intro k9
                induction k9 with
                | zero => intro i h1 hi hm1 hk1 h0; exact absurd h0 (Nat.not_lt_zero _)
                | succ k9 ih107 =>
                  intro i h1 hi hm1 hk1 hk107
                  have m1 := hm1
                  unfold isMo at m1
                  have z1 := (hk1 (m + 1) (by omega)).trans hz
                  refine g_iload_n 108 C dX5_mixesKey_107 rfl rfl ?_
                  refine g_iconst 109 C dX5_mixesKey_108 rfl ?_
                  refine g_icmp_ge 185 112 C dX5_mixesKey_109 rfl rfl (by omega) (by omega) (fun c109 => ?_) (fun c109 => ?_)
                  · skip
                    have hi5 : i = 5 := by omega
                    subst hi5
                    exact g_vret C dX5_mixesKey_185 rfl ⟨by decide, by decide⟩ (⟨rfl, rfl, rfl, hm1, hk1⟩)
                  · skip
                    refine g_iconst 113 C dX5_mixesKey_112 rfl ?_
                    refine g_istore_n 114 [(3, _), (2, _), (0, _), (1, _)] C dX5_mixesKey_113 (by decide) rfl rfl ?_
                    have lp114 : ∀ (k9 : Nat) (j : Nat) (h1 : gH), (j ≤ 5) → (isMo h1 m g (fldN (K.2.1 (i : Int)) (kmC K (kmB K (fldN (keyF K) hs 8) 3) i) j)) → (gKp m (m + 1) h h1) → 5 - j < k9 → G E F mX5_mixesKey (gQ E F mX5_mixesKey n (gD none n σ (fun h9 => isMo h9 m g (kMix K hs) ∧ gKp m (m + 1) h h9)) (gNo)) n σ h1 0 0 114 [(3, .int (gi (j : Int))), (2, .int (gi (i : Int))), (0, .ref m), (1, .int (gi k))] [] := by
                      intro k9
                      induction k9 with
                      | zero => intro j h1 hj hm1 hk1 h0; exact absurd h0 (Nat.not_lt_zero _)
                      | succ k9 ih114 =>
                        intro j h1 hj hm1 hk1 hk114
                        have m1 := hm1
                        unfold isMo at m1
                        have z1 := (hk1 (m + 1) (by omega)).trans hz
                        refine g_iload_n 115 C dX5_mixesKey_114 rfl rfl ?_
                        refine g_iconst 116 C dX5_mixesKey_115 rfl ?_
                        refine g_icmp_ge 142 119 C dX5_mixesKey_116 rfl rfl (by omega) (by omega) (fun c116 => ?_) (fun c116 => ?_)
                        · skip
                          have hj5 : j = 5 := by omega
                          subst hj5
                          refine g_aload_n 143 C dX5_mixesKey_142 rfl rfl ?_
                          refine g_aload_n 144 C dX5_mixesKey_143 rfl rfl ?_
                          refine g_iload_n 145 C dX5_mixesKey_144 rfl rfl ?_
                          refine g_iload_n 146 C dX5_mixesKey_145 rfl rfl ?_
                          refine g_V2r 149 0 0 C dX5_mixesKey_146 rfl lk_RX5_109 gi_X5_why gv_X5_why ⟨_, _, rfl⟩ (by omega) m1 ⟨⟨by decide, by decide⟩, by decide, by decide⟩ (Nat.le_of_ble_eq_true rfl) rfl rfl rfl (c_X5_why m g (fldN (K.2.1 (i : Int)) (kmC K (kmB K (fldN (keyF K) hs 8) 3) i) 5) f k K (i : Int) hmb hm1 z1 hk hR9 hok9 (by omega)) g_no (fun h9 e146 => ?_)
                          replace e146 := e146.symm
                          subst e146
                          refine g_i2l 150 C dX5_mixesKey_149 rfl ?_
                          refine g_V1v 153 0 0 C dX5_mixesKey_150 rfl lk_RX5_221 gi_X5_mixes gv_X5_mixes ⟨_, _, rfl⟩ (by omega) m1 ⟨⟨by decide, by decide⟩, by decide, by decide⟩ (Nat.le_of_ble_eq_true rfl) rfl rfl rfl (c_X5_mixes m g (fldN (K.2.1 (i : Int)) (kmC K (kmB K (fldN (keyF K) hs 8) 3) i) 5) (gi (hind K (i : Int))).toInt64 (by omega) hm1) g_no (fun h2 e150 => ?_)
                          obtain ⟨hm1, n2⟩ := e150
                          have hk1 := gKp_tr hk1 n2
                          have m1 := hm1
                          unfold isMo at m1
                          have z1 := (hk1 (m + 1) (by omega)).trans hz
                          refine g_aload_n 154 C dX5_mixesKey_153 rfl rfl ?_
                          refine g_aload_n 155 C dX5_mixesKey_154 rfl rfl ?_
                          refine g_iload_n 156 C dX5_mixesKey_155 rfl rfl ?_
                          refine g_iload_n 157 C dX5_mixesKey_156 rfl rfl ?_
                          refine g_iconst 158 C dX5_mixesKey_157 rfl ?_
                          refine g_iconst 159 C dX5_mixesKey_158 rfl ?_
                          refine g_V4r 162 0 0 C dX5_mixesKey_159 rfl lk_RX5_203 gi_X5_written gv_X5_written ⟨_, _, rfl⟩ (by omega) m1 ⟨⟨by decide, by decide⟩, by decide, by decide⟩ (Nat.le_of_ble_eq_true rfl) rfl rfl rfl (c_X5_written m g _ f k K (i : Int) 0 0 hmb hm1 z1 hk hR9 hok9 (by omega) (by omega) (by omega)) g_no (fun h9 e159 => ?_)
                          replace e159 := e159.symm
                          subst e159
                          refine g_i2l 163 C dX5_mixesKey_162 rfl ?_
                          refine g_V1v 166 0 0 C dX5_mixesKey_163 rfl lk_RX5_221 gi_X5_mixes gv_X5_mixes ⟨_, _, rfl⟩ (by omega) m1 ⟨⟨by decide, by decide⟩, by decide, by decide⟩ (Nat.le_of_ble_eq_true rfl) rfl rfl rfl (c_X5_mixes m g _ (gi (wOut K (i : Int) 0 0)).toInt64 (by omega) hm1) g_no (fun h3 e163 => ?_)
                          obtain ⟨hm1, n2⟩ := e163
                          have hk1 := gKp_tr hk1 n2
                          have m1 := hm1
                          unfold isMo at m1
                          have z1 := (hk1 (m + 1) (by omega)).trans hz
                          refine g_aload_n 167 C dX5_mixesKey_166 rfl rfl ?_
                          refine g_aload_n 168 C dX5_mixesKey_167 rfl rfl ?_
                          refine g_iload_n 169 C dX5_mixesKey_168 rfl rfl ?_
                          refine g_iload_n 170 C dX5_mixesKey_169 rfl rfl ?_
                          refine g_iconst 171 C dX5_mixesKey_170 rfl ?_
                          refine g_iconst 172 C dX5_mixesKey_171 rfl ?_
                          refine g_V4r 175 0 0 C dX5_mixesKey_172 rfl lk_RX5_203 gi_X5_written gv_X5_written ⟨_, _, rfl⟩ (by omega) m1 ⟨⟨by decide, by decide⟩, by decide, by decide⟩ (Nat.le_of_ble_eq_true rfl) rfl rfl rfl (c_X5_written m g _ f k K (i : Int) 0 1 hmb hm1 z1 hk hR9 hok9 (by omega) (by omega) (by omega)) g_no (fun h9 e172 => ?_)
                          replace e172 := e172.symm
                          subst e172
                          refine g_i2l 176 C dX5_mixesKey_175 rfl ?_
                          refine g_V1v 179 0 0 C dX5_mixesKey_176 rfl lk_RX5_221 gi_X5_mixes gv_X5_mixes ⟨_, _, rfl⟩ (by omega) m1 ⟨⟨by decide, by decide⟩, by decide, by decide⟩ (Nat.le_of_ble_eq_true rfl) rfl rfl rfl (c_X5_mixes m g _ (gi (wOut K (i : Int) 0 1)).toInt64 (by omega) hm1) g_no (fun h4 e176 => ?_)
                          obtain ⟨n1, n2⟩ := e176
                          have hk2 := gKp_tr hk1 n2
                          refine g_iinc 182 [(2, _), (3, _), (0, _), (1, _)] C dX5_mixesKey_179 rfl (by decide) rfl rfl ?_
                          refine g_goto 107 C dX5_mixesKey_182 rfl ?_
                          refine g_loc [(2, _), (0, _), (1, _)] ⟨rfl, rfl, rfl, trivial⟩ ?_
                          exact ih107 (i + 1) _ (by omega) n1 hk2 (by omega)
                        · skip
                          refine g_aload_n 120 C dX5_mixesKey_119 rfl rfl ?_
                          refine g_aload_n 121 C dX5_mixesKey_120 rfl rfl ?_
                          refine g_getf 124 C dX5_mixesKey_121 fl_RX5_7 rfl (by omega) m1 rfl rfl ?_
                          refine g_iload_n 125 C dX5_mixesKey_124 rfl rfl ?_
                          refine g_iload_n 126 C dX5_mixesKey_125 rfl rfl ?_
                          refine g_S2r 129 0 0 C dX5_mixesKey_126 rfl lk_RX5_54 gs_X5_knowsAt ⟨⟨by decide, by decide⟩, by decide, by decide⟩ (Nat.le_of_ble_eq_true rfl) rfl rfl rfl (c_X5_knowsAt k (i : Int)) g_no (fun h9 e126 => ?_)
                          replace e126 := e126.symm
                          subst e126
                          refine g_iload_n 130 C dX5_mixesKey_129 rfl rfl ?_
                          refine g_iadd 131 C dX5_mixesKey_130 rfl ?_
                          refine g_iald 132 C dX5_mixesKey_131 (by omega) z1 (by omega) (by decide) rfl ?_
                          rw [rN (i : Int) (by omega) (by omega) (j : Int) (by omega) (by omega)]
                          refine g_i2l 133 C dX5_mixesKey_132 rfl ?_
                          refine g_V1v 136 0 0 C dX5_mixesKey_133 rfl lk_RX5_221 gi_X5_mixes gv_X5_mixes ⟨_, _, rfl⟩ (by omega) m1 ⟨⟨by decide, by decide⟩, by decide, by decide⟩ (Nat.le_of_ble_eq_true rfl) rfl rfl rfl (c_X5_mixes m g (fldN (K.2.1 (i : Int)) (kmC K (kmB K (fldN (keyF K) hs 8) 3) i) j) (gi (K.2.1 (i : Int) (j : Int))).toInt64 (by omega) hm1) g_no (fun h2 e133 => ?_)
                          obtain ⟨n1, n2⟩ := e133
                          have hk2 := gKp_tr hk1 n2
                          refine g_iinc 139 [(3, _), (2, _), (0, _), (1, _)] C dX5_mixesKey_136 rfl (by decide) rfl rfl ?_
                          refine g_goto 114 C dX5_mixesKey_139 rfl ?_
                          refine g_loc [(3, _), (2, _), (0, _), (1, _)] ⟨rfl, rfl, rfl, rfl, trivial⟩ ?_
                          exact ih114 (j + 1) _ (by omega) n1 hk2 (by omega)
                    refine g_loc [(3, _), (2, _), (0, _), (1, _)] ⟨rfl, rfl, rfl, rfl, trivial⟩ ?_
                    exact lp114 _ 0 h1 (by omega) hm1 hk1 (Nat.lt_succ_self _)
              refine g_loc [(2, _), (0, _), (1, _)] ⟨rfl, rfl, rfl, trivial⟩ ?_
              exact lp107 _ 0 h1 (by omega) hm1 hk1 (Nat.lt_succ_self _)
            · skip
              have h4i := (oL (i : Int) (by omega) (by omega)).1
              refine g_iconst 33 C dX5_mixesKey_32 rfl ?_
              refine g_istore_n 34 [(3, _), (2, _), (0, _), (1, _)] C dX5_mixesKey_33 (by decide) rfl rfl ?_
              have lp34 : ∀ (k9 : Nat) (j : Nat) (h1 : gH), (j ≤ 5 * (K.2.2.2 (i : Int)).length) → (isMo h1 m g (smN K (i : Int) (kmB K (fldN (keyF K) hs 8) i) j)) → (gKp m (m + 1) h h1) → 5 * (K.2.2.2 (i : Int)).length - j < k9 → G E F mX5_mixesKey (gQ E F mX5_mixesKey n (gD none n σ (fun h9 => isMo h9 m g (kMix K hs) ∧ gKp m (m + 1) h h9)) (gNo)) n σ h1 0 0 34 [(3, .int (gi (j : Int))), (2, .int (gi (i : Int))), (0, .ref m), (1, .int (gi k))] [] := by
                intro k9
                induction k9 with
                | zero => intro j h1 hj hm1 hk1 h0; exact absurd h0 (Nat.not_lt_zero _)
                | succ k9 ih34 =>
                  intro j h1 hj hm1 hk1 hk34
                  have m1 := hm1
                  unfold isMo at m1
                  have z1 := (hk1 (m + 1) (by omega)).trans hz
                  refine g_iload_n 35 C dX5_mixesKey_34 rfl rfl ?_
                  refine g_iconst 36 C dX5_mixesKey_35 rfl ?_
                  refine g_aload_n 37 C dX5_mixesKey_36 rfl rfl ?_
                  refine g_iload_n 38 C dX5_mixesKey_37 rfl rfl ?_
                  refine g_iload_n 39 C dX5_mixesKey_38 rfl rfl ?_
                  refine g_V2r 42 0 0 C dX5_mixesKey_39 rfl lk_RX5_47 gi_X5_siblings gv_X5_siblings ⟨_, _, rfl⟩ (by omega) m1 ⟨⟨by decide, by decide⟩, by decide, by decide⟩ (Nat.le_of_ble_eq_true rfl) rfl rfl rfl (c_X5_siblings m g (smN K (i : Int) (kmB K (fldN (keyF K) hs 8) i) j) f k (i : Int) (K.2.2.2 (i : Int)) hmb hm1 z1 hk (by omega) (rL (i : Int) (by omega) (by omega))) g_no (fun h9 e39 => ?_)
                  replace e39 := e39.symm
                  subst e39
                  refine g_imul 43 C dX5_mixesKey_42 rfl ?_
                  refine g_icmp_ge 69 46 C dX5_mixesKey_43 rfl rfl (by omega) (by omega) (fun c43 => ?_) (fun c43 => ?_)
                  · skip
                    have hjl : j = 5 * (K.2.2.2 (i : Int)).length := by omega
                    rw [hjl, smN_e] at hm1
                    refine g_iconst 70 C dX5_mixesKey_69 rfl ?_
                    refine g_istore_n 71 [(3, _), (2, _), (0, _), (1, _)] C dX5_mixesKey_70 (by decide) rfl rfl ?_
                    have lp71 : ∀ (k9 : Nat) (j : Nat) (h1 : gH), (j ≤ 5) → (isMo h1 m g (fldN (K.2.2.1 (i : Int)) (stN K (i : Int) (kmB K (fldN (keyF K) hs 8) i) (K.2.2.2 (i : Int)).length) j)) → (gKp m (m + 1) h h1) → 5 - j < k9 → G E F mX5_mixesKey (gQ E F mX5_mixesKey n (gD none n σ (fun h9 => isMo h9 m g (kMix K hs) ∧ gKp m (m + 1) h h9)) (gNo)) n σ h1 0 0 71 [(3, .int (gi (j : Int))), (2, .int (gi (i : Int))), (0, .ref m), (1, .int (gi k))] [] := by
                      intro k9
                      induction k9 with
                      | zero => intro j h1 hj hm1 hk1 h0; exact absurd h0 (Nat.not_lt_zero _)
                      | succ k9 ih71 =>
                        intro j h1 hj hm1 hk1 hk71
                        have m1 := hm1
                        unfold isMo at m1
                        have z1 := (hk1 (m + 1) (by omega)).trans hz
                        refine g_iload_n 72 C dX5_mixesKey_71 rfl rfl ?_
                        refine g_iconst 73 C dX5_mixesKey_72 rfl ?_
                        refine g_icmp_ge 99 76 C dX5_mixesKey_73 rfl rfl (by omega) (by omega) (fun c73 => ?_) (fun c73 => ?_)
                        · skip
                          refine g_iinc 102 [(2, _), (3, _), (0, _), (1, _)] C dX5_mixesKey_99 rfl (by decide) rfl rfl ?_
                          refine g_goto 27 C dX5_mixesKey_102 rfl ?_
                          refine g_loc [(2, _), (0, _), (1, _)] ⟨rfl, rfl, rfl, trivial⟩ ?_
                          exact ih27 (i + 1) h1 (by omega) (by rw [show j = 5 by omega] at hm1; exact hm1) hk1 (by omega)
                        · skip
                          refine g_aload_n 77 C dX5_mixesKey_76 rfl rfl ?_
                          refine g_aload_n 78 C dX5_mixesKey_77 rfl rfl ?_
                          refine g_getf 81 C dX5_mixesKey_78 fl_RX5_7 rfl (by omega) m1 rfl rfl ?_
                          refine g_iload_n 82 C dX5_mixesKey_81 rfl rfl ?_
                          refine g_iload_n 83 C dX5_mixesKey_82 rfl rfl ?_
                          refine g_S2r 86 0 0 C dX5_mixesKey_83 rfl lk_RX5_75 gs_X5_vectorAt ⟨⟨by decide, by decide⟩, by decide, by decide⟩ (Nat.le_of_ble_eq_true rfl) rfl rfl rfl (c_X5_vectorAt k (i : Int)) g_no (fun h9 e83 => ?_)
                          replace e83 := e83.symm
                          subst e83
                          refine g_iload_n 87 C dX5_mixesKey_86 rfl rfl ?_
                          refine g_iadd 88 C dX5_mixesKey_87 rfl ?_
                          refine g_iald 89 C dX5_mixesKey_88 (by omega) z1 (by omega) (by decide) rfl ?_
                          rw [rV (i : Int) (by omega) (by omega) (j : Int) (by omega) (by omega)]
                          refine g_i2l 90 C dX5_mixesKey_89 rfl ?_
                          refine g_V1v 93 0 0 C dX5_mixesKey_90 rfl lk_RX5_221 gi_X5_mixes gv_X5_mixes ⟨_, _, rfl⟩ (by omega) m1 ⟨⟨by decide, by decide⟩, by decide, by decide⟩ (Nat.le_of_ble_eq_true rfl) rfl rfl rfl (c_X5_mixes m g (fldN (K.2.2.1 (i : Int)) (stN K (i : Int) (kmB K (fldN (keyF K) hs 8) i) (K.2.2.2 (i : Int)).length) j) (gi (K.2.2.1 (i : Int) (j : Int))).toInt64 (by omega) hm1) g_no (fun h2 e90 => ?_)
                          obtain ⟨n1, n2⟩ := e90
                          have hk2 := gKp_tr hk1 n2
                          refine g_iinc 96 [(3, _), (2, _), (0, _), (1, _)] C dX5_mixesKey_93 rfl (by decide) rfl rfl ?_
                          refine g_goto 71 C dX5_mixesKey_96 rfl ?_
                          refine g_loc [(3, _), (2, _), (0, _), (1, _)] ⟨rfl, rfl, rfl, rfl, trivial⟩ ?_
                          exact ih71 (j + 1) _ (by omega) n1 hk2 (by omega)
                    refine g_loc [(3, _), (2, _), (0, _), (1, _)] ⟨rfl, rfl, rfl, rfl, trivial⟩ ?_
                    exact lp71 _ 0 h1 (by omega) hm1 hk1 (Nat.lt_succ_self _)
                  · skip
                    obtain ⟨y, hy, hyl⟩ := get_of (l := (K.2.2.2 (i : Int))) (i := j / 5) (by omega)
                    refine g_aload_n 47 C dX5_mixesKey_46 rfl rfl ?_
                    refine g_aload_n 48 C dX5_mixesKey_47 rfl rfl ?_
                    refine g_iload_n 49 C dX5_mixesKey_48 rfl rfl ?_
                    refine g_iload_n 50 C dX5_mixesKey_49 rfl rfl ?_
                    refine g_iload_n 51 C dX5_mixesKey_50 rfl rfl ?_
                    refine g_iconst 52 C dX5_mixesKey_51 rfl ?_
                    refine g_idiv 53 C dX5_mixesKey_52 (by omega) (by omega) rfl ?_
                    refine g_iload_n 54 C dX5_mixesKey_53 rfl rfl ?_
                    refine g_iconst 55 C dX5_mixesKey_54 rfl ?_
                    refine g_irem 56 C dX5_mixesKey_55 (by omega) (by omega) rfl ?_
                    rw [show (j : Int) / 5 = ((j / 5 : Nat) : Int) from rfl, show (j : Int) % 5 = ((j % 5 : Nat) : Int) from rfl]
                    refine g_V4r 59 0 0 C dX5_mixesKey_56 rfl lk_RX5_179 gi_X5_ofSibling gv_X5_ofSibling ⟨_, _, rfl⟩ (by omega) m1 ⟨⟨by decide, by decide⟩, by decide, by decide⟩ (Nat.le_of_ble_eq_true rfl) rfl rfl rfl (c_X5_ofSibling m g (smN K (i : Int) (kmB K (fldN (keyF K) hs 8) i) j) f k K (i : Int) (j / 5) ((j % 5 : Nat) : Int) y hmb hm1 z1 hk hR9 hok9 (by omega) hy (by omega)) g_no (fun h9 e56 => ?_)
                    replace e56 := e56.symm
                    subst e56
                    refine g_i2l 60 C dX5_mixesKey_59 rfl ?_
                    refine g_V1v 63 0 0 C dX5_mixesKey_60 rfl lk_RX5_221 gi_X5_mixes gv_X5_mixes ⟨_, _, rfl⟩ (by omega) m1 ⟨⟨by decide, by decide⟩, by decide, by decide⟩ (Nat.le_of_ble_eq_true rfl) rfl rfl rfl (c_X5_mixes m g (smN K (i : Int) (kmB K (fldN (keyF K) hs 8) i) j) (gi (sibF K (i : Int) ((j / 5 : Nat) : Int) ((j % 5 : Nat) : Int))).toInt64 (by omega) hm1) g_no (fun h2 e60 => ?_)
                    obtain ⟨n1, n2⟩ := e60
                    have hk2 := gKp_tr hk1 n2
                    refine g_iinc 66 [(3, _), (2, _), (0, _), (1, _)] C dX5_mixesKey_63 rfl (by decide) rfl rfl ?_
                    refine g_goto 34 C dX5_mixesKey_66 rfl ?_
                    refine g_loc [(3, _), (2, _), (0, _), (1, _)] ⟨rfl, rfl, rfl, rfl, trivial⟩ ?_
                    exact ih34 (j + 1) _ (by omega) n1 hk2 (by omega)
              refine g_loc [(3, _), (2, _), (0, _), (1, _)] ⟨rfl, rfl, rfl, rfl, trivial⟩ ?_
              exact lp34 _ 0 h1 (by omega) hm1 hk1 (Nat.lt_succ_self _)
        refine g_loc [(2, _), (0, _), (1, _)] ⟨rfl, rfl, rfl, trivial⟩ ?_
        exact lp27 _ 0 h1 (by omega) hm1 hk1 (Nat.lt_succ_self _)
      · skip
        refine g_aload_n 9 C dX5_mixesKey_8 rfl rfl ?_
        refine g_aload_n 10 C dX5_mixesKey_9 rfl rfl ?_
        refine g_iload_n 11 C dX5_mixesKey_10 rfl rfl ?_
        refine g_iload_n 12 C dX5_mixesKey_11 rfl rfl ?_
        refine g_V2r 15 0 0 C dX5_mixesKey_12 rfl lk_RX5_197 gi_X5_ofKey gv_X5_ofKey ⟨_, _, rfl⟩ (by omega) m1 ⟨⟨by decide, by decide⟩, by decide, by decide⟩ (Nat.le_of_ble_eq_true rfl) rfl rfl rfl (c_X5_ofKey m g (fldN (keyF K) hs i) f k K (i : Int) hmb hm1 z1 hk hR9 hok9 hO (by omega)) g_no (fun h9 e12 => ?_)
        replace e12 := e12.symm
        subst e12
        refine g_i2l 16 C dX5_mixesKey_15 rfl ?_
        refine g_V1v 19 0 0 C dX5_mixesKey_16 rfl lk_RX5_221 gi_X5_mixes gv_X5_mixes ⟨_, _, rfl⟩ (by omega) m1 ⟨⟨by decide, by decide⟩, by decide, by decide⟩ (Nat.le_of_ble_eq_true rfl) rfl rfl rfl (c_X5_mixes m g (fldN (keyF K) hs i) (gi (keyF K (i : Int))).toInt64 (by omega) hm1) g_no (fun h2 e16 => ?_)
        obtain ⟨n1, n2⟩ := e16
        have hk2 := gKp_tr hk1 n2
        refine g_iinc 22 [(2, _), (0, _), (1, _)] C dX5_mixesKey_19 rfl (by decide) rfl rfl ?_
        refine g_goto 2 C dX5_mixesKey_22 rfl ?_
        refine g_loc [(2, _), (0, _), (1, _)] ⟨rfl, rfl, rfl, trivial⟩ ?_
        exact ih2 (i + 1) _ (by omega) n1 hk2 (by omega)
  refine g_loc [(2, _), (0, _), (1, _)] ⟨rfl, rfl, rfl, trivial⟩ ?_
  exact lp2 _ 0 h (by omega) hm9 gKp_rf (Nat.lt_succ_self _)
