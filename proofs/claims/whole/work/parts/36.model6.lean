/-! SiblingJoinsModel: a sibling comes; a writing -/
def Ey (f : Int → Int) (b : Int) (p : Nat) (y : Int × Int) : Prop := f (b + 1 + 3 * (p : Int)) = y.1 / 1000 ∧ f (b + 1 + 3 * (p : Int) + 1) = y.1 % 1000 ∧ f (b + 1 + 3 * (p : Int) + 2) = y.2
theorem Ey.kept {f f1 : Int → Int} {b : Int} {p : Nat} {y : Int × Int} (x : Ey f b p y) (hk : ∀ i : Int, b + 1 + 3 * (p : Int) ≤ i → i < b + 1 + 3 * (p : Int) + 3 → f1 i = f i) : Ey f1 b p y := ⟨(hk _ (by omega) (by omega)).trans x.1, (hk _ (by omega) (by omega)).trans x.2.1, (hk _ (by omega) (by omega)).trans x.2.2⟩
theorem Rp_ins {f : Int → Int} {b : Int} {l : List (Int × Int)} {x : Int × Int} {j : Nat} (hj : j ≤ l.length) (h1 : ∀ (p : Nat) (y : Int × Int), p < j → l[p]? = some y → Ey f b p y) (h2 : ∀ (p : Nat) (y : Int × Int), j ≤ p → l[p]? = some y → Ey f b (p + 1) y ∧ x.1 < y.1) (h3 : Ey f b j x) (h4 : ∀ y, (l.take j).getLast? = some y → ¬ x.1 < y.1) : Rp f b (insr x l) ∧ (insr x l).length = l.length + 1 := by
  have e : insr x l = l.take j ++ x :: l.drop j := by
    have z := insr_of (x := x) (A := l.take j) (B := l.drop j) (fun y hy => by
      obtain ⟨p, hp⟩ := List.getElem?_of_mem hy
      rw [List.getElem?_drop] at hp
      exact (h2 (j + p) y (by omega) hp).2) h4
    rw [List.take_append_drop] at z
    exact z
  have hlt : (l.take j).length = j := by rw [List.length_take]; omega
  refine ⟨fun p y hy => ?_, insr_len⟩
  rw [e] at hy
  by_cases hp : p < j
  · rw [List.getElem?_append_left (by omega), List.getElem?_take_of_lt hp] at hy
    exact h1 p y hp hy
  · rw [List.getElem?_append_right (by omega), hlt] at hy
    by_cases hp2 : p = j
    · subst hp2
      rw [Nat.sub_self] at hy
      cases hy
      exact h3
    · obtain ⟨q, rfl⟩ : ∃ q, p = q + 1 := ⟨p - 1, by omega⟩
      rw [show q + 1 - j = (q - j) + 1 by omega, List.getElem?_cons_succ, List.getElem?_drop, show j + (q - j) = q by omega] at hy
      exact (h2 q y (by omega) hy).1
set_option maxRecDepth 100000 in
set_option maxHeartbeats 4000000 in
theorem c_X5_comes {E : gEnv} {n : Nat} {σ : Option Nat} {h : gH} (m : Nat) (g : Int → Int) (hs : Int64) (f : Int → Int) (k s : Int) (l : List (Int × Int)) (mark value : Int) (hmb : gB E ≤ m ∧ m + 7 ≤ gB E + n) (hm : isMo h m g hs) (hz : h (m + 1) = gI E 311 f) (hk : 0 ≤ k ∧ k < 3) (hss : 0 ≤ s ∧ s < 3) (hl : Rl f (135 + 19 * (3 * k + s)) l) (hol : okL l) (hmk : 0 ≤ mark ∧ mark < 5000)  : gM E mX5_comes [.ref m, .int (gi k), .int (gi s), .int (gi (mark / 1000)), .int (gi (mark % 1000)), .int (gi value)] n σ h (gD (none) n σ (fun h9 => (∃ f9 : Int → Int, h9 (m + 1) = gI E 311 f9 ∧ Rl f9 (135 + 19 * (3 * k + s)) (insr (mark, value) l) ∧ fKp (135 + 19 * (3 * k + s)) 19 f f9) ∧ gKp (m + 1) (m + 2) h h9)) (gNo) := by
  have hm9 := hm
  unfold isMo at hm
  have h4 := hol.1
  have m1 := hm
  have hz1 := hz
  refine gM_of (by decide) (Nat.le_of_ble_eq_true rfl) (fun F C => ?_)
  refine g_aload_n 1 C dX5_comes_0 rfl rfl ?_
  refine g_iload_n 2 C dX5_comes_1 rfl rfl ?_
  refine g_iload_n 3 C dX5_comes_2 rfl rfl ?_
  refine g_V2r 6 0 0 C dX5_comes_3 rfl lk_RX5_47 gi_X5_siblings gv_X5_siblings ⟨_, _, rfl⟩ (by omega) m1 ⟨⟨by decide, by decide⟩, by decide, by decide⟩ (Nat.le_of_ble_eq_true rfl) rfl rfl rfl (c_X5_siblings m g hs f k s l hmb hm9 hz hk hss hl) g_no (fun h9 e3 => ?_)
  replace e3 := e3.symm
  subst e3
  refine g_istore 8 [(6, _), (0, _), (1, _), (2, _), (3, _), (4, _), (5, _)] C dX5_comes_6 (by decide) rfl rfl ?_
  have lp8 : ∀ (k9 : Nat) (j : Nat) (h1 : gH) (f1 : Int → Int), (j ≤ l.length) → (h1 (m + 1) = gI E 311 f1) → (gKp (m + 1) (m + 2) h h1) → (f1 (135 + 19 * (3 * k + s)) = (l.length : Int)) → (∀ (p : Nat) (y : Int × Int), p < j → l[p]? = some y → Ey f1 (135 + 19 * (3 * k + s)) p y) → (∀ (p : Nat) (y : Int × Int), j ≤ p → l[p]? = some y → Ey f1 (135 + 19 * (3 * k + s)) (p + 1) y ∧ mark < y.1) → (∀ i9 : Int, (i9 < (135 + 19 * (3 * k + s)) ∨ (135 + 19 * (3 * k + s)) + 19 ≤ i9) → f1 i9 = f i9) → j < k9 → G E F mX5_comes (gQ E F mX5_comes n (gD (none) n σ (fun h9 => (∃ f9 : Int → Int, h9 (m + 1) = gI E 311 f9 ∧ Rl f9 (135 + 19 * (3 * k + s)) (insr (mark, value) l) ∧ fKp (135 + 19 * (3 * k + s)) 19 f f9) ∧ gKp (m + 1) (m + 2) h h9)) (gNo)) n σ h1 0 0 8 [(6, .int (gi (j : Int))), (0, .ref m), (1, .int (gi k)), (2, .int (gi s)), (3, .int (gi (mark / 1000))), (4, .int (gi (mark % 1000))), (5, .int (gi value))] [] := by
    intro k9
    induction k9 with
    | zero => intro j h1 f1 hj hz1 hk1 hR0 hA hB hC h0; exact absurd h0 (Nat.not_lt_zero _)
    | succ k9 ih8 =>
      intro j h1 f1 hj hz1 hk1 hR0 hA hB hC hk8
      have m1 := (hk1 m (by omega)).trans hm
      refine g_iload 10 C dX5_comes_8 rfl rfl ?_
      refine g_if_le 127 13 C dX5_comes_10 rfl rfl (by omega) (fun c10 => ?_) (fun c10 => ?_)
      · skip
        have hst : ∀ y9, (l.take j).getLast? = some y9 → ¬ mark < y9.1 := fun y9 hy9 => by rw [show j = 0 by omega] at hy9; cases hy9
        refine g_iload_n 128 C dX5_comes_127 rfl rfl ?_
        refine g_iload_n 129 C dX5_comes_128 rfl rfl ?_
        refine g_iload 131 C dX5_comes_129 rfl rfl ?_
        refine g_S3r 134 0 0 C dX5_comes_131 rfl lk_RX5_50 gs_X5_placeAt ⟨⟨by decide, by decide⟩, by decide, by decide⟩ (Nat.le_of_ble_eq_true rfl) rfl rfl rfl (c_X5_placeAt k s ((j : Nat) : Int)) g_no (fun h9 e131 => ?_)
        replace e131 := e131.symm
        subst e131
        refine g_istore 136 [(7, _), (6, _), (0, _), (1, _), (2, _), (3, _), (4, _), (5, _)] C dX5_comes_134 (by decide) rfl rfl ?_
        refine g_aload_n 137 C dX5_comes_136 rfl rfl ?_
        refine g_getf 140 C dX5_comes_137 fl_RX5_7 rfl (by omega) m1 rfl rfl ?_
        refine g_iload 142 C dX5_comes_140 rfl rfl ?_
        refine g_iconst 143 C dX5_comes_142 rfl ?_
        refine g_iadd 144 C dX5_comes_143 rfl ?_
        refine g_iload_n 145 C dX5_comes_144 rfl rfl ?_
        refine g_iast 146 C dX5_comes_145 (by omega) hz1 (by omega) (by decide) rfl ?_
        refine g_ab (fun z => z (m + 1) = gI E 311 (gup f1 (((135 + 19 * (3 * k + s)) + 1 + 3 * ((j : Nat) : Int)) + 0) (mark / 1000)) ∧ gKp (m + 1) (m + 2) h z) ⟨up_s, gKp_tr hk1 (gKp_up (by omega))⟩ (fun h1 q1 => ?_)
        obtain ⟨hz1, hk1⟩ := q1
        have m1 := (hk1 m (by omega)).trans hm
        refine g_aload_n 147 C dX5_comes_146 rfl rfl ?_
        refine g_getf 150 C dX5_comes_147 fl_RX5_7 rfl (by omega) m1 rfl rfl ?_
        refine g_iload 152 C dX5_comes_150 rfl rfl ?_
        refine g_iconst 153 C dX5_comes_152 rfl ?_
        refine g_iadd 154 C dX5_comes_153 rfl ?_
        refine g_iload 156 C dX5_comes_154 rfl rfl ?_
        refine g_iast 157 C dX5_comes_156 (by omega) hz1 (by omega) (by decide) rfl ?_
        refine g_ab (fun z => z (m + 1) = gI E 311 (gup (gup f1 (((135 + 19 * (3 * k + s)) + 1 + 3 * ((j : Nat) : Int)) + 0) (mark / 1000)) (((135 + 19 * (3 * k + s)) + 1 + 3 * ((j : Nat) : Int)) + 1) (mark % 1000)) ∧ gKp (m + 1) (m + 2) h z) ⟨up_s, gKp_tr hk1 (gKp_up (by omega))⟩ (fun h1 q1 => ?_)
        obtain ⟨hz1, hk1⟩ := q1
        have m1 := (hk1 m (by omega)).trans hm
        refine g_aload_n 158 C dX5_comes_157 rfl rfl ?_
        refine g_getf 161 C dX5_comes_158 fl_RX5_7 rfl (by omega) m1 rfl rfl ?_
        refine g_iload 163 C dX5_comes_161 rfl rfl ?_
        refine g_iconst 164 C dX5_comes_163 rfl ?_
        refine g_iadd 165 C dX5_comes_164 rfl ?_
        refine g_iload 167 C dX5_comes_165 rfl rfl ?_
        refine g_iast 168 C dX5_comes_167 (by omega) hz1 (by omega) (by decide) rfl ?_
        refine g_ab (fun z => z (m + 1) = gI E 311 (gup (gup (gup f1 (((135 + 19 * (3 * k + s)) + 1 + 3 * ((j : Nat) : Int)) + 0) (mark / 1000)) (((135 + 19 * (3 * k + s)) + 1 + 3 * ((j : Nat) : Int)) + 1) (mark % 1000)) (((135 + 19 * (3 * k + s)) + 1 + 3 * ((j : Nat) : Int)) + 2) value) ∧ gKp (m + 1) (m + 2) h z) ⟨up_s, gKp_tr hk1 (gKp_up (by omega))⟩ (fun h1 q1 => ?_)
        obtain ⟨hz1, hk1⟩ := q1
        have m1 := (hk1 m (by omega)).trans hm
        refine g_aload_n 169 C dX5_comes_168 rfl rfl ?_
        refine g_getf 172 C dX5_comes_169 fl_RX5_7 rfl (by omega) m1 rfl rfl ?_
        refine g_iload_n 173 C dX5_comes_172 rfl rfl ?_
        refine g_iload_n 174 C dX5_comes_173 rfl rfl ?_
        refine g_S2r 177 0 0 C dX5_comes_174 rfl lk_RX5_43 gs_X5_rowAt ⟨⟨by decide, by decide⟩, by decide, by decide⟩ (Nat.le_of_ble_eq_true rfl) rfl rfl rfl (c_X5_rowAt k s) g_no (fun h9 e174 => ?_)
        replace e174 := e174.symm
        subst e174
        refine g_dup2 178 C dX5_comes_177 rfl rfl rfl ?_
        refine g_iald 179 C dX5_comes_178 (by omega) hz1 (by omega) (by decide) rfl ?_
        rw [show (gup (gup (gup f1 (((135 + 19 * (3 * k + s)) + 1 + 3 * ((j : Nat) : Int)) + 0) (mark / 1000)) (((135 + 19 * (3 * k + s)) + 1 + 3 * ((j : Nat) : Int)) + 1) (mark % 1000)) (((135 + 19 * (3 * k + s)) + 1 + 3 * ((j : Nat) : Int)) + 2) value) (135 + 19 * (3 * k + s)) = (l.length : Int) from ((gup_ne (by omega)).trans ((gup_ne (by omega)).trans (gup_ne (by omega)))).trans hR0]
        refine g_iconst 180 C dX5_comes_179 rfl ?_
        refine g_iadd 181 C dX5_comes_180 rfl ?_
        refine g_iast 182 C dX5_comes_181 (by omega) hz1 (by omega) (by decide) rfl ?_
        exact g_vret C dX5_comes_182 rfl ⟨by decide, by decide⟩ (by
            have hE : f1 (135 + 19 * (3 * k + s)) = (l.length : Int) := hR0
            obtain ⟨r1, r2⟩ := Rp_ins (f := gup (gup (gup (gup f1 (((135 + 19 * (3 * k + s)) + 1 + 3 * ((j : Nat) : Int)) + 0) (mark / 1000)) (((135 + 19 * (3 * k + s)) + 1 + 3 * ((j : Nat) : Int)) + 1) (mark % 1000)) (((135 + 19 * (3 * k + s)) + 1 + 3 * ((j : Nat) : Int)) + 2) value) (135 + 19 * (3 * k + s)) ((l.length : Int) + 1)) (b := (135 + 19 * (3 * k + s))) (x := ((mark, value) : Int × Int)) (j := j) (by omega) (fun p y9 hp hy9 => (hA p y9 (by omega) hy9).kept (fun i9 q1 q2 => (gup_ne (by omega)).trans ((gup_ne (by omega)).trans ((gup_ne (by omega)).trans (gup_ne (by omega)))))) (fun p y9 hp hy9 => ⟨(hB p y9 (by omega) hy9).1.kept (fun i9 q1 q2 => (gup_ne (by omega)).trans ((gup_ne (by omega)).trans ((gup_ne (by omega)).trans (gup_ne (by omega))))), (hB p y9 (by omega) hy9).2⟩) ⟨(gup_ne (by omega)).trans ((gup_ne (by omega)).trans ((gup_ne (by omega)).trans (gup_eq (by omega)))), (gup_ne (by omega)).trans ((gup_ne (by omega)).trans (gup_eq (by omega))), (gup_ne (by omega)).trans (gup_eq (by omega))⟩ hst
            exact ⟨rfl, rfl, rfl, ⟨_, up_s, ⟨by rw [gup_at, r2]; rfl, r1⟩, fun i9 z => ((gup_ne (by omega)).trans ((gup_ne (by omega)).trans ((gup_ne (by omega)).trans (gup_ne (by omega))))).trans (hC i9 z)⟩, gKp_tr hk1 (gKp_up (by omega))⟩)
      · skip
        obtain ⟨q, rfl⟩ : ∃ q, j = q + 1 := ⟨j - 1, by omega⟩
        obtain ⟨y, hy, hyl⟩ := get_of (l := l) (i := q) (by omega)
        obtain ⟨y1, y2, y3⟩ := hA q y (by omega) hy
        have hyo := hol.2 y hyl
        rw [show (q : Int) = ((q + 1 : Nat) : Int) - 1 by omega] at y1 y2 y3
        refine g_aload_n 14 C dX5_comes_13 rfl rfl ?_
        refine g_getf 17 C dX5_comes_14 fl_RX5_7 rfl (by omega) m1 rfl rfl ?_
        refine g_iload_n 18 C dX5_comes_17 rfl rfl ?_
        refine g_iload_n 19 C dX5_comes_18 rfl rfl ?_
        refine g_iload 21 C dX5_comes_19 rfl rfl ?_
        refine g_iconst 22 C dX5_comes_21 rfl ?_
        refine g_isub 23 C dX5_comes_22 rfl ?_
        refine g_S3r 26 0 0 C dX5_comes_23 rfl lk_RX5_50 gs_X5_placeAt ⟨⟨by decide, by decide⟩, by decide, by decide⟩ (Nat.le_of_ble_eq_true rfl) rfl rfl rfl (c_X5_placeAt k s (((q + 1 : Nat) : Int) - 1)) g_no (fun h9 e23 => ?_)
        replace e23 := e23.symm
        subst e23
        refine g_iconst 27 C dX5_comes_26 rfl ?_
        refine g_iadd 28 C dX5_comes_27 rfl ?_
        refine g_iald 29 C dX5_comes_28 (by omega) hz1 (by omega) (by decide) rfl ?_
        rw [Int.add_zero, y1]
        refine g_iload_n 30 C dX5_comes_29 rfl rfl ?_
        refine g_icmp_gt 74 33 C dX5_comes_30 rfl rfl (by omega) (by omega) (fun c30 => ?_) (fun c30 => ?_)
        · skip
          have hgt : mark < y.1 := by omega
          refine g_iconst 75 C dX5_comes_74 rfl ?_
          refine g_istore 77 [(7, _), (6, _), (0, _), (1, _), (2, _), (3, _), (4, _), (5, _)] C dX5_comes_75 (by decide) rfl rfl ?_
          refine g_iload 79 C dX5_comes_77 rfl rfl ?_
          refine g_iconst 80 C dX5_comes_79 rfl ?_
          refine g_icmp_ge 121 83 C dX5_comes_80 rfl rfl (by omega) (by omega) (fun c80 => ?_) (fun c80 => ?_)
          · skip
            exact absurd c80 (by omega)
          · skip
            refine g_aload_n 84 C dX5_comes_83 rfl rfl ?_
            refine g_getf 87 C dX5_comes_84 fl_RX5_7 rfl (by omega) m1 rfl rfl ?_
            refine g_iload_n 88 C dX5_comes_87 rfl rfl ?_
            refine g_iload_n 89 C dX5_comes_88 rfl rfl ?_
            refine g_iload 91 C dX5_comes_89 rfl rfl ?_
            refine g_S3r 94 0 0 C dX5_comes_91 rfl lk_RX5_50 gs_X5_placeAt ⟨⟨by decide, by decide⟩, by decide, by decide⟩ (Nat.le_of_ble_eq_true rfl) rfl rfl rfl (c_X5_placeAt k s ((q + 1 : Nat) : Int)) g_no (fun h9 e91 => ?_)
            replace e91 := e91.symm
            subst e91
            refine g_iload 96 C dX5_comes_94 rfl rfl ?_
            refine g_iadd 97 C dX5_comes_96 rfl ?_
            refine g_aload_n 98 C dX5_comes_97 rfl rfl ?_
            refine g_getf 101 C dX5_comes_98 fl_RX5_7 rfl (by omega) m1 rfl rfl ?_
            refine g_iload_n 102 C dX5_comes_101 rfl rfl ?_
            refine g_iload_n 103 C dX5_comes_102 rfl rfl ?_
            refine g_iload 105 C dX5_comes_103 rfl rfl ?_
            refine g_iconst 106 C dX5_comes_105 rfl ?_
            refine g_isub 107 C dX5_comes_106 rfl ?_
            refine g_S3r 110 0 0 C dX5_comes_107 rfl lk_RX5_50 gs_X5_placeAt ⟨⟨by decide, by decide⟩, by decide, by decide⟩ (Nat.le_of_ble_eq_true rfl) rfl rfl rfl (c_X5_placeAt k s (((q + 1 : Nat) : Int) - 1)) g_no (fun h9 e107 => ?_)
            replace e107 := e107.symm
            subst e107
            refine g_iload 112 C dX5_comes_110 rfl rfl ?_
            refine g_iadd 113 C dX5_comes_112 rfl ?_
            refine g_iald 114 C dX5_comes_113 (by omega) hz1 (by omega) (by decide) rfl ?_
            rw [show f1 (((135 + 19 * (3 * k + s)) + 1 + 3 * (((q + 1 : Nat) : Int) - 1)) + 0) = y.1 / 1000 by rw [Int.add_zero]; exact y1]
            refine g_iast 115 C dX5_comes_114 (by omega) hz1 (by omega) (by decide) rfl ?_
            refine g_ab (fun z => z (m + 1) = gI E 311 (gup f1 (((135 + 19 * (3 * k + s)) + 1 + 3 * ((q + 1 : Nat) : Int)) + 0) (y.1 / 1000)) ∧ gKp (m + 1) (m + 2) h z) ⟨up_s, gKp_tr hk1 (gKp_up (by omega))⟩ (fun h1 q1 => ?_)
            obtain ⟨hz1, hk1⟩ := q1
            have m1 := (hk1 m (by omega)).trans hm
            refine g_iinc 118 [(7, _), (6, _), (0, _), (1, _), (2, _), (3, _), (4, _), (5, _)] C dX5_comes_115 rfl (by decide) rfl rfl ?_
            refine g_goto 77 C dX5_comes_118 rfl ?_
            refine g_iload 79 C dX5_comes_77 rfl rfl ?_
            refine g_iconst 80 C dX5_comes_79 rfl ?_
            refine g_icmp_ge 121 83 C dX5_comes_80 rfl rfl (by omega) (by omega) (fun c80 => ?_) (fun c80 => ?_)
            · skip
              exact absurd c80 (by omega)
            · skip
              refine g_aload_n 84 C dX5_comes_83 rfl rfl ?_
              refine g_getf 87 C dX5_comes_84 fl_RX5_7 rfl (by omega) m1 rfl rfl ?_
              refine g_iload_n 88 C dX5_comes_87 rfl rfl ?_
              refine g_iload_n 89 C dX5_comes_88 rfl rfl ?_
              refine g_iload 91 C dX5_comes_89 rfl rfl ?_
              refine g_S3r 94 0 0 C dX5_comes_91 rfl lk_RX5_50 gs_X5_placeAt ⟨⟨by decide, by decide⟩, by decide, by decide⟩ (Nat.le_of_ble_eq_true rfl) rfl rfl rfl (c_X5_placeAt k s ((q + 1 : Nat) : Int)) g_no (fun h9 e91 => ?_)
              replace e91 := e91.symm
              subst e91
              refine g_iload 96 C dX5_comes_94 rfl rfl ?_
              refine g_iadd 97 C dX5_comes_96 rfl ?_
              refine g_aload_n 98 C dX5_comes_97 rfl rfl ?_
              refine g_getf 101 C dX5_comes_98 fl_RX5_7 rfl (by omega) m1 rfl rfl ?_
              refine g_iload_n 102 C dX5_comes_101 rfl rfl ?_
              refine g_iload_n 103 C dX5_comes_102 rfl rfl ?_
              refine g_iload 105 C dX5_comes_103 rfl rfl ?_
              refine g_iconst 106 C dX5_comes_105 rfl ?_
              refine g_isub 107 C dX5_comes_106 rfl ?_
              refine g_S3r 110 0 0 C dX5_comes_107 rfl lk_RX5_50 gs_X5_placeAt ⟨⟨by decide, by decide⟩, by decide, by decide⟩ (Nat.le_of_ble_eq_true rfl) rfl rfl rfl (c_X5_placeAt k s (((q + 1 : Nat) : Int) - 1)) g_no (fun h9 e107 => ?_)
              replace e107 := e107.symm
              subst e107
              refine g_iload 112 C dX5_comes_110 rfl rfl ?_
              refine g_iadd 113 C dX5_comes_112 rfl ?_
              refine g_iald 114 C dX5_comes_113 (by omega) hz1 (by omega) (by decide) rfl ?_
              rw [show (gup f1 (((135 + 19 * (3 * k + s)) + 1 + 3 * ((q + 1 : Nat) : Int)) + 0) (y.1 / 1000)) (((135 + 19 * (3 * k + s)) + 1 + 3 * (((q + 1 : Nat) : Int) - 1)) + (0 + 1)) = y.1 % 1000 from (gup_ne (by omega)).trans y2]
              refine g_iast 115 C dX5_comes_114 (by omega) hz1 (by omega) (by decide) rfl ?_
              refine g_ab (fun z => z (m + 1) = gI E 311 (gup (gup f1 (((135 + 19 * (3 * k + s)) + 1 + 3 * ((q + 1 : Nat) : Int)) + 0) (y.1 / 1000)) (((135 + 19 * (3 * k + s)) + 1 + 3 * ((q + 1 : Nat) : Int)) + (0 + 1)) (y.1 % 1000)) ∧ gKp (m + 1) (m + 2) h z) ⟨up_s, gKp_tr hk1 (gKp_up (by omega))⟩ (fun h1 q1 => ?_)
              obtain ⟨hz1, hk1⟩ := q1
              have m1 := (hk1 m (by omega)).trans hm
              refine g_iinc 118 [(7, _), (6, _), (0, _), (1, _), (2, _), (3, _), (4, _), (5, _)] C dX5_comes_115 rfl (by decide) rfl rfl ?_
              refine g_goto 77 C dX5_comes_118 rfl ?_
              refine g_iload 79 C dX5_comes_77 rfl rfl ?_
              refine g_iconst 80 C dX5_comes_79 rfl ?_
              refine g_icmp_ge 121 83 C dX5_comes_80 rfl rfl (by omega) (by omega) (fun c80 => ?_) (fun c80 => ?_)
              · skip
                exact absurd c80 (by omega)
              · skip
                refine g_aload_n 84 C dX5_comes_83 rfl rfl ?_
                refine g_getf 87 C dX5_comes_84 fl_RX5_7 rfl (by omega) m1 rfl rfl ?_
                refine g_iload_n 88 C dX5_comes_87 rfl rfl ?_
                refine g_iload_n 89 C dX5_comes_88 rfl rfl ?_
                refine g_iload 91 C dX5_comes_89 rfl rfl ?_
                refine g_S3r 94 0 0 C dX5_comes_91 rfl lk_RX5_50 gs_X5_placeAt ⟨⟨by decide, by decide⟩, by decide, by decide⟩ (Nat.le_of_ble_eq_true rfl) rfl rfl rfl (c_X5_placeAt k s ((q + 1 : Nat) : Int)) g_no (fun h9 e91 => ?_)
                replace e91 := e91.symm
                subst e91
                refine g_iload 96 C dX5_comes_94 rfl rfl ?_
                refine g_iadd 97 C dX5_comes_96 rfl ?_
                refine g_aload_n 98 C dX5_comes_97 rfl rfl ?_
                refine g_getf 101 C dX5_comes_98 fl_RX5_7 rfl (by omega) m1 rfl rfl ?_
                refine g_iload_n 102 C dX5_comes_101 rfl rfl ?_
                refine g_iload_n 103 C dX5_comes_102 rfl rfl ?_
                refine g_iload 105 C dX5_comes_103 rfl rfl ?_
                refine g_iconst 106 C dX5_comes_105 rfl ?_
                refine g_isub 107 C dX5_comes_106 rfl ?_
                refine g_S3r 110 0 0 C dX5_comes_107 rfl lk_RX5_50 gs_X5_placeAt ⟨⟨by decide, by decide⟩, by decide, by decide⟩ (Nat.le_of_ble_eq_true rfl) rfl rfl rfl (c_X5_placeAt k s (((q + 1 : Nat) : Int) - 1)) g_no (fun h9 e107 => ?_)
                replace e107 := e107.symm
                subst e107
                refine g_iload 112 C dX5_comes_110 rfl rfl ?_
                refine g_iadd 113 C dX5_comes_112 rfl ?_
                refine g_iald 114 C dX5_comes_113 (by omega) hz1 (by omega) (by decide) rfl ?_
                rw [show (gup (gup f1 (((135 + 19 * (3 * k + s)) + 1 + 3 * ((q + 1 : Nat) : Int)) + 0) (y.1 / 1000)) (((135 + 19 * (3 * k + s)) + 1 + 3 * ((q + 1 : Nat) : Int)) + (0 + 1)) (y.1 % 1000)) (((135 + 19 * (3 * k + s)) + 1 + 3 * (((q + 1 : Nat) : Int) - 1)) + (0 + 1 + 1)) = y.2 from (gup_ne (by omega)).trans ((gup_ne (by omega)).trans y3)]
                refine g_iast 115 C dX5_comes_114 (by omega) hz1 (by omega) (by decide) rfl ?_
                refine g_ab (fun z => z (m + 1) = gI E 311 (gup (gup (gup f1 (((135 + 19 * (3 * k + s)) + 1 + 3 * ((q + 1 : Nat) : Int)) + 0) (y.1 / 1000)) (((135 + 19 * (3 * k + s)) + 1 + 3 * ((q + 1 : Nat) : Int)) + (0 + 1)) (y.1 % 1000)) (((135 + 19 * (3 * k + s)) + 1 + 3 * ((q + 1 : Nat) : Int)) + (0 + 1 + 1)) y.2) ∧ gKp (m + 1) (m + 2) h z) ⟨up_s, gKp_tr hk1 (gKp_up (by omega))⟩ (fun h1 q1 => ?_)
                obtain ⟨hz1, hk1⟩ := q1
                have m1 := (hk1 m (by omega)).trans hm
                refine g_iinc 118 [(7, _), (6, _), (0, _), (1, _), (2, _), (3, _), (4, _), (5, _)] C dX5_comes_115 rfl (by decide) rfl rfl ?_
                refine g_goto 77 C dX5_comes_118 rfl ?_
                refine g_iload 79 C dX5_comes_77 rfl rfl ?_
                refine g_iconst 80 C dX5_comes_79 rfl ?_
                refine g_icmp_ge 121 83 C dX5_comes_80 rfl rfl (by omega) (by omega) (fun c80 => ?_) (fun c80 => ?_)
                · skip
                  have hR8 : (gup (gup (gup f1 (((135 + 19 * (3 * k + s)) + 1 + 3 * ((q + 1 : Nat) : Int)) + 0) (y.1 / 1000)) (((135 + 19 * (3 * k + s)) + 1 + 3 * ((q + 1 : Nat) : Int)) + (0 + 1)) (y.1 % 1000)) (((135 + 19 * (3 * k + s)) + 1 + 3 * ((q + 1 : Nat) : Int)) + (0 + 1 + 1)) y.2) (135 + 19 * (3 * k + s)) = (l.length : Int) := ((gup_ne (by omega)).trans ((gup_ne (by omega)).trans (gup_ne (by omega)))).trans hR0
                  have hA8 : ∀ (p : Nat) (y9 : Int × Int), p < q → l[p]? = some y9 → Ey (gup (gup (gup f1 (((135 + 19 * (3 * k + s)) + 1 + 3 * ((q + 1 : Nat) : Int)) + 0) (y.1 / 1000)) (((135 + 19 * (3 * k + s)) + 1 + 3 * ((q + 1 : Nat) : Int)) + (0 + 1)) (y.1 % 1000)) (((135 + 19 * (3 * k + s)) + 1 + 3 * ((q + 1 : Nat) : Int)) + (0 + 1 + 1)) y.2) (135 + 19 * (3 * k + s)) p y9 := fun p y9 hp hy9 => (hA p y9 (by omega) hy9).kept (fun i9 q1 q2 => (gup_ne (by omega)).trans ((gup_ne (by omega)).trans (gup_ne (by omega))))
                  have hB8 : ∀ (p : Nat) (y9 : Int × Int), q ≤ p → l[p]? = some y9 → Ey (gup (gup (gup f1 (((135 + 19 * (3 * k + s)) + 1 + 3 * ((q + 1 : Nat) : Int)) + 0) (y.1 / 1000)) (((135 + 19 * (3 * k + s)) + 1 + 3 * ((q + 1 : Nat) : Int)) + (0 + 1)) (y.1 % 1000)) (((135 + 19 * (3 * k + s)) + 1 + 3 * ((q + 1 : Nat) : Int)) + (0 + 1 + 1)) y.2) (135 + 19 * (3 * k + s)) (p + 1) y9 ∧ mark < y9.1 := fun p y9 hp hy9 => by
                    by_cases e : p = q
                    · subst e
                      cases hy.symm.trans hy9
                      exact ⟨⟨(gup_ne (by omega)).trans ((gup_ne (by omega)).trans (gup_eq (by omega))), (gup_ne (by omega)).trans (gup_eq (by omega)), gup_eq (by omega)⟩, hgt⟩
                    · exact ⟨(hB p y9 (by omega) hy9).1.kept (fun i9 q1 q2 => (gup_ne (by omega)).trans ((gup_ne (by omega)).trans (gup_ne (by omega)))), (hB p y9 (by omega) hy9).2⟩
                  have hC8 : ∀ i9 : Int, (i9 < (135 + 19 * (3 * k + s)) ∨ (135 + 19 * (3 * k + s)) + 19 ≤ i9) → (gup (gup (gup f1 (((135 + 19 * (3 * k + s)) + 1 + 3 * ((q + 1 : Nat) : Int)) + 0) (y.1 / 1000)) (((135 + 19 * (3 * k + s)) + 1 + 3 * ((q + 1 : Nat) : Int)) + (0 + 1)) (y.1 % 1000)) (((135 + 19 * (3 * k + s)) + 1 + 3 * ((q + 1 : Nat) : Int)) + (0 + 1 + 1)) y.2) i9 = f i9 := fun i9 z => ((gup_ne (by omega)).trans ((gup_ne (by omega)).trans (gup_ne (by omega)))).trans (hC i9 z)
                  refine g_iinc 124 [(6, _), (7, _), (0, _), (1, _), (2, _), (3, _), (4, _), (5, _)] C dX5_comes_121 rfl (by decide) rfl rfl ?_
                  refine g_goto 8 C dX5_comes_124 rfl ?_
                  refine g_loc [(6, .int (gi (q : Int))), (0, _), (1, _), (2, _), (3, _), (4, _), (5, _)] ⟨(by rw [show (q : Int) = ((q + 1 : Nat) : Int) + -1 by omega]; rfl), rfl, rfl, rfl, rfl, rfl, rfl, trivial⟩ ?_
                  exact ih8 q _ _ (by omega) hz1 hk1 hR8 hA8 hB8 hC8 (by omega)
                · skip
                  exact absurd c80 (by omega)
        · skip
          refine g_aload_n 34 C dX5_comes_33 rfl rfl ?_
          refine g_getf 37 C dX5_comes_34 fl_RX5_7 rfl (by omega) m1 rfl rfl ?_
          refine g_iload_n 38 C dX5_comes_37 rfl rfl ?_
          refine g_iload_n 39 C dX5_comes_38 rfl rfl ?_
          refine g_iload 41 C dX5_comes_39 rfl rfl ?_
          refine g_iconst 42 C dX5_comes_41 rfl ?_
          refine g_isub 43 C dX5_comes_42 rfl ?_
          refine g_S3r 46 0 0 C dX5_comes_43 rfl lk_RX5_50 gs_X5_placeAt ⟨⟨by decide, by decide⟩, by decide, by decide⟩ (Nat.le_of_ble_eq_true rfl) rfl rfl rfl (c_X5_placeAt k s (((q + 1 : Nat) : Int) - 1)) g_no (fun h9 e43 => ?_)
          replace e43 := e43.symm
          subst e43
          refine g_iconst 47 C dX5_comes_46 rfl ?_
          refine g_iadd 48 C dX5_comes_47 rfl ?_
          refine g_iald 49 C dX5_comes_48 (by omega) hz1 (by omega) (by decide) rfl ?_
          rw [Int.add_zero, y1]
          refine g_iload_n 50 C dX5_comes_49 rfl rfl ?_
          refine g_icmp_ne 127 53 C dX5_comes_50 rfl rfl (by omega) (by omega) (fun c50 => ?_) (fun c50 => ?_)
          · skip
            have hst : ∀ y9, (l.take (q + 1)).getLast? = some y9 → ¬ mark < y9.1 := fun y9 hy9 => by
              rw [take_s hy, List.getLast?_concat] at hy9
              cases hy9
              omega
            refine g_iload_n 128 C dX5_comes_127 rfl rfl ?_
            refine g_iload_n 129 C dX5_comes_128 rfl rfl ?_
            refine g_iload 131 C dX5_comes_129 rfl rfl ?_
            refine g_S3r 134 0 0 C dX5_comes_131 rfl lk_RX5_50 gs_X5_placeAt ⟨⟨by decide, by decide⟩, by decide, by decide⟩ (Nat.le_of_ble_eq_true rfl) rfl rfl rfl (c_X5_placeAt k s ((q + 1 : Nat) : Int)) g_no (fun h9 e131 => ?_)
            replace e131 := e131.symm
            subst e131
            refine g_istore 136 [(7, _), (6, _), (0, _), (1, _), (2, _), (3, _), (4, _), (5, _)] C dX5_comes_134 (by decide) rfl rfl ?_
            refine g_aload_n 137 C dX5_comes_136 rfl rfl ?_
            refine g_getf 140 C dX5_comes_137 fl_RX5_7 rfl (by omega) m1 rfl rfl ?_
            refine g_iload 142 C dX5_comes_140 rfl rfl ?_
            refine g_iconst 143 C dX5_comes_142 rfl ?_
            refine g_iadd 144 C dX5_comes_143 rfl ?_
            refine g_iload_n 145 C dX5_comes_144 rfl rfl ?_
            refine g_iast 146 C dX5_comes_145 (by omega) hz1 (by omega) (by decide) rfl ?_
            refine g_ab (fun z => z (m + 1) = gI E 311 (gup f1 (((135 + 19 * (3 * k + s)) + 1 + 3 * ((q + 1 : Nat) : Int)) + 0) (mark / 1000)) ∧ gKp (m + 1) (m + 2) h z) ⟨up_s, gKp_tr hk1 (gKp_up (by omega))⟩ (fun h1 q1 => ?_)
            obtain ⟨hz1, hk1⟩ := q1
            have m1 := (hk1 m (by omega)).trans hm
            refine g_aload_n 147 C dX5_comes_146 rfl rfl ?_
            refine g_getf 150 C dX5_comes_147 fl_RX5_7 rfl (by omega) m1 rfl rfl ?_
            refine g_iload 152 C dX5_comes_150 rfl rfl ?_
            refine g_iconst 153 C dX5_comes_152 rfl ?_
            refine g_iadd 154 C dX5_comes_153 rfl ?_
            refine g_iload 156 C dX5_comes_154 rfl rfl ?_
            refine g_iast 157 C dX5_comes_156 (by omega) hz1 (by omega) (by decide) rfl ?_
            refine g_ab (fun z => z (m + 1) = gI E 311 (gup (gup f1 (((135 + 19 * (3 * k + s)) + 1 + 3 * ((q + 1 : Nat) : Int)) + 0) (mark / 1000)) (((135 + 19 * (3 * k + s)) + 1 + 3 * ((q + 1 : Nat) : Int)) + 1) (mark % 1000)) ∧ gKp (m + 1) (m + 2) h z) ⟨up_s, gKp_tr hk1 (gKp_up (by omega))⟩ (fun h1 q1 => ?_)
            obtain ⟨hz1, hk1⟩ := q1
            have m1 := (hk1 m (by omega)).trans hm
            refine g_aload_n 158 C dX5_comes_157 rfl rfl ?_
            refine g_getf 161 C dX5_comes_158 fl_RX5_7 rfl (by omega) m1 rfl rfl ?_
            refine g_iload 163 C dX5_comes_161 rfl rfl ?_
            refine g_iconst 164 C dX5_comes_163 rfl ?_
            refine g_iadd 165 C dX5_comes_164 rfl ?_
            refine g_iload 167 C dX5_comes_165 rfl rfl ?_
            refine g_iast 168 C dX5_comes_167 (by omega) hz1 (by omega) (by decide) rfl ?_
            refine g_ab (fun z => z (m + 1) = gI E 311 (gup (gup (gup f1 (((135 + 19 * (3 * k + s)) + 1 + 3 * ((q + 1 : Nat) : Int)) + 0) (mark / 1000)) (((135 + 19 * (3 * k + s)) + 1 + 3 * ((q + 1 : Nat) : Int)) + 1) (mark % 1000)) (((135 + 19 * (3 * k + s)) + 1 + 3 * ((q + 1 : Nat) : Int)) + 2) value) ∧ gKp (m + 1) (m + 2) h z) ⟨up_s, gKp_tr hk1 (gKp_up (by omega))⟩ (fun h1 q1 => ?_)
            obtain ⟨hz1, hk1⟩ := q1
            have m1 := (hk1 m (by omega)).trans hm
            refine g_aload_n 169 C dX5_comes_168 rfl rfl ?_
            refine g_getf 172 C dX5_comes_169 fl_RX5_7 rfl (by omega) m1 rfl rfl ?_
            refine g_iload_n 173 C dX5_comes_172 rfl rfl ?_
            refine g_iload_n 174 C dX5_comes_173 rfl rfl ?_
            refine g_S2r 177 0 0 C dX5_comes_174 rfl lk_RX5_43 gs_X5_rowAt ⟨⟨by decide, by decide⟩, by decide, by decide⟩ (Nat.le_of_ble_eq_true rfl) rfl rfl rfl (c_X5_rowAt k s) g_no (fun h9 e174 => ?_)
            replace e174 := e174.symm
            subst e174
            refine g_dup2 178 C dX5_comes_177 rfl rfl rfl ?_
            refine g_iald 179 C dX5_comes_178 (by omega) hz1 (by omega) (by decide) rfl ?_
            rw [show (gup (gup (gup f1 (((135 + 19 * (3 * k + s)) + 1 + 3 * ((q + 1 : Nat) : Int)) + 0) (mark / 1000)) (((135 + 19 * (3 * k + s)) + 1 + 3 * ((q + 1 : Nat) : Int)) + 1) (mark % 1000)) (((135 + 19 * (3 * k + s)) + 1 + 3 * ((q + 1 : Nat) : Int)) + 2) value) (135 + 19 * (3 * k + s)) = (l.length : Int) from ((gup_ne (by omega)).trans ((gup_ne (by omega)).trans (gup_ne (by omega)))).trans hR0]
            refine g_iconst 180 C dX5_comes_179 rfl ?_
            refine g_iadd 181 C dX5_comes_180 rfl ?_
            refine g_iast 182 C dX5_comes_181 (by omega) hz1 (by omega) (by decide) rfl ?_
            exact g_vret C dX5_comes_182 rfl ⟨by decide, by decide⟩ (by
                have hE : f1 (135 + 19 * (3 * k + s)) = (l.length : Int) := hR0
                obtain ⟨r1, r2⟩ := Rp_ins (f := gup (gup (gup (gup f1 (((135 + 19 * (3 * k + s)) + 1 + 3 * ((q + 1 : Nat) : Int)) + 0) (mark / 1000)) (((135 + 19 * (3 * k + s)) + 1 + 3 * ((q + 1 : Nat) : Int)) + 1) (mark % 1000)) (((135 + 19 * (3 * k + s)) + 1 + 3 * ((q + 1 : Nat) : Int)) + 2) value) (135 + 19 * (3 * k + s)) ((l.length : Int) + 1)) (b := (135 + 19 * (3 * k + s))) (x := ((mark, value) : Int × Int)) (j := (q + 1)) (by omega) (fun p y9 hp hy9 => (hA p y9 (by omega) hy9).kept (fun i9 q1 q2 => (gup_ne (by omega)).trans ((gup_ne (by omega)).trans ((gup_ne (by omega)).trans (gup_ne (by omega)))))) (fun p y9 hp hy9 => ⟨(hB p y9 (by omega) hy9).1.kept (fun i9 q1 q2 => (gup_ne (by omega)).trans ((gup_ne (by omega)).trans ((gup_ne (by omega)).trans (gup_ne (by omega))))), (hB p y9 (by omega) hy9).2⟩) ⟨(gup_ne (by omega)).trans ((gup_ne (by omega)).trans ((gup_ne (by omega)).trans (gup_eq (by omega)))), (gup_ne (by omega)).trans ((gup_ne (by omega)).trans (gup_eq (by omega))), (gup_ne (by omega)).trans (gup_eq (by omega))⟩ hst
                exact ⟨rfl, rfl, rfl, ⟨_, up_s, ⟨by rw [gup_at, r2]; rfl, r1⟩, fun i9 z => ((gup_ne (by omega)).trans ((gup_ne (by omega)).trans ((gup_ne (by omega)).trans (gup_ne (by omega))))).trans (hC i9 z)⟩, gKp_tr hk1 (gKp_up (by omega))⟩)
          · skip
            refine g_aload_n 54 C dX5_comes_53 rfl rfl ?_
            refine g_getf 57 C dX5_comes_54 fl_RX5_7 rfl (by omega) m1 rfl rfl ?_
            refine g_iload_n 58 C dX5_comes_57 rfl rfl ?_
            refine g_iload_n 59 C dX5_comes_58 rfl rfl ?_
            refine g_iload 61 C dX5_comes_59 rfl rfl ?_
            refine g_iconst 62 C dX5_comes_61 rfl ?_
            refine g_isub 63 C dX5_comes_62 rfl ?_
            refine g_S3r 66 0 0 C dX5_comes_63 rfl lk_RX5_50 gs_X5_placeAt ⟨⟨by decide, by decide⟩, by decide, by decide⟩ (Nat.le_of_ble_eq_true rfl) rfl rfl rfl (c_X5_placeAt k s (((q + 1 : Nat) : Int) - 1)) g_no (fun h9 e63 => ?_)
            replace e63 := e63.symm
            subst e63
            refine g_iconst 67 C dX5_comes_66 rfl ?_
            refine g_iadd 68 C dX5_comes_67 rfl ?_
            refine g_iald 69 C dX5_comes_68 (by omega) hz1 (by omega) (by decide) rfl ?_
            rw [y2]
            refine g_iload 71 C dX5_comes_69 rfl rfl ?_
            refine g_icmp_le 127 74 C dX5_comes_71 rfl rfl (by omega) (by omega) (fun c71 => ?_) (fun c71 => ?_)
            · skip
              have hst : ∀ y9, (l.take (q + 1)).getLast? = some y9 → ¬ mark < y9.1 := fun y9 hy9 => by
                rw [take_s hy, List.getLast?_concat] at hy9
                cases hy9
                omega
              refine g_iload_n 128 C dX5_comes_127 rfl rfl ?_
              refine g_iload_n 129 C dX5_comes_128 rfl rfl ?_
              refine g_iload 131 C dX5_comes_129 rfl rfl ?_
              refine g_S3r 134 0 0 C dX5_comes_131 rfl lk_RX5_50 gs_X5_placeAt ⟨⟨by decide, by decide⟩, by decide, by decide⟩ (Nat.le_of_ble_eq_true rfl) rfl rfl rfl (c_X5_placeAt k s ((q + 1 : Nat) : Int)) g_no (fun h9 e131 => ?_)
              replace e131 := e131.symm
              subst e131
              refine g_istore 136 [(7, _), (6, _), (0, _), (1, _), (2, _), (3, _), (4, _), (5, _)] C dX5_comes_134 (by decide) rfl rfl ?_
              refine g_aload_n 137 C dX5_comes_136 rfl rfl ?_
              refine g_getf 140 C dX5_comes_137 fl_RX5_7 rfl (by omega) m1 rfl rfl ?_
              refine g_iload 142 C dX5_comes_140 rfl rfl ?_
              refine g_iconst 143 C dX5_comes_142 rfl ?_
              refine g_iadd 144 C dX5_comes_143 rfl ?_
              refine g_iload_n 145 C dX5_comes_144 rfl rfl ?_
              refine g_iast 146 C dX5_comes_145 (by omega) hz1 (by omega) (by decide) rfl ?_
              refine g_ab (fun z => z (m + 1) = gI E 311 (gup f1 (((135 + 19 * (3 * k + s)) + 1 + 3 * ((q + 1 : Nat) : Int)) + 0) (mark / 1000)) ∧ gKp (m + 1) (m + 2) h z) ⟨up_s, gKp_tr hk1 (gKp_up (by omega))⟩ (fun h1 q1 => ?_)
              obtain ⟨hz1, hk1⟩ := q1
              have m1 := (hk1 m (by omega)).trans hm
              refine g_aload_n 147 C dX5_comes_146 rfl rfl ?_
              refine g_getf 150 C dX5_comes_147 fl_RX5_7 rfl (by omega) m1 rfl rfl ?_
              refine g_iload 152 C dX5_comes_150 rfl rfl ?_
              refine g_iconst 153 C dX5_comes_152 rfl ?_
              refine g_iadd 154 C dX5_comes_153 rfl ?_
              refine g_iload 156 C dX5_comes_154 rfl rfl ?_
              refine g_iast 157 C dX5_comes_156 (by omega) hz1 (by omega) (by decide) rfl ?_
              refine g_ab (fun z => z (m + 1) = gI E 311 (gup (gup f1 (((135 + 19 * (3 * k + s)) + 1 + 3 * ((q + 1 : Nat) : Int)) + 0) (mark / 1000)) (((135 + 19 * (3 * k + s)) + 1 + 3 * ((q + 1 : Nat) : Int)) + 1) (mark % 1000)) ∧ gKp (m + 1) (m + 2) h z) ⟨up_s, gKp_tr hk1 (gKp_up (by omega))⟩ (fun h1 q1 => ?_)
              obtain ⟨hz1, hk1⟩ := q1
              have m1 := (hk1 m (by omega)).trans hm
              refine g_aload_n 158 C dX5_comes_157 rfl rfl ?_
              refine g_getf 161 C dX5_comes_158 fl_RX5_7 rfl (by omega) m1 rfl rfl ?_
              refine g_iload 163 C dX5_comes_161 rfl rfl ?_
              refine g_iconst 164 C dX5_comes_163 rfl ?_
              refine g_iadd 165 C dX5_comes_164 rfl ?_
              refine g_iload 167 C dX5_comes_165 rfl rfl ?_
              refine g_iast 168 C dX5_comes_167 (by omega) hz1 (by omega) (by decide) rfl ?_
              refine g_ab (fun z => z (m + 1) = gI E 311 (gup (gup (gup f1 (((135 + 19 * (3 * k + s)) + 1 + 3 * ((q + 1 : Nat) : Int)) + 0) (mark / 1000)) (((135 + 19 * (3 * k + s)) + 1 + 3 * ((q + 1 : Nat) : Int)) + 1) (mark % 1000)) (((135 + 19 * (3 * k + s)) + 1 + 3 * ((q + 1 : Nat) : Int)) + 2) value) ∧ gKp (m + 1) (m + 2) h z) ⟨up_s, gKp_tr hk1 (gKp_up (by omega))⟩ (fun h1 q1 => ?_)
              obtain ⟨hz1, hk1⟩ := q1
              have m1 := (hk1 m (by omega)).trans hm
              refine g_aload_n 169 C dX5_comes_168 rfl rfl ?_
              refine g_getf 172 C dX5_comes_169 fl_RX5_7 rfl (by omega) m1 rfl rfl ?_
              refine g_iload_n 173 C dX5_comes_172 rfl rfl ?_
              refine g_iload_n 174 C dX5_comes_173 rfl rfl ?_
              refine g_S2r 177 0 0 C dX5_comes_174 rfl lk_RX5_43 gs_X5_rowAt ⟨⟨by decide, by decide⟩, by decide, by decide⟩ (Nat.le_of_ble_eq_true rfl) rfl rfl rfl (c_X5_rowAt k s) g_no (fun h9 e174 => ?_)
              replace e174 := e174.symm
              subst e174
              refine g_dup2 178 C dX5_comes_177 rfl rfl rfl ?_
              refine g_iald 179 C dX5_comes_178 (by omega) hz1 (by omega) (by decide) rfl ?_
              rw [show (gup (gup (gup f1 (((135 + 19 * (3 * k + s)) + 1 + 3 * ((q + 1 : Nat) : Int)) + 0) (mark / 1000)) (((135 + 19 * (3 * k + s)) + 1 + 3 * ((q + 1 : Nat) : Int)) + 1) (mark % 1000)) (((135 + 19 * (3 * k + s)) + 1 + 3 * ((q + 1 : Nat) : Int)) + 2) value) (135 + 19 * (3 * k + s)) = (l.length : Int) from ((gup_ne (by omega)).trans ((gup_ne (by omega)).trans (gup_ne (by omega)))).trans hR0]
              refine g_iconst 180 C dX5_comes_179 rfl ?_
              refine g_iadd 181 C dX5_comes_180 rfl ?_
              refine g_iast 182 C dX5_comes_181 (by omega) hz1 (by omega) (by decide) rfl ?_
              exact g_vret C dX5_comes_182 rfl ⟨by decide, by decide⟩ (by
                  have hE : f1 (135 + 19 * (3 * k + s)) = (l.length : Int) := hR0
                  obtain ⟨r1, r2⟩ := Rp_ins (f := gup (gup (gup (gup f1 (((135 + 19 * (3 * k + s)) + 1 + 3 * ((q + 1 : Nat) : Int)) + 0) (mark / 1000)) (((135 + 19 * (3 * k + s)) + 1 + 3 * ((q + 1 : Nat) : Int)) + 1) (mark % 1000)) (((135 + 19 * (3 * k + s)) + 1 + 3 * ((q + 1 : Nat) : Int)) + 2) value) (135 + 19 * (3 * k + s)) ((l.length : Int) + 1)) (b := (135 + 19 * (3 * k + s))) (x := ((mark, value) : Int × Int)) (j := (q + 1)) (by omega) (fun p y9 hp hy9 => (hA p y9 (by omega) hy9).kept (fun i9 q1 q2 => (gup_ne (by omega)).trans ((gup_ne (by omega)).trans ((gup_ne (by omega)).trans (gup_ne (by omega)))))) (fun p y9 hp hy9 => ⟨(hB p y9 (by omega) hy9).1.kept (fun i9 q1 q2 => (gup_ne (by omega)).trans ((gup_ne (by omega)).trans ((gup_ne (by omega)).trans (gup_ne (by omega))))), (hB p y9 (by omega) hy9).2⟩) ⟨(gup_ne (by omega)).trans ((gup_ne (by omega)).trans ((gup_ne (by omega)).trans (gup_eq (by omega)))), (gup_ne (by omega)).trans ((gup_ne (by omega)).trans (gup_eq (by omega))), (gup_ne (by omega)).trans (gup_eq (by omega))⟩ hst
                  exact ⟨rfl, rfl, rfl, ⟨_, up_s, ⟨by rw [gup_at, r2]; rfl, r1⟩, fun i9 z => ((gup_ne (by omega)).trans ((gup_ne (by omega)).trans ((gup_ne (by omega)).trans (gup_ne (by omega))))).trans (hC i9 z)⟩, gKp_tr hk1 (gKp_up (by omega))⟩)
            · skip
              have hgt : mark < y.1 := by omega
              refine g_iconst 75 C dX5_comes_74 rfl ?_
              refine g_istore 77 [(7, _), (6, _), (0, _), (1, _), (2, _), (3, _), (4, _), (5, _)] C dX5_comes_75 (by decide) rfl rfl ?_
              refine g_iload 79 C dX5_comes_77 rfl rfl ?_
              refine g_iconst 80 C dX5_comes_79 rfl ?_
              refine g_icmp_ge 121 83 C dX5_comes_80 rfl rfl (by omega) (by omega) (fun c80 => ?_) (fun c80 => ?_)
              · skip
                exact absurd c80 (by omega)
              · skip
                refine g_aload_n 84 C dX5_comes_83 rfl rfl ?_
                refine g_getf 87 C dX5_comes_84 fl_RX5_7 rfl (by omega) m1 rfl rfl ?_
                refine g_iload_n 88 C dX5_comes_87 rfl rfl ?_
                refine g_iload_n 89 C dX5_comes_88 rfl rfl ?_
                refine g_iload 91 C dX5_comes_89 rfl rfl ?_
                refine g_S3r 94 0 0 C dX5_comes_91 rfl lk_RX5_50 gs_X5_placeAt ⟨⟨by decide, by decide⟩, by decide, by decide⟩ (Nat.le_of_ble_eq_true rfl) rfl rfl rfl (c_X5_placeAt k s ((q + 1 : Nat) : Int)) g_no (fun h9 e91 => ?_)
                replace e91 := e91.symm
                subst e91
                refine g_iload 96 C dX5_comes_94 rfl rfl ?_
                refine g_iadd 97 C dX5_comes_96 rfl ?_
                refine g_aload_n 98 C dX5_comes_97 rfl rfl ?_
                refine g_getf 101 C dX5_comes_98 fl_RX5_7 rfl (by omega) m1 rfl rfl ?_
                refine g_iload_n 102 C dX5_comes_101 rfl rfl ?_
                refine g_iload_n 103 C dX5_comes_102 rfl rfl ?_
                refine g_iload 105 C dX5_comes_103 rfl rfl ?_
                refine g_iconst 106 C dX5_comes_105 rfl ?_
                refine g_isub 107 C dX5_comes_106 rfl ?_
                refine g_S3r 110 0 0 C dX5_comes_107 rfl lk_RX5_50 gs_X5_placeAt ⟨⟨by decide, by decide⟩, by decide, by decide⟩ (Nat.le_of_ble_eq_true rfl) rfl rfl rfl (c_X5_placeAt k s (((q + 1 : Nat) : Int) - 1)) g_no (fun h9 e107 => ?_)
                replace e107 := e107.symm
                subst e107
                refine g_iload 112 C dX5_comes_110 rfl rfl ?_
                refine g_iadd 113 C dX5_comes_112 rfl ?_
                refine g_iald 114 C dX5_comes_113 (by omega) hz1 (by omega) (by decide) rfl ?_
                rw [show f1 (((135 + 19 * (3 * k + s)) + 1 + 3 * (((q + 1 : Nat) : Int) - 1)) + 0) = y.1 / 1000 by rw [Int.add_zero]; exact y1]
                refine g_iast 115 C dX5_comes_114 (by omega) hz1 (by omega) (by decide) rfl ?_
                refine g_ab (fun z => z (m + 1) = gI E 311 (gup f1 (((135 + 19 * (3 * k + s)) + 1 + 3 * ((q + 1 : Nat) : Int)) + 0) (y.1 / 1000)) ∧ gKp (m + 1) (m + 2) h z) ⟨up_s, gKp_tr hk1 (gKp_up (by omega))⟩ (fun h1 q1 => ?_)
                obtain ⟨hz1, hk1⟩ := q1
                have m1 := (hk1 m (by omega)).trans hm
                refine g_iinc 118 [(7, _), (6, _), (0, _), (1, _), (2, _), (3, _), (4, _), (5, _)] C dX5_comes_115 rfl (by decide) rfl rfl ?_
                refine g_goto 77 C dX5_comes_118 rfl ?_
                refine g_iload 79 C dX5_comes_77 rfl rfl ?_
                refine g_iconst 80 C dX5_comes_79 rfl ?_
                refine g_icmp_ge 121 83 C dX5_comes_80 rfl rfl (by omega) (by omega) (fun c80 => ?_) (fun c80 => ?_)
                · skip
                  exact absurd c80 (by omega)
                · skip
                  refine g_aload_n 84 C dX5_comes_83 rfl rfl ?_
                  refine g_getf 87 C dX5_comes_84 fl_RX5_7 rfl (by omega) m1 rfl rfl ?_
                  refine g_iload_n 88 C dX5_comes_87 rfl rfl ?_
                  refine g_iload_n 89 C dX5_comes_88 rfl rfl ?_
                  refine g_iload 91 C dX5_comes_89 rfl rfl ?_
                  refine g_S3r 94 0 0 C dX5_comes_91 rfl lk_RX5_50 gs_X5_placeAt ⟨⟨by decide, by decide⟩, by decide, by decide⟩ (Nat.le_of_ble_eq_true rfl) rfl rfl rfl (c_X5_placeAt k s ((q + 1 : Nat) : Int)) g_no (fun h9 e91 => ?_)
                  replace e91 := e91.symm
                  subst e91
                  refine g_iload 96 C dX5_comes_94 rfl rfl ?_
                  refine g_iadd 97 C dX5_comes_96 rfl ?_
                  refine g_aload_n 98 C dX5_comes_97 rfl rfl ?_
                  refine g_getf 101 C dX5_comes_98 fl_RX5_7 rfl (by omega) m1 rfl rfl ?_
                  refine g_iload_n 102 C dX5_comes_101 rfl rfl ?_
                  refine g_iload_n 103 C dX5_comes_102 rfl rfl ?_
                  refine g_iload 105 C dX5_comes_103 rfl rfl ?_
                  refine g_iconst 106 C dX5_comes_105 rfl ?_
                  refine g_isub 107 C dX5_comes_106 rfl ?_
                  refine g_S3r 110 0 0 C dX5_comes_107 rfl lk_RX5_50 gs_X5_placeAt ⟨⟨by decide, by decide⟩, by decide, by decide⟩ (Nat.le_of_ble_eq_true rfl) rfl rfl rfl (c_X5_placeAt k s (((q + 1 : Nat) : Int) - 1)) g_no (fun h9 e107 => ?_)
                  replace e107 := e107.symm
                  subst e107
                  refine g_iload 112 C dX5_comes_110 rfl rfl ?_
                  refine g_iadd 113 C dX5_comes_112 rfl ?_
                  refine g_iald 114 C dX5_comes_113 (by omega) hz1 (by omega) (by decide) rfl ?_
                  rw [show (gup f1 (((135 + 19 * (3 * k + s)) + 1 + 3 * ((q + 1 : Nat) : Int)) + 0) (y.1 / 1000)) (((135 + 19 * (3 * k + s)) + 1 + 3 * (((q + 1 : Nat) : Int) - 1)) + (0 + 1)) = y.1 % 1000 from (gup_ne (by omega)).trans y2]
                  refine g_iast 115 C dX5_comes_114 (by omega) hz1 (by omega) (by decide) rfl ?_
                  refine g_ab (fun z => z (m + 1) = gI E 311 (gup (gup f1 (((135 + 19 * (3 * k + s)) + 1 + 3 * ((q + 1 : Nat) : Int)) + 0) (y.1 / 1000)) (((135 + 19 * (3 * k + s)) + 1 + 3 * ((q + 1 : Nat) : Int)) + (0 + 1)) (y.1 % 1000)) ∧ gKp (m + 1) (m + 2) h z) ⟨up_s, gKp_tr hk1 (gKp_up (by omega))⟩ (fun h1 q1 => ?_)
                  obtain ⟨hz1, hk1⟩ := q1
                  have m1 := (hk1 m (by omega)).trans hm
                  refine g_iinc 118 [(7, _), (6, _), (0, _), (1, _), (2, _), (3, _), (4, _), (5, _)] C dX5_comes_115 rfl (by decide) rfl rfl ?_
                  refine g_goto 77 C dX5_comes_118 rfl ?_
                  refine g_iload 79 C dX5_comes_77 rfl rfl ?_
                  refine g_iconst 80 C dX5_comes_79 rfl ?_
                  refine g_icmp_ge 121 83 C dX5_comes_80 rfl rfl (by omega) (by omega) (fun c80 => ?_) (fun c80 => ?_)
                  · skip
                    exact absurd c80 (by omega)
                  · skip
                    refine g_aload_n 84 C dX5_comes_83 rfl rfl ?_
                    refine g_getf 87 C dX5_comes_84 fl_RX5_7 rfl (by omega) m1 rfl rfl ?_
                    refine g_iload_n 88 C dX5_comes_87 rfl rfl ?_
                    refine g_iload_n 89 C dX5_comes_88 rfl rfl ?_
                    refine g_iload 91 C dX5_comes_89 rfl rfl ?_
                    refine g_S3r 94 0 0 C dX5_comes_91 rfl lk_RX5_50 gs_X5_placeAt ⟨⟨by decide, by decide⟩, by decide, by decide⟩ (Nat.le_of_ble_eq_true rfl) rfl rfl rfl (c_X5_placeAt k s ((q + 1 : Nat) : Int)) g_no (fun h9 e91 => ?_)
                    replace e91 := e91.symm
                    subst e91
                    refine g_iload 96 C dX5_comes_94 rfl rfl ?_
                    refine g_iadd 97 C dX5_comes_96 rfl ?_
                    refine g_aload_n 98 C dX5_comes_97 rfl rfl ?_
                    refine g_getf 101 C dX5_comes_98 fl_RX5_7 rfl (by omega) m1 rfl rfl ?_
                    refine g_iload_n 102 C dX5_comes_101 rfl rfl ?_
                    refine g_iload_n 103 C dX5_comes_102 rfl rfl ?_
                    refine g_iload 105 C dX5_comes_103 rfl rfl ?_
                    refine g_iconst 106 C dX5_comes_105 rfl ?_
                    refine g_isub 107 C dX5_comes_106 rfl ?_
                    refine g_S3r 110 0 0 C dX5_comes_107 rfl lk_RX5_50 gs_X5_placeAt ⟨⟨by decide, by decide⟩, by decide, by decide⟩ (Nat.le_of_ble_eq_true rfl) rfl rfl rfl (c_X5_placeAt k s (((q + 1 : Nat) : Int) - 1)) g_no (fun h9 e107 => ?_)
                    replace e107 := e107.symm
                    subst e107
                    refine g_iload 112 C dX5_comes_110 rfl rfl ?_
                    refine g_iadd 113 C dX5_comes_112 rfl ?_
                    refine g_iald 114 C dX5_comes_113 (by omega) hz1 (by omega) (by decide) rfl ?_
                    rw [show (gup (gup f1 (((135 + 19 * (3 * k + s)) + 1 + 3 * ((q + 1 : Nat) : Int)) + 0) (y.1 / 1000)) (((135 + 19 * (3 * k + s)) + 1 + 3 * ((q + 1 : Nat) : Int)) + (0 + 1)) (y.1 % 1000)) (((135 + 19 * (3 * k + s)) + 1 + 3 * (((q + 1 : Nat) : Int) - 1)) + (0 + 1 + 1)) = y.2 from (gup_ne (by omega)).trans ((gup_ne (by omega)).trans y3)]
                    refine g_iast 115 C dX5_comes_114 (by omega) hz1 (by omega) (by decide) rfl ?_
                    refine g_ab (fun z => z (m + 1) = gI E 311 (gup (gup (gup f1 (((135 + 19 * (3 * k + s)) + 1 + 3 * ((q + 1 : Nat) : Int)) + 0) (y.1 / 1000)) (((135 + 19 * (3 * k + s)) + 1 + 3 * ((q + 1 : Nat) : Int)) + (0 + 1)) (y.1 % 1000)) (((135 + 19 * (3 * k + s)) + 1 + 3 * ((q + 1 : Nat) : Int)) + (0 + 1 + 1)) y.2) ∧ gKp (m + 1) (m + 2) h z) ⟨up_s, gKp_tr hk1 (gKp_up (by omega))⟩ (fun h1 q1 => ?_)
                    obtain ⟨hz1, hk1⟩ := q1
                    have m1 := (hk1 m (by omega)).trans hm
                    refine g_iinc 118 [(7, _), (6, _), (0, _), (1, _), (2, _), (3, _), (4, _), (5, _)] C dX5_comes_115 rfl (by decide) rfl rfl ?_
                    refine g_goto 77 C dX5_comes_118 rfl ?_
                    refine g_iload 79 C dX5_comes_77 rfl rfl ?_
                    refine g_iconst 80 C dX5_comes_79 rfl ?_
                    refine g_icmp_ge 121 83 C dX5_comes_80 rfl rfl (by omega) (by omega) (fun c80 => ?_) (fun c80 => ?_)
                    · skip
                      have hR8 : (gup (gup (gup f1 (((135 + 19 * (3 * k + s)) + 1 + 3 * ((q + 1 : Nat) : Int)) + 0) (y.1 / 1000)) (((135 + 19 * (3 * k + s)) + 1 + 3 * ((q + 1 : Nat) : Int)) + (0 + 1)) (y.1 % 1000)) (((135 + 19 * (3 * k + s)) + 1 + 3 * ((q + 1 : Nat) : Int)) + (0 + 1 + 1)) y.2) (135 + 19 * (3 * k + s)) = (l.length : Int) := ((gup_ne (by omega)).trans ((gup_ne (by omega)).trans (gup_ne (by omega)))).trans hR0
                      have hA8 : ∀ (p : Nat) (y9 : Int × Int), p < q → l[p]? = some y9 → Ey (gup (gup (gup f1 (((135 + 19 * (3 * k + s)) + 1 + 3 * ((q + 1 : Nat) : Int)) + 0) (y.1 / 1000)) (((135 + 19 * (3 * k + s)) + 1 + 3 * ((q + 1 : Nat) : Int)) + (0 + 1)) (y.1 % 1000)) (((135 + 19 * (3 * k + s)) + 1 + 3 * ((q + 1 : Nat) : Int)) + (0 + 1 + 1)) y.2) (135 + 19 * (3 * k + s)) p y9 := fun p y9 hp hy9 => (hA p y9 (by omega) hy9).kept (fun i9 q1 q2 => (gup_ne (by omega)).trans ((gup_ne (by omega)).trans (gup_ne (by omega))))
                      have hB8 : ∀ (p : Nat) (y9 : Int × Int), q ≤ p → l[p]? = some y9 → Ey (gup (gup (gup f1 (((135 + 19 * (3 * k + s)) + 1 + 3 * ((q + 1 : Nat) : Int)) + 0) (y.1 / 1000)) (((135 + 19 * (3 * k + s)) + 1 + 3 * ((q + 1 : Nat) : Int)) + (0 + 1)) (y.1 % 1000)) (((135 + 19 * (3 * k + s)) + 1 + 3 * ((q + 1 : Nat) : Int)) + (0 + 1 + 1)) y.2) (135 + 19 * (3 * k + s)) (p + 1) y9 ∧ mark < y9.1 := fun p y9 hp hy9 => by
                        by_cases e : p = q
                        · subst e
                          cases hy.symm.trans hy9
                          exact ⟨⟨(gup_ne (by omega)).trans ((gup_ne (by omega)).trans (gup_eq (by omega))), (gup_ne (by omega)).trans (gup_eq (by omega)), gup_eq (by omega)⟩, hgt⟩
                        · exact ⟨(hB p y9 (by omega) hy9).1.kept (fun i9 q1 q2 => (gup_ne (by omega)).trans ((gup_ne (by omega)).trans (gup_ne (by omega)))), (hB p y9 (by omega) hy9).2⟩
                      have hC8 : ∀ i9 : Int, (i9 < (135 + 19 * (3 * k + s)) ∨ (135 + 19 * (3 * k + s)) + 19 ≤ i9) → (gup (gup (gup f1 (((135 + 19 * (3 * k + s)) + 1 + 3 * ((q + 1 : Nat) : Int)) + 0) (y.1 / 1000)) (((135 + 19 * (3 * k + s)) + 1 + 3 * ((q + 1 : Nat) : Int)) + (0 + 1)) (y.1 % 1000)) (((135 + 19 * (3 * k + s)) + 1 + 3 * ((q + 1 : Nat) : Int)) + (0 + 1 + 1)) y.2) i9 = f i9 := fun i9 z => ((gup_ne (by omega)).trans ((gup_ne (by omega)).trans (gup_ne (by omega)))).trans (hC i9 z)
                      refine g_iinc 124 [(6, _), (7, _), (0, _), (1, _), (2, _), (3, _), (4, _), (5, _)] C dX5_comes_121 rfl (by decide) rfl rfl ?_
                      refine g_goto 8 C dX5_comes_124 rfl ?_
                      refine g_loc [(6, .int (gi (q : Int))), (0, _), (1, _), (2, _), (3, _), (4, _), (5, _)] ⟨(by rw [show (q : Int) = ((q + 1 : Nat) : Int) + -1 by omega]; rfl), rfl, rfl, rfl, rfl, rfl, rfl, trivial⟩ ?_
                      exact ih8 q _ _ (by omega) hz1 hk1 hR8 hA8 hB8 hC8 (by omega)
                    · skip
                      exact absurd c80 (by omega)
  refine g_loc [(6, _), (0, _), (1, _), (2, _), (3, _), (4, _), (5, _)] ⟨rfl, rfl, rfl, rfl, rfl, rfl, rfl, trivial⟩ ?_
  exact lp8 _ l.length h f (Nat.le_refl _) hz gKp_rf hl.1 (fun p y _ hy => hl.2 p y hy) (fun p y hp hy => absurd (List.getElem?_eq_some_iff.mp hy).1 (by omega)) (fun _ _ => rfl) (Nat.lt_succ_self _)
