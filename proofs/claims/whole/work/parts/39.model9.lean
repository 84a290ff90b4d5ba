/-! SiblingJoinsModel: what would be there -/
set_option maxRecDepth 100000 in
set_option maxHeartbeats 4000000 in
theorem c_X5_adds {E : gEnv} {n : Nat} {σ : Option Nat} {h : gH} (m : Nat) (g : Int → Int) (hs : Int64) (f : Int → Int) (fd : Int → Int) (l : List (Int × Int)) (a : Int) (x0 : Int × Int) (hmb : gB E ≤ m ∧ m + 7 ≤ gB E + n) (hm : isMo h m g hs) (hz : h (m + 1) = gI E 311 f) (hd : h (m + 5) = gI E 36 fd) (hl : Rp fd (-1) l) (h8 : g 8 = (l.length : Int)) (hll : l.length ≤ 8) (hol : ∀ p ∈ l, 0 ≤ p.1 ∧ p.1 < 5000) (ha : 0 ≤ a ∧ a ≤ 308) (hx0 : 0 ≤ x0.1 ∧ x0.1 < 5000) (ha1 : f a = x0.1 / 1000) (ha2 : f (a + 1) = x0.1 % 1000) (ha3 : f (a + 2) = x0.2)  : gM E mX5_adds [.ref m, .int (gi a)] n σ h (gD none n σ (fun h9 => isMo h9 m (gup g 8 ((l.length : Int) + 1)) hs ∧ (∃ fd9 : Int → Int, h9 (m + 5) = gI E 36 fd9 ∧ Rp fd9 (-1) (insr x0 l)) ∧ ∀ x9 : Nat, x9 ≠ m → x9 ≠ m + 5 → h9 x9 = h x9)) (gNo) := by
  have hm9 := hm
  unfold isMo at hm
  have m1 := hm
  have hz1 := hz
  have hd1 := hd
  refine gM_of (by decide) (Nat.le_of_ble_eq_true rfl) (fun F C => ?_)
  refine g_aload_n 1 C dX5_adds_0 rfl rfl ?_
  refine g_getf 4 C dX5_adds_1 fl_RX5_112 rfl (by omega) m1 rfl rfl ?_
  rw [h8]
  refine g_istore_n 5 [(2, _), (0, _), (1, _)] C dX5_adds_4 (by decide) rfl rfl ?_
  have lp5 : ∀ (k9 : Nat) (j : Nat) (h1 : gH) (f1 : Int → Int), (j ≤ l.length) → (h1 (m + 5) = gI E 36 f1) → (gKp (m + 5) (m + 6) h h1) → (∀ (p : Nat) (y : Int × Int), p < j → l[p]? = some y → Ey f1 (-1) p y) → (∀ (p : Nat) (y : Int × Int), j ≤ p → l[p]? = some y → Ey f1 (-1) (p + 1) y ∧ x0.1 < y.1) → j < k9 → G E F mX5_adds (gQ E F mX5_adds n (gD none n σ (fun h9 => isMo h9 m (gup g 8 ((l.length : Int) + 1)) hs ∧ (∃ fd9 : Int → Int, h9 (m + 5) = gI E 36 fd9 ∧ Rp fd9 (-1) (insr x0 l)) ∧ ∀ x9 : Nat, x9 ≠ m → x9 ≠ m + 5 → h9 x9 = h x9)) (gNo)) n σ h1 0 0 5 [(2, .int (gi (j : Int))), (0, .ref m), (1, .int (gi a))] [] := by
    intro k9
    induction k9 with
    | zero => intro j h1 f1 hj hd1 hk1 hA hB h0; exact absurd h0 (Nat.not_lt_zero _)
    | succ k9 ih5 =>
      intro j h1 f1 hj hd1 hk1 hA hB hk5
      have m1 := (hk1 m (by omega)).trans hm
      have hz1 := (hk1 (m + 1) (by omega)).trans hz
      refine g_iload_n 6 C dX5_adds_5 rfl rfl ?_
      refine g_if_le 109 9 C dX5_adds_6 rfl rfl (by omega) (fun c6 => ?_) (fun c6 => ?_)
      · skip
        have hst : ∀ y9, (l.take j).getLast? = some y9 → ¬ x0.1 < y9.1 := fun y9 hy9 => by rw [show j = 0 by omega] at hy9; cases hy9
        refine g_iconst 110 C dX5_adds_109 rfl ?_
        refine g_istore_n 111 [(3, _), (2, _), (0, _), (1, _)] C dX5_adds_110 (by decide) rfl rfl ?_
        refine g_iload_n 112 C dX5_adds_111 rfl rfl ?_
        refine g_iconst 113 C dX5_adds_112 rfl ?_
        refine g_icmp_ge 140 116 C dX5_adds_113 rfl rfl (by omega) (by omega) (fun c113 => ?_) (fun c113 => ?_)
        · skip
          exact absurd c113 (by omega)
        · skip
          refine g_aload_n 117 C dX5_adds_116 rfl rfl ?_
          refine g_getf 120 C dX5_adds_117 fl_RX5_22 rfl (by omega) m1 rfl rfl ?_
          refine g_iconst 121 C dX5_adds_120 rfl ?_
          refine g_iload_n 122 C dX5_adds_121 rfl rfl ?_
          refine g_imul 123 C dX5_adds_122 rfl ?_
          refine g_iload_n 124 C dX5_adds_123 rfl rfl ?_
          refine g_iadd 125 C dX5_adds_124 rfl ?_
          refine g_aload_n 126 C dX5_adds_125 rfl rfl ?_
          refine g_getf 129 C dX5_adds_126 fl_RX5_7 rfl (by omega) m1 rfl rfl ?_
          refine g_iload_n 130 C dX5_adds_129 rfl rfl ?_
          refine g_iload_n 131 C dX5_adds_130 rfl rfl ?_
          refine g_iadd 132 C dX5_adds_131 rfl ?_
          refine g_iald 133 C dX5_adds_132 (by omega) hz1 (by omega) (by decide) rfl ?_
          rw [show f (a + 0) = x0.1 / 1000 by rw [Int.add_zero]; exact ha1]
          refine g_iast 134 C dX5_adds_133 (by omega) hd1 (by omega) (by decide) rfl ?_
          refine g_ab (fun z => z (m + 5) = gI E 36 (gup f1 ((3 * ((j : Nat) : Int)) + 0) (x0.1 / 1000)) ∧ gKp (m + 5) (m + 6) h z) ⟨up_s, gKp_tr hk1 (gKp_up (by omega))⟩ (fun h1 q1 => ?_)
          obtain ⟨hd1, hk1⟩ := q1
          have m1 := (hk1 m (by omega)).trans hm
          have hz1 := (hk1 (m + 1) (by omega)).trans hz
          refine g_iinc 137 [(3, _), (2, _), (0, _), (1, _)] C dX5_adds_134 rfl (by decide) rfl rfl ?_
          refine g_goto 111 C dX5_adds_137 rfl ?_
          refine g_iload_n 112 C dX5_adds_111 rfl rfl ?_
          refine g_iconst 113 C dX5_adds_112 rfl ?_
          refine g_icmp_ge 140 116 C dX5_adds_113 rfl rfl (by omega) (by omega) (fun c113 => ?_) (fun c113 => ?_)
          · skip
            exact absurd c113 (by omega)
          · skip
            refine g_aload_n 117 C dX5_adds_116 rfl rfl ?_
            refine g_getf 120 C dX5_adds_117 fl_RX5_22 rfl (by omega) m1 rfl rfl ?_
            refine g_iconst 121 C dX5_adds_120 rfl ?_
            refine g_iload_n 122 C dX5_adds_121 rfl rfl ?_
            refine g_imul 123 C dX5_adds_122 rfl ?_
            refine g_iload_n 124 C dX5_adds_123 rfl rfl ?_
            refine g_iadd 125 C dX5_adds_124 rfl ?_
            refine g_aload_n 126 C dX5_adds_125 rfl rfl ?_
            refine g_getf 129 C dX5_adds_126 fl_RX5_7 rfl (by omega) m1 rfl rfl ?_
            refine g_iload_n 130 C dX5_adds_129 rfl rfl ?_
            refine g_iload_n 131 C dX5_adds_130 rfl rfl ?_
            refine g_iadd 132 C dX5_adds_131 rfl ?_
            refine g_iald 133 C dX5_adds_132 (by omega) hz1 (by omega) (by decide) rfl ?_
            rw [show f (a + (0 + 1)) = x0.1 % 1000 from ha2]
            refine g_iast 134 C dX5_adds_133 (by omega) hd1 (by omega) (by decide) rfl ?_
            refine g_ab (fun z => z (m + 5) = gI E 36 (gup (gup f1 ((3 * ((j : Nat) : Int)) + 0) (x0.1 / 1000)) ((3 * ((j : Nat) : Int)) + (0 + 1)) (x0.1 % 1000)) ∧ gKp (m + 5) (m + 6) h z) ⟨up_s, gKp_tr hk1 (gKp_up (by omega))⟩ (fun h1 q1 => ?_)
            obtain ⟨hd1, hk1⟩ := q1
            have m1 := (hk1 m (by omega)).trans hm
            have hz1 := (hk1 (m + 1) (by omega)).trans hz
            refine g_iinc 137 [(3, _), (2, _), (0, _), (1, _)] C dX5_adds_134 rfl (by decide) rfl rfl ?_
            refine g_goto 111 C dX5_adds_137 rfl ?_
            refine g_iload_n 112 C dX5_adds_111 rfl rfl ?_
            refine g_iconst 113 C dX5_adds_112 rfl ?_
            refine g_icmp_ge 140 116 C dX5_adds_113 rfl rfl (by omega) (by omega) (fun c113 => ?_) (fun c113 => ?_)
            · skip
              exact absurd c113 (by omega)
            · skip
              refine g_aload_n 117 C dX5_adds_116 rfl rfl ?_
              refine g_getf 120 C dX5_adds_117 fl_RX5_22 rfl (by omega) m1 rfl rfl ?_
              refine g_iconst 121 C dX5_adds_120 rfl ?_
              refine g_iload_n 122 C dX5_adds_121 rfl rfl ?_
              refine g_imul 123 C dX5_adds_122 rfl ?_
              refine g_iload_n 124 C dX5_adds_123 rfl rfl ?_
              refine g_iadd 125 C dX5_adds_124 rfl ?_
              refine g_aload_n 126 C dX5_adds_125 rfl rfl ?_
              refine g_getf 129 C dX5_adds_126 fl_RX5_7 rfl (by omega) m1 rfl rfl ?_
              refine g_iload_n 130 C dX5_adds_129 rfl rfl ?_
              refine g_iload_n 131 C dX5_adds_130 rfl rfl ?_
              refine g_iadd 132 C dX5_adds_131 rfl ?_
              refine g_iald 133 C dX5_adds_132 (by omega) hz1 (by omega) (by decide) rfl ?_
              rw [show f (a + (0 + 1 + 1)) = x0.2 from ha3]
              refine g_iast 134 C dX5_adds_133 (by omega) hd1 (by omega) (by decide) rfl ?_
              refine g_ab (fun z => z (m + 5) = gI E 36 (gup (gup (gup f1 ((3 * ((j : Nat) : Int)) + 0) (x0.1 / 1000)) ((3 * ((j : Nat) : Int)) + (0 + 1)) (x0.1 % 1000)) ((3 * ((j : Nat) : Int)) + (0 + 1 + 1)) x0.2) ∧ gKp (m + 5) (m + 6) h z) ⟨up_s, gKp_tr hk1 (gKp_up (by omega))⟩ (fun h1 q1 => ?_)
              obtain ⟨hd1, hk1⟩ := q1
              have m1 := (hk1 m (by omega)).trans hm
              have hz1 := (hk1 (m + 1) (by omega)).trans hz
              refine g_iinc 137 [(3, _), (2, _), (0, _), (1, _)] C dX5_adds_134 rfl (by decide) rfl rfl ?_
              refine g_goto 111 C dX5_adds_137 rfl ?_
              refine g_iload_n 112 C dX5_adds_111 rfl rfl ?_
              refine g_iconst 113 C dX5_adds_112 rfl ?_
              refine g_icmp_ge 140 116 C dX5_adds_113 rfl rfl (by omega) (by omega) (fun c113 => ?_) (fun c113 => ?_)
              · skip
                refine g_aload_n 141 C dX5_adds_140 rfl rfl ?_
                refine g_dup 142 C dX5_adds_141 rfl rfl ?_
                refine g_getf 145 C dX5_adds_142 fl_RX5_112 rfl (by omega) m1 rfl rfl ?_
                rw [h8]
                refine g_iconst 146 C dX5_adds_145 rfl ?_
                refine g_iadd 147 C dX5_adds_146 rfl ?_
                refine g_putf 150 C dX5_adds_147 fp_RX5_112 rfl (by omega) m1 rfl rfl (Nat.le_of_ble_eq_true rfl) rfl ?_
                exact g_vret C dX5_adds_150 rfl ⟨by decide, by decide⟩ (by
                    obtain ⟨r1, r2⟩ := Rp_ins (f := (gup (gup (gup f1 ((3 * ((j : Nat) : Int)) + 0) (x0.1 / 1000)) ((3 * ((j : Nat) : Int)) + (0 + 1)) (x0.1 % 1000)) ((3 * ((j : Nat) : Int)) + (0 + 1 + 1)) x0.2)) (b := -1) (x := x0) (j := (j)) (by omega) (fun p y9 hp hy9 => (hA p y9 (by omega) hy9).kept (fun i9 q1 q2 => (gup_ne (by omega)).trans ((gup_ne (by omega)).trans (gup_ne (by omega))))) (fun p y9 hp hy9 => ⟨(hB p y9 (by omega) hy9).1.kept (fun i9 q1 q2 => (gup_ne (by omega)).trans ((gup_ne (by omega)).trans (gup_ne (by omega)))), (hB p y9 (by omega) hy9).2⟩) ⟨(gup_ne (by omega)).trans ((gup_ne (by omega)).trans (gup_eq (by omega))), (gup_ne (by omega)).trans (gup_eq (by omega)), gup_eq (by omega)⟩ hst
                    exact ⟨rfl, rfl, rfl, by rw [show ((l.length : Int) + 1) = g 8 + 1 by rw [h8]]; exact up_s, ⟨_, (up_n (by omega)).trans hd1, r1⟩, fun x9 z1 z2 => (up_n z1).trans (hk1 x9 (by omega))⟩)
              · skip
                exact absurd c113 (by omega)
      · skip
        obtain ⟨q, rfl⟩ : ∃ q, j = q + 1 := ⟨j - 1, by omega⟩
        obtain ⟨y, hy, hyl⟩ := get_of (l := l) (i := q) (by omega)
        obtain ⟨y1, y2, y3⟩ := hA q y (by omega) hy
        have hyo := hol y hyl
        rw [show (-1 : Int) + 1 + 3 * (q : Int) = 3 * ((q + 1 : Nat) : Int) - 3 by omega] at y1 y2 y3
        refine g_aload_n 10 C dX5_adds_9 rfl rfl ?_
        refine g_getf 13 C dX5_adds_10 fl_RX5_22 rfl (by omega) m1 rfl rfl ?_
        refine g_iconst 14 C dX5_adds_13 rfl ?_
        refine g_iload_n 15 C dX5_adds_14 rfl rfl ?_
        refine g_imul 16 C dX5_adds_15 rfl ?_
        refine g_iconst 17 C dX5_adds_16 rfl ?_
        refine g_isub 18 C dX5_adds_17 rfl ?_
        refine g_iald 19 C dX5_adds_18 (by omega) hd1 (by omega) (by decide) rfl ?_
        rw [y1]
        refine g_aload_n 20 C dX5_adds_19 rfl rfl ?_
        refine g_getf 23 C dX5_adds_20 fl_RX5_7 rfl (by omega) m1 rfl rfl ?_
        refine g_iload_n 24 C dX5_adds_23 rfl rfl ?_
        refine g_iald 25 C dX5_adds_24 (by omega) hz1 (by omega) (by decide) rfl ?_
        rw [ha1]
        refine g_icmp_gt 68 28 C dX5_adds_25 rfl rfl (by omega) (by omega) (fun c25 => ?_) (fun c25 => ?_)
        · skip
          have hgt : x0.1 < y.1 := by omega
          refine g_iconst 69 C dX5_adds_68 rfl ?_
          refine g_istore_n 70 [(3, _), (2, _), (0, _), (1, _)] C dX5_adds_69 (by decide) rfl rfl ?_
          refine g_iload_n 71 C dX5_adds_70 rfl rfl ?_
          refine g_iconst 72 C dX5_adds_71 rfl ?_
          refine g_icmp_ge 103 75 C dX5_adds_72 rfl rfl (by omega) (by omega) (fun c72 => ?_) (fun c72 => ?_)
          · skip
            exact absurd c72 (by omega)
          · skip
            refine g_aload_n 76 C dX5_adds_75 rfl rfl ?_
            refine g_getf 79 C dX5_adds_76 fl_RX5_22 rfl (by omega) m1 rfl rfl ?_
            refine g_iconst 80 C dX5_adds_79 rfl ?_
            refine g_iload_n 81 C dX5_adds_80 rfl rfl ?_
            refine g_imul 82 C dX5_adds_81 rfl ?_
            refine g_iload_n 83 C dX5_adds_82 rfl rfl ?_
            refine g_iadd 84 C dX5_adds_83 rfl ?_
            refine g_aload_n 85 C dX5_adds_84 rfl rfl ?_
            refine g_getf 88 C dX5_adds_85 fl_RX5_22 rfl (by omega) m1 rfl rfl ?_
            refine g_iconst 89 C dX5_adds_88 rfl ?_
            refine g_iload_n 90 C dX5_adds_89 rfl rfl ?_
            refine g_imul 91 C dX5_adds_90 rfl ?_
            refine g_iconst 92 C dX5_adds_91 rfl ?_
            refine g_isub 93 C dX5_adds_92 rfl ?_
            refine g_iload_n 94 C dX5_adds_93 rfl rfl ?_
            refine g_iadd 95 C dX5_adds_94 rfl ?_
            refine g_iald 96 C dX5_adds_95 (by omega) hd1 (by omega) (by decide) rfl ?_
            rw [show f1 ((3 * ((q + 1 : Nat) : Int) - 3) + 0) = y.1 / 1000 by rw [Int.add_zero]; exact y1]
            refine g_iast 97 C dX5_adds_96 (by omega) hd1 (by omega) (by decide) rfl ?_
            refine g_ab (fun z => z (m + 5) = gI E 36 (gup f1 ((3 * ((q + 1 : Nat) : Int)) + 0) (y.1 / 1000)) ∧ gKp (m + 5) (m + 6) h z) ⟨up_s, gKp_tr hk1 (gKp_up (by omega))⟩ (fun h1 q1 => ?_)
            obtain ⟨hd1, hk1⟩ := q1
            have m1 := (hk1 m (by omega)).trans hm
            have hz1 := (hk1 (m + 1) (by omega)).trans hz
            refine g_iinc 100 [(3, _), (2, _), (0, _), (1, _)] C dX5_adds_97 rfl (by decide) rfl rfl ?_
            refine g_goto 70 C dX5_adds_100 rfl ?_
            refine g_iload_n 71 C dX5_adds_70 rfl rfl ?_
            refine g_iconst 72 C dX5_adds_71 rfl ?_
            refine g_icmp_ge 103 75 C dX5_adds_72 rfl rfl (by omega) (by omega) (fun c72 => ?_) (fun c72 => ?_)
            · skip
              exact absurd c72 (by omega)
            · skip
              refine g_aload_n 76 C dX5_adds_75 rfl rfl ?_
              refine g_getf 79 C dX5_adds_76 fl_RX5_22 rfl (by omega) m1 rfl rfl ?_
              refine g_iconst 80 C dX5_adds_79 rfl ?_
              refine g_iload_n 81 C dX5_adds_80 rfl rfl ?_
              refine g_imul 82 C dX5_adds_81 rfl ?_
              refine g_iload_n 83 C dX5_adds_82 rfl rfl ?_
              refine g_iadd 84 C dX5_adds_83 rfl ?_
              refine g_aload_n 85 C dX5_adds_84 rfl rfl ?_
              refine g_getf 88 C dX5_adds_85 fl_RX5_22 rfl (by omega) m1 rfl rfl ?_
              refine g_iconst 89 C dX5_adds_88 rfl ?_
              refine g_iload_n 90 C dX5_adds_89 rfl rfl ?_
              refine g_imul 91 C dX5_adds_90 rfl ?_
              refine g_iconst 92 C dX5_adds_91 rfl ?_
              refine g_isub 93 C dX5_adds_92 rfl ?_
              refine g_iload_n 94 C dX5_adds_93 rfl rfl ?_
              refine g_iadd 95 C dX5_adds_94 rfl ?_
              refine g_iald 96 C dX5_adds_95 (by omega) hd1 (by omega) (by decide) rfl ?_
              rw [show (gup f1 ((3 * ((q + 1 : Nat) : Int)) + 0) (y.1 / 1000)) ((3 * ((q + 1 : Nat) : Int) - 3) + (0 + 1)) = y.1 % 1000 from (gup_ne (by omega)).trans y2]
              refine g_iast 97 C dX5_adds_96 (by omega) hd1 (by omega) (by decide) rfl ?_
              refine g_ab (fun z => z (m + 5) = gI E 36 (gup (gup f1 ((3 * ((q + 1 : Nat) : Int)) + 0) (y.1 / 1000)) ((3 * ((q + 1 : Nat) : Int)) + (0 + 1)) (y.1 % 1000)) ∧ gKp (m + 5) (m + 6) h z) ⟨up_s, gKp_tr hk1 (gKp_up (by omega))⟩ (fun h1 q1 => ?_)
              obtain ⟨hd1, hk1⟩ := q1
              have m1 := (hk1 m (by omega)).trans hm
              have hz1 := (hk1 (m + 1) (by omega)).trans hz
              refine g_iinc 100 [(3, _), (2, _), (0, _), (1, _)] C dX5_adds_97 rfl (by decide) rfl rfl ?_
              refine g_goto 70 C dX5_adds_100 rfl ?_
              refine g_iload_n 71 C dX5_adds_70 rfl rfl ?_
              refine g_iconst 72 C dX5_adds_71 rfl ?_
              refine g_icmp_ge 103 75 C dX5_adds_72 rfl rfl (by omega) (by omega) (fun c72 => ?_) (fun c72 => ?_)
              · skip
                exact absurd c72 (by omega)
              · skip
                refine g_aload_n 76 C dX5_adds_75 rfl rfl ?_
                refine g_getf 79 C dX5_adds_76 fl_RX5_22 rfl (by omega) m1 rfl rfl ?_
                refine g_iconst 80 C dX5_adds_79 rfl ?_
                refine g_iload_n 81 C dX5_adds_80 rfl rfl ?_
                refine g_imul 82 C dX5_adds_81 rfl ?_
                refine g_iload_n 83 C dX5_adds_82 rfl rfl ?_
                refine g_iadd 84 C dX5_adds_83 rfl ?_
                refine g_aload_n 85 C dX5_adds_84 rfl rfl ?_
                refine g_getf 88 C dX5_adds_85 fl_RX5_22 rfl (by omega) m1 rfl rfl ?_
                refine g_iconst 89 C dX5_adds_88 rfl ?_
                refine g_iload_n 90 C dX5_adds_89 rfl rfl ?_
                refine g_imul 91 C dX5_adds_90 rfl ?_
                refine g_iconst 92 C dX5_adds_91 rfl ?_
                refine g_isub 93 C dX5_adds_92 rfl ?_
                refine g_iload_n 94 C dX5_adds_93 rfl rfl ?_
                refine g_iadd 95 C dX5_adds_94 rfl ?_
                refine g_iald 96 C dX5_adds_95 (by omega) hd1 (by omega) (by decide) rfl ?_
                rw [show (gup (gup f1 ((3 * ((q + 1 : Nat) : Int)) + 0) (y.1 / 1000)) ((3 * ((q + 1 : Nat) : Int)) + (0 + 1)) (y.1 % 1000)) ((3 * ((q + 1 : Nat) : Int) - 3) + (0 + 1 + 1)) = y.2 from (gup_ne (by omega)).trans ((gup_ne (by omega)).trans y3)]
                refine g_iast 97 C dX5_adds_96 (by omega) hd1 (by omega) (by decide) rfl ?_
                refine g_ab (fun z => z (m + 5) = gI E 36 (gup (gup (gup f1 ((3 * ((q + 1 : Nat) : Int)) + 0) (y.1 / 1000)) ((3 * ((q + 1 : Nat) : Int)) + (0 + 1)) (y.1 % 1000)) ((3 * ((q + 1 : Nat) : Int)) + (0 + 1 + 1)) y.2) ∧ gKp (m + 5) (m + 6) h z) ⟨up_s, gKp_tr hk1 (gKp_up (by omega))⟩ (fun h1 q1 => ?_)
                obtain ⟨hd1, hk1⟩ := q1
                have m1 := (hk1 m (by omega)).trans hm
                have hz1 := (hk1 (m + 1) (by omega)).trans hz
                refine g_iinc 100 [(3, _), (2, _), (0, _), (1, _)] C dX5_adds_97 rfl (by decide) rfl rfl ?_
                refine g_goto 70 C dX5_adds_100 rfl ?_
                refine g_iload_n 71 C dX5_adds_70 rfl rfl ?_
                refine g_iconst 72 C dX5_adds_71 rfl ?_
                refine g_icmp_ge 103 75 C dX5_adds_72 rfl rfl (by omega) (by omega) (fun c72 => ?_) (fun c72 => ?_)
                · skip
                  have hA8 : ∀ (p : Nat) (y9 : Int × Int), p < q → l[p]? = some y9 → Ey (gup (gup (gup f1 ((3 * ((q + 1 : Nat) : Int)) + 0) (y.1 / 1000)) ((3 * ((q + 1 : Nat) : Int)) + (0 + 1)) (y.1 % 1000)) ((3 * ((q + 1 : Nat) : Int)) + (0 + 1 + 1)) y.2) (-1) p y9 := fun p y9 hp hy9 => (hA p y9 (by omega) hy9).kept (fun i9 q1 q2 => (gup_ne (by omega)).trans ((gup_ne (by omega)).trans (gup_ne (by omega))))
                  have hB8 : ∀ (p : Nat) (y9 : Int × Int), q ≤ p → l[p]? = some y9 → Ey (gup (gup (gup f1 ((3 * ((q + 1 : Nat) : Int)) + 0) (y.1 / 1000)) ((3 * ((q + 1 : Nat) : Int)) + (0 + 1)) (y.1 % 1000)) ((3 * ((q + 1 : Nat) : Int)) + (0 + 1 + 1)) y.2) (-1) (p + 1) y9 ∧ x0.1 < y9.1 := fun p y9 hp hy9 => by
                    by_cases e : p = q
                    · subst e
                      cases hy.symm.trans hy9
                      exact ⟨⟨(gup_ne (by omega)).trans ((gup_ne (by omega)).trans (gup_eq (by omega))), (gup_ne (by omega)).trans (gup_eq (by omega)), gup_eq (by omega)⟩, hgt⟩
                    · exact ⟨(hB p y9 (by omega) hy9).1.kept (fun i9 q1 q2 => (gup_ne (by omega)).trans ((gup_ne (by omega)).trans (gup_ne (by omega)))), (hB p y9 (by omega) hy9).2⟩
                  refine g_iinc 106 [(2, _), (3, _), (0, _), (1, _)] C dX5_adds_103 rfl (by decide) rfl rfl ?_
                  refine g_goto 5 C dX5_adds_106 rfl ?_
                  refine g_loc [(2, .int (gi (q : Int))), (0, _), (1, _)] ⟨(by rw [show (q : Int) = ((q + 1 : Nat) : Int) + -1 by omega]; rfl), rfl, rfl, trivial⟩ ?_
                  exact ih5 q _ _ (by omega) hd1 hk1 hA8 hB8 (by omega)
                · skip
                  exact absurd c72 (by omega)
        · skip
          refine g_aload_n 29 C dX5_adds_28 rfl rfl ?_
          refine g_getf 32 C dX5_adds_29 fl_RX5_22 rfl (by omega) m1 rfl rfl ?_
          refine g_iconst 33 C dX5_adds_32 rfl ?_
          refine g_iload_n 34 C dX5_adds_33 rfl rfl ?_
          refine g_imul 35 C dX5_adds_34 rfl ?_
          refine g_iconst 36 C dX5_adds_35 rfl ?_
          refine g_isub 37 C dX5_adds_36 rfl ?_
          refine g_iald 38 C dX5_adds_37 (by omega) hd1 (by omega) (by decide) rfl ?_
          rw [y1]
          refine g_aload_n 39 C dX5_adds_38 rfl rfl ?_
          refine g_getf 42 C dX5_adds_39 fl_RX5_7 rfl (by omega) m1 rfl rfl ?_
          refine g_iload_n 43 C dX5_adds_42 rfl rfl ?_
          refine g_iald 44 C dX5_adds_43 (by omega) hz1 (by omega) (by decide) rfl ?_
          rw [ha1]
          refine g_icmp_ne 109 47 C dX5_adds_44 rfl rfl (by omega) (by omega) (fun c44 => ?_) (fun c44 => ?_)
          · skip
            have hst : ∀ y9, (l.take (q + 1)).getLast? = some y9 → ¬ x0.1 < y9.1 := fun y9 hy9 => by
              rw [take_s hy, List.getLast?_concat] at hy9
              cases hy9
              omega
            refine g_iconst 110 C dX5_adds_109 rfl ?_
            refine g_istore_n 111 [(3, _), (2, _), (0, _), (1, _)] C dX5_adds_110 (by decide) rfl rfl ?_
            refine g_iload_n 112 C dX5_adds_111 rfl rfl ?_
            refine g_iconst 113 C dX5_adds_112 rfl ?_
            refine g_icmp_ge 140 116 C dX5_adds_113 rfl rfl (by omega) (by omega) (fun c113 => ?_) (fun c113 => ?_)
            · skip
              exact absurd c113 (by omega)
            · skip
              refine g_aload_n 117 C dX5_adds_116 rfl rfl ?_
              refine g_getf 120 C dX5_adds_117 fl_RX5_22 rfl (by omega) m1 rfl rfl ?_
              refine g_iconst 121 C dX5_adds_120 rfl ?_
              refine g_iload_n 122 C dX5_adds_121 rfl rfl ?_
              refine g_imul 123 C dX5_adds_122 rfl ?_
              refine g_iload_n 124 C dX5_adds_123 rfl rfl ?_
              refine g_iadd 125 C dX5_adds_124 rfl ?_
              refine g_aload_n 126 C dX5_adds_125 rfl rfl ?_
              refine g_getf 129 C dX5_adds_126 fl_RX5_7 rfl (by omega) m1 rfl rfl ?_
              refine g_iload_n 130 C dX5_adds_129 rfl rfl ?_
              refine g_iload_n 131 C dX5_adds_130 rfl rfl ?_
              refine g_iadd 132 C dX5_adds_131 rfl ?_
              refine g_iald 133 C dX5_adds_132 (by omega) hz1 (by omega) (by decide) rfl ?_
              rw [show f (a + 0) = x0.1 / 1000 by rw [Int.add_zero]; exact ha1]
              refine g_iast 134 C dX5_adds_133 (by omega) hd1 (by omega) (by decide) rfl ?_
              refine g_ab (fun z => z (m + 5) = gI E 36 (gup f1 ((3 * ((q + 1 : Nat) : Int)) + 0) (x0.1 / 1000)) ∧ gKp (m + 5) (m + 6) h z) ⟨up_s, gKp_tr hk1 (gKp_up (by omega))⟩ (fun h1 q1 => ?_)
              obtain ⟨hd1, hk1⟩ := q1
              have m1 := (hk1 m (by omega)).trans hm
              have hz1 := (hk1 (m + 1) (by omega)).trans hz
              refine g_iinc 137 [(3, _), (2, _), (0, _), (1, _)] C dX5_adds_134 rfl (by decide) rfl rfl ?_
              refine g_goto 111 C dX5_adds_137 rfl ?_
              refine g_iload_n 112 C dX5_adds_111 rfl rfl ?_
              refine g_iconst 113 C dX5_adds_112 rfl ?_
              refine g_icmp_ge 140 116 C dX5_adds_113 rfl rfl (by omega) (by omega) (fun c113 => ?_) (fun c113 => ?_)
              · skip
                exact absurd c113 (by omega)
              · skip
                refine g_aload_n 117 C dX5_adds_116 rfl rfl ?_
                refine g_getf 120 C dX5_adds_117 fl_RX5_22 rfl (by omega) m1 rfl rfl ?_
                refine g_iconst 121 C dX5_adds_120 rfl ?_
                refine g_iload_n 122 C dX5_adds_121 rfl rfl ?_
                refine g_imul 123 C dX5_adds_122 rfl ?_
                refine g_iload_n 124 C dX5_adds_123 rfl rfl ?_
                refine g_iadd 125 C dX5_adds_124 rfl ?_
                refine g_aload_n 126 C dX5_adds_125 rfl rfl ?_
                refine g_getf 129 C dX5_adds_126 fl_RX5_7 rfl (by omega) m1 rfl rfl ?_
                refine g_iload_n 130 C dX5_adds_129 rfl rfl ?_
                refine g_iload_n 131 C dX5_adds_130 rfl rfl ?_
                refine g_iadd 132 C dX5_adds_131 rfl ?_
                refine g_iald 133 C dX5_adds_132 (by omega) hz1 (by omega) (by decide) rfl ?_
                rw [show f (a + (0 + 1)) = x0.1 % 1000 from ha2]
                refine g_iast 134 C dX5_adds_133 (by omega) hd1 (by omega) (by decide) rfl ?_
                refine g_ab (fun z => z (m + 5) = gI E 36 (gup (gup f1 ((3 * ((q + 1 : Nat) : Int)) + 0) (x0.1 / 1000)) ((3 * ((q + 1 : Nat) : Int)) + (0 + 1)) (x0.1 % 1000)) ∧ gKp (m + 5) (m + 6) h z) ⟨up_s, gKp_tr hk1 (gKp_up (by omega))⟩ (fun h1 q1 => ?_)
                obtain ⟨hd1, hk1⟩ := q1
                have m1 := (hk1 m (by omega)).trans hm
                have hz1 := (hk1 (m + 1) (by omega)).trans hz
                refine g_iinc 137 [(3, _), (2, _), (0, _), (1, _)] C dX5_adds_134 rfl (by decide) rfl rfl ?_
                refine g_goto 111 C dX5_adds_137 rfl ?_
                refine g_iload_n 112 C dX5_adds_111 rfl rfl ?_
                refine g_iconst 113 C dX5_adds_112 rfl ?_
                refine g_icmp_ge 140 116 C dX5_adds_113 rfl rfl (by omega) (by omega) (fun c113 => ?_) (fun c113 => ?_)
                · skip
                  exact absurd c113 (by omega)
                · skip
                  refine g_aload_n 117 C dX5_adds_116 rfl rfl ?_
                  refine g_getf 120 C dX5_adds_117 fl_RX5_22 rfl (by omega) m1 rfl rfl ?_
                  refine g_iconst 121 C dX5_adds_120 rfl ?_
                  refine g_iload_n 122 C dX5_adds_121 rfl rfl ?_
                  refine g_imul 123 C dX5_adds_122 rfl ?_
                  refine g_iload_n 124 C dX5_adds_123 rfl rfl ?_
                  refine g_iadd 125 C dX5_adds_124 rfl ?_
                  refine g_aload_n 126 C dX5_adds_125 rfl rfl ?_
                  refine g_getf 129 C dX5_adds_126 fl_RX5_7 rfl (by omega) m1 rfl rfl ?_
                  refine g_iload_n 130 C dX5_adds_129 rfl rfl ?_
                  refine g_iload_n 131 C dX5_adds_130 rfl rfl ?_
                  refine g_iadd 132 C dX5_adds_131 rfl ?_
                  refine g_iald 133 C dX5_adds_132 (by omega) hz1 (by omega) (by decide) rfl ?_
                  rw [show f (a + (0 + 1 + 1)) = x0.2 from ha3]
                  refine g_iast 134 C dX5_adds_133 (by omega) hd1 (by omega) (by decide) rfl ?_
                  refine g_ab (fun z => z (m + 5) = gI E 36 (gup (gup (gup f1 ((3 * ((q + 1 : Nat) : Int)) + 0) (x0.1 / 1000)) ((3 * ((q + 1 : Nat) : Int)) + (0 + 1)) (x0.1 % 1000)) ((3 * ((q + 1 : Nat) : Int)) + (0 + 1 + 1)) x0.2) ∧ gKp (m + 5) (m + 6) h z) ⟨up_s, gKp_tr hk1 (gKp_up (by omega))⟩ (fun h1 q1 => ?_)
                  obtain ⟨hd1, hk1⟩ := q1
                  have m1 := (hk1 m (by omega)).trans hm
                  have hz1 := (hk1 (m + 1) (by omega)).trans hz
                  refine g_iinc 137 [(3, _), (2, _), (0, _), (1, _)] C dX5_adds_134 rfl (by decide) rfl rfl ?_
                  refine g_goto 111 C dX5_adds_137 rfl ?_
                  refine g_iload_n 112 C dX5_adds_111 rfl rfl ?_
                  refine g_iconst 113 C dX5_adds_112 rfl ?_
                  refine g_icmp_ge 140 116 C dX5_adds_113 rfl rfl (by omega) (by omega) (fun c113 => ?_) (fun c113 => ?_)
                  · skip
                    refine g_aload_n 141 C dX5_adds_140 rfl rfl ?_
                    refine g_dup 142 C dX5_adds_141 rfl rfl ?_
                    refine g_getf 145 C dX5_adds_142 fl_RX5_112 rfl (by omega) m1 rfl rfl ?_
                    rw [h8]
                    refine g_iconst 146 C dX5_adds_145 rfl ?_
                    refine g_iadd 147 C dX5_adds_146 rfl ?_
                    refine g_putf 150 C dX5_adds_147 fp_RX5_112 rfl (by omega) m1 rfl rfl (Nat.le_of_ble_eq_true rfl) rfl ?_
                    exact g_vret C dX5_adds_150 rfl ⟨by decide, by decide⟩ (by
                        obtain ⟨r1, r2⟩ := Rp_ins (f := (gup (gup (gup f1 ((3 * ((q + 1 : Nat) : Int)) + 0) (x0.1 / 1000)) ((3 * ((q + 1 : Nat) : Int)) + (0 + 1)) (x0.1 % 1000)) ((3 * ((q + 1 : Nat) : Int)) + (0 + 1 + 1)) x0.2)) (b := -1) (x := x0) (j := (q + 1)) (by omega) (fun p y9 hp hy9 => (hA p y9 (by omega) hy9).kept (fun i9 q1 q2 => (gup_ne (by omega)).trans ((gup_ne (by omega)).trans (gup_ne (by omega))))) (fun p y9 hp hy9 => ⟨(hB p y9 (by omega) hy9).1.kept (fun i9 q1 q2 => (gup_ne (by omega)).trans ((gup_ne (by omega)).trans (gup_ne (by omega)))), (hB p y9 (by omega) hy9).2⟩) ⟨(gup_ne (by omega)).trans ((gup_ne (by omega)).trans (gup_eq (by omega))), (gup_ne (by omega)).trans (gup_eq (by omega)), gup_eq (by omega)⟩ hst
                        exact ⟨rfl, rfl, rfl, by rw [show ((l.length : Int) + 1) = g 8 + 1 by rw [h8]]; exact up_s, ⟨_, (up_n (by omega)).trans hd1, r1⟩, fun x9 z1 z2 => (up_n z1).trans (hk1 x9 (by omega))⟩)
                  · skip
                    exact absurd c113 (by omega)
          · skip
            refine g_aload_n 48 C dX5_adds_47 rfl rfl ?_
            refine g_getf 51 C dX5_adds_48 fl_RX5_22 rfl (by omega) m1 rfl rfl ?_
            refine g_iconst 52 C dX5_adds_51 rfl ?_
            refine g_iload_n 53 C dX5_adds_52 rfl rfl ?_
            refine g_imul 54 C dX5_adds_53 rfl ?_
            refine g_iconst 55 C dX5_adds_54 rfl ?_
            refine g_isub 56 C dX5_adds_55 rfl ?_
            refine g_iald 57 C dX5_adds_56 (by omega) hd1 (by omega) (by decide) rfl ?_
            rw [show 3 * ((q + 1 : Nat) : Int) - 2 = 3 * ((q + 1 : Nat) : Int) - 3 + 1 by omega, y2]
            refine g_aload_n 58 C dX5_adds_57 rfl rfl ?_
            refine g_getf 61 C dX5_adds_58 fl_RX5_7 rfl (by omega) m1 rfl rfl ?_
            refine g_iload_n 62 C dX5_adds_61 rfl rfl ?_
            refine g_iconst 63 C dX5_adds_62 rfl ?_
            refine g_iadd 64 C dX5_adds_63 rfl ?_
            refine g_iald 65 C dX5_adds_64 (by omega) hz1 (by omega) (by decide) rfl ?_
            rw [ha2]
            refine g_icmp_le 109 68 C dX5_adds_65 rfl rfl (by omega) (by omega) (fun c65 => ?_) (fun c65 => ?_)
            · skip
              have hst : ∀ y9, (l.take (q + 1)).getLast? = some y9 → ¬ x0.1 < y9.1 := fun y9 hy9 => by
                rw [take_s hy, List.getLast?_concat] at hy9
                cases hy9
                omega
              refine g_iconst 110 C dX5_adds_109 rfl ?_
              refine g_istore_n 111 [(3, _), (2, _), (0, _), (1, _)] C dX5_adds_110 (by decide) rfl rfl ?_
              refine g_iload_n 112 C dX5_adds_111 rfl rfl ?_
              refine g_iconst 113 C dX5_adds_112 rfl ?_
              refine g_icmp_ge 140 116 C dX5_adds_113 rfl rfl (by omega) (by omega) (fun c113 => ?_) (fun c113 => ?_)
              · skip
                exact absurd c113 (by omega)
              · skip
                refine g_aload_n 117 C dX5_adds_116 rfl rfl ?_
                refine g_getf 120 C dX5_adds_117 fl_RX5_22 rfl (by omega) m1 rfl rfl ?_
                refine g_iconst 121 C dX5_adds_120 rfl ?_
                refine g_iload_n 122 C dX5_adds_121 rfl rfl ?_
                refine g_imul 123 C dX5_adds_122 rfl ?_
                refine g_iload_n 124 C dX5_adds_123 rfl rfl ?_
                refine g_iadd 125 C dX5_adds_124 rfl ?_
                refine g_aload_n 126 C dX5_adds_125 rfl rfl ?_
                refine g_getf 129 C dX5_adds_126 fl_RX5_7 rfl (by omega) m1 rfl rfl ?_
                refine g_iload_n 130 C dX5_adds_129 rfl rfl ?_
                refine g_iload_n 131 C dX5_adds_130 rfl rfl ?_
                refine g_iadd 132 C dX5_adds_131 rfl ?_
                refine g_iald 133 C dX5_adds_132 (by omega) hz1 (by omega) (by decide) rfl ?_
                rw [show f (a + 0) = x0.1 / 1000 by rw [Int.add_zero]; exact ha1]
                refine g_iast 134 C dX5_adds_133 (by omega) hd1 (by omega) (by decide) rfl ?_
                refine g_ab (fun z => z (m + 5) = gI E 36 (gup f1 ((3 * ((q + 1 : Nat) : Int)) + 0) (x0.1 / 1000)) ∧ gKp (m + 5) (m + 6) h z) ⟨up_s, gKp_tr hk1 (gKp_up (by omega))⟩ (fun h1 q1 => ?_)
                obtain ⟨hd1, hk1⟩ := q1
                have m1 := (hk1 m (by omega)).trans hm
                have hz1 := (hk1 (m + 1) (by omega)).trans hz
                refine g_iinc 137 [(3, _), (2, _), (0, _), (1, _)] C dX5_adds_134 rfl (by decide) rfl rfl ?_
                refine g_goto 111 C dX5_adds_137 rfl ?_
                refine g_iload_n 112 C dX5_adds_111 rfl rfl ?_
                refine g_iconst 113 C dX5_adds_112 rfl ?_
                refine g_icmp_ge 140 116 C dX5_adds_113 rfl rfl (by omega) (by omega) (fun c113 => ?_) (fun c113 => ?_)
                · skip
                  exact absurd c113 (by omega)
                · skip
                  refine g_aload_n 117 C dX5_adds_116 rfl rfl ?_
                  refine g_getf 120 C dX5_adds_117 fl_RX5_22 rfl (by omega) m1 rfl rfl ?_
                  refine g_iconst 121 C dX5_adds_120 rfl ?_
                  refine g_iload_n 122 C dX5_adds_121 rfl rfl ?_
                  refine g_imul 123 C dX5_adds_122 rfl ?_
                  refine g_iload_n 124 C dX5_adds_123 rfl rfl ?_
                  refine g_iadd 125 C dX5_adds_124 rfl ?_
                  refine g_aload_n 126 C dX5_adds_125 rfl rfl ?_
                  refine g_getf 129 C dX5_adds_126 fl_RX5_7 rfl (by omega) m1 rfl rfl ?_
                  refine g_iload_n 130 C dX5_adds_129 rfl rfl ?_
                  refine g_iload_n 131 C dX5_adds_130 rfl rfl ?_
                  refine g_iadd 132 C dX5_adds_131 rfl ?_
                  refine g_iald 133 C dX5_adds_132 (by omega) hz1 (by omega) (by decide) rfl ?_
                  rw [show f (a + (0 + 1)) = x0.1 % 1000 from ha2]
                  refine g_iast 134 C dX5_adds_133 (by omega) hd1 (by omega) (by decide) rfl ?_
                  refine g_ab (fun z => z (m + 5) = gI E 36 (gup (gup f1 ((3 * ((q + 1 : Nat) : Int)) + 0) (x0.1 / 1000)) ((3 * ((q + 1 : Nat) : Int)) + (0 + 1)) (x0.1 % 1000)) ∧ gKp (m + 5) (m + 6) h z) ⟨up_s, gKp_tr hk1 (gKp_up (by omega))⟩ (fun h1 q1 => ?_)
                  obtain ⟨hd1, hk1⟩ := q1
                  have m1 := (hk1 m (by omega)).trans hm
                  have hz1 := (hk1 (m + 1) (by omega)).trans hz
                  refine g_iinc 137 [(3, _), (2, _), (0, _), (1, _)] C dX5_adds_134 rfl (by decide) rfl rfl ?_
                  refine g_goto 111 C dX5_adds_137 rfl ?_
                  refine g_iload_n 112 C dX5_adds_111 rfl rfl ?_
                  refine g_iconst 113 C dX5_adds_112 rfl ?_
                  refine g_icmp_ge 140 116 C dX5_adds_113 rfl rfl (by omega) (by omega) (fun c113 => ?_) (fun c113 => ?_)
                  · skip
                    exact absurd c113 (by omega)
                  · skip
                    refine g_aload_n 117 C dX5_adds_116 rfl rfl ?_
                    refine g_getf 120 C dX5_adds_117 fl_RX5_22 rfl (by omega) m1 rfl rfl ?_
                    refine g_iconst 121 C dX5_adds_120 rfl ?_
                    refine g_iload_n 122 C dX5_adds_121 rfl rfl ?_
                    refine g_imul 123 C dX5_adds_122 rfl ?_
                    refine g_iload_n 124 C dX5_adds_123 rfl rfl ?_
                    refine g_iadd 125 C dX5_adds_124 rfl ?_
                    refine g_aload_n 126 C dX5_adds_125 rfl rfl ?_
                    refine g_getf 129 C dX5_adds_126 fl_RX5_7 rfl (by omega) m1 rfl rfl ?_
                    refine g_iload_n 130 C dX5_adds_129 rfl rfl ?_
                    refine g_iload_n 131 C dX5_adds_130 rfl rfl ?_
                    refine g_iadd 132 C dX5_adds_131 rfl ?_
                    refine g_iald 133 C dX5_adds_132 (by omega) hz1 (by omega) (by decide) rfl ?_
                    rw [show f (a + (0 + 1 + 1)) = x0.2 from ha3]
                    refine g_iast 134 C dX5_adds_133 (by omega) hd1 (by omega) (by decide) rfl ?_
                    refine g_ab (fun z => z (m + 5) = gI E 36 (gup (gup (gup f1 ((3 * ((q + 1 : Nat) : Int)) + 0) (x0.1 / 1000)) ((3 * ((q + 1 : Nat) : Int)) + (0 + 1)) (x0.1 % 1000)) ((3 * ((q + 1 : Nat) : Int)) + (0 + 1 + 1)) x0.2) ∧ gKp (m + 5) (m + 6) h z) ⟨up_s, gKp_tr hk1 (gKp_up (by omega))⟩ (fun h1 q1 => ?_)
                    obtain ⟨hd1, hk1⟩ := q1
                    have m1 := (hk1 m (by omega)).trans hm
                    have hz1 := (hk1 (m + 1) (by omega)).trans hz
                    refine g_iinc 137 [(3, _), (2, _), (0, _), (1, _)] C dX5_adds_134 rfl (by decide) rfl rfl ?_
                    refine g_goto 111 C dX5_adds_137 rfl ?_
                    refine g_iload_n 112 C dX5_adds_111 rfl rfl ?_
                    refine g_iconst 113 C dX5_adds_112 rfl ?_
                    refine g_icmp_ge 140 116 C dX5_adds_113 rfl rfl (by omega) (by omega) (fun c113 => ?_) (fun c113 => ?_)
                    · skip
                      refine g_aload_n 141 C dX5_adds_140 rfl rfl ?_
                      refine g_dup 142 C dX5_adds_141 rfl rfl ?_
                      refine g_getf 145 C dX5_adds_142 fl_RX5_112 rfl (by omega) m1 rfl rfl ?_
                      rw [h8]
                      refine g_iconst 146 C dX5_adds_145 rfl ?_
                      refine g_iadd 147 C dX5_adds_146 rfl ?_
                      refine g_putf 150 C dX5_adds_147 fp_RX5_112 rfl (by omega) m1 rfl rfl (Nat.le_of_ble_eq_true rfl) rfl ?_
                      exact g_vret C dX5_adds_150 rfl ⟨by decide, by decide⟩ (by
                          obtain ⟨r1, r2⟩ := Rp_ins (f := (gup (gup (gup f1 ((3 * ((q + 1 : Nat) : Int)) + 0) (x0.1 / 1000)) ((3 * ((q + 1 : Nat) : Int)) + (0 + 1)) (x0.1 % 1000)) ((3 * ((q + 1 : Nat) : Int)) + (0 + 1 + 1)) x0.2)) (b := -1) (x := x0) (j := (q + 1)) (by omega) (fun p y9 hp hy9 => (hA p y9 (by omega) hy9).kept (fun i9 q1 q2 => (gup_ne (by omega)).trans ((gup_ne (by omega)).trans (gup_ne (by omega))))) (fun p y9 hp hy9 => ⟨(hB p y9 (by omega) hy9).1.kept (fun i9 q1 q2 => (gup_ne (by omega)).trans ((gup_ne (by omega)).trans (gup_ne (by omega)))), (hB p y9 (by omega) hy9).2⟩) ⟨(gup_ne (by omega)).trans ((gup_ne (by omega)).trans (gup_eq (by omega))), (gup_ne (by omega)).trans (gup_eq (by omega)), gup_eq (by omega)⟩ hst
                          exact ⟨rfl, rfl, rfl, by rw [show ((l.length : Int) + 1) = g 8 + 1 by rw [h8]]; exact up_s, ⟨_, (up_n (by omega)).trans hd1, r1⟩, fun x9 z1 z2 => (up_n z1).trans (hk1 x9 (by omega))⟩)
                    · skip
                      exact absurd c113 (by omega)
            · skip
              have hgt : x0.1 < y.1 := by omega
              refine g_iconst 69 C dX5_adds_68 rfl ?_
              refine g_istore_n 70 [(3, _), (2, _), (0, _), (1, _)] C dX5_adds_69 (by decide) rfl rfl ?_
              refine g_iload_n 71 C dX5_adds_70 rfl rfl ?_
              refine g_iconst 72 C dX5_adds_71 rfl ?_
              refine g_icmp_ge 103 75 C dX5_adds_72 rfl rfl (by omega) (by omega) (fun c72 => ?_) (fun c72 => ?_)
              · skip
                exact absurd c72 (by omega)
              · skip
                refine g_aload_n 76 C dX5_adds_75 rfl rfl ?_
                refine g_getf 79 C dX5_adds_76 fl_RX5_22 rfl (by omega) m1 rfl rfl ?_
                refine g_iconst 80 C dX5_adds_79 rfl ?_
                refine g_iload_n 81 C dX5_adds_80 rfl rfl ?_
                refine g_imul 82 C dX5_adds_81 rfl ?_
                refine g_iload_n 83 C dX5_adds_82 rfl rfl ?_
                refine g_iadd 84 C dX5_adds_83 rfl ?_
                refine g_aload_n 85 C dX5_adds_84 rfl rfl ?_
                refine g_getf 88 C dX5_adds_85 fl_RX5_22 rfl (by omega) m1 rfl rfl ?_
                refine g_iconst 89 C dX5_adds_88 rfl ?_
                refine g_iload_n 90 C dX5_adds_89 rfl rfl ?_
                refine g_imul 91 C dX5_adds_90 rfl ?_
                refine g_iconst 92 C dX5_adds_91 rfl ?_
                refine g_isub 93 C dX5_adds_92 rfl ?_
                refine g_iload_n 94 C dX5_adds_93 rfl rfl ?_
                refine g_iadd 95 C dX5_adds_94 rfl ?_
                refine g_iald 96 C dX5_adds_95 (by omega) hd1 (by omega) (by decide) rfl ?_
                rw [show f1 ((3 * ((q + 1 : Nat) : Int) - 3) + 0) = y.1 / 1000 by rw [Int.add_zero]; exact y1]
                refine g_iast 97 C dX5_adds_96 (by omega) hd1 (by omega) (by decide) rfl ?_
                refine g_ab (fun z => z (m + 5) = gI E 36 (gup f1 ((3 * ((q + 1 : Nat) : Int)) + 0) (y.1 / 1000)) ∧ gKp (m + 5) (m + 6) h z) ⟨up_s, gKp_tr hk1 (gKp_up (by omega))⟩ (fun h1 q1 => ?_)
                obtain ⟨hd1, hk1⟩ := q1
                have m1 := (hk1 m (by omega)).trans hm
                have hz1 := (hk1 (m + 1) (by omega)).trans hz
                refine g_iinc 100 [(3, _), (2, _), (0, _), (1, _)] C dX5_adds_97 rfl (by decide) rfl rfl ?_
                refine g_goto 70 C dX5_adds_100 rfl ?_
                refine g_iload_n 71 C dX5_adds_70 rfl rfl ?_
                refine g_iconst 72 C dX5_adds_71 rfl ?_
                refine g_icmp_ge 103 75 C dX5_adds_72 rfl rfl (by omega) (by omega) (fun c72 => ?_) (fun c72 => ?_)
                · skip
                  exact absurd c72 (by omega)
                · skip
                  refine g_aload_n 76 C dX5_adds_75 rfl rfl ?_
                  refine g_getf 79 C dX5_adds_76 fl_RX5_22 rfl (by omega) m1 rfl rfl ?_
                  refine g_iconst 80 C dX5_adds_79 rfl ?_
                  refine g_iload_n 81 C dX5_adds_80 rfl rfl ?_
                  refine g_imul 82 C dX5_adds_81 rfl ?_
                  refine g_iload_n 83 C dX5_adds_82 rfl rfl ?_
                  refine g_iadd 84 C dX5_adds_83 rfl ?_
                  refine g_aload_n 85 C dX5_adds_84 rfl rfl ?_
                  refine g_getf 88 C dX5_adds_85 fl_RX5_22 rfl (by omega) m1 rfl rfl ?_
                  refine g_iconst 89 C dX5_adds_88 rfl ?_
                  refine g_iload_n 90 C dX5_adds_89 rfl rfl ?_
                  refine g_imul 91 C dX5_adds_90 rfl ?_
                  refine g_iconst 92 C dX5_adds_91 rfl ?_
                  refine g_isub 93 C dX5_adds_92 rfl ?_
                  refine g_iload_n 94 C dX5_adds_93 rfl rfl ?_
                  refine g_iadd 95 C dX5_adds_94 rfl ?_
                  refine g_iald 96 C dX5_adds_95 (by omega) hd1 (by omega) (by decide) rfl ?_
                  rw [show (gup f1 ((3 * ((q + 1 : Nat) : Int)) + 0) (y.1 / 1000)) ((3 * ((q + 1 : Nat) : Int) - 3) + (0 + 1)) = y.1 % 1000 from (gup_ne (by omega)).trans y2]
                  refine g_iast 97 C dX5_adds_96 (by omega) hd1 (by omega) (by decide) rfl ?_
                  refine g_ab (fun z => z (m + 5) = gI E 36 (gup (gup f1 ((3 * ((q + 1 : Nat) : Int)) + 0) (y.1 / 1000)) ((3 * ((q + 1 : Nat) : Int)) + (0 + 1)) (y.1 % 1000)) ∧ gKp (m + 5) (m + 6) h z) ⟨up_s, gKp_tr hk1 (gKp_up (by omega))⟩ (fun h1 q1 => ?_)
                  obtain ⟨hd1, hk1⟩ := q1
                  have m1 := (hk1 m (by omega)).trans hm
                  have hz1 := (hk1 (m + 1) (by omega)).trans hz
                  refine g_iinc 100 [(3, _), (2, _), (0, _), (1, _)] C dX5_adds_97 rfl (by decide) rfl rfl ?_
                  refine g_goto 70 C dX5_adds_100 rfl ?_
                  refine g_iload_n 71 C dX5_adds_70 rfl rfl ?_
                  refine g_iconst 72 C dX5_adds_71 rfl ?_
                  refine g_icmp_ge 103 75 C dX5_adds_72 rfl rfl (by omega) (by omega) (fun c72 => ?_) (fun c72 => ?_)
                  · skip
                    exact absurd c72 (by omega)
                  · skip
                    refine g_aload_n 76 C dX5_adds_75 rfl rfl ?_
                    refine g_getf 79 C dX5_adds_76 fl_RX5_22 rfl (by omega) m1 rfl rfl ?_
                    refine g_iconst 80 C dX5_adds_79 rfl ?_
                    refine g_iload_n 81 C dX5_adds_80 rfl rfl ?_
                    refine g_imul 82 C dX5_adds_81 rfl ?_
                    refine g_iload_n 83 C dX5_adds_82 rfl rfl ?_
                    refine g_iadd 84 C dX5_adds_83 rfl ?_
                    refine g_aload_n 85 C dX5_adds_84 rfl rfl ?_
                    refine g_getf 88 C dX5_adds_85 fl_RX5_22 rfl (by omega) m1 rfl rfl ?_
                    refine g_iconst 89 C dX5_adds_88 rfl ?_
                    refine g_iload_n 90 C dX5_adds_89 rfl rfl ?_
                    refine g_imul 91 C dX5_adds_90 rfl ?_
                    refine g_iconst 92 C dX5_adds_91 rfl ?_
                    refine g_isub 93 C dX5_adds_92 rfl ?_
                    refine g_iload_n 94 C dX5_adds_93 rfl rfl ?_
                    refine g_iadd 95 C dX5_adds_94 rfl ?_
                    refine g_iald 96 C dX5_adds_95 (by omega) hd1 (by omega) (by decide) rfl ?_
                    rw [show (gup (gup f1 ((3 * ((q + 1 : Nat) : Int)) + 0) (y.1 / 1000)) ((3 * ((q + 1 : Nat) : Int)) + (0 + 1)) (y.1 % 1000)) ((3 * ((q + 1 : Nat) : Int) - 3) + (0 + 1 + 1)) = y.2 from (gup_ne (by omega)).trans ((gup_ne (by omega)).trans y3)]
                    refine g_iast 97 C dX5_adds_96 (by omega) hd1 (by omega) (by decide) rfl ?_
                    refine g_ab (fun z => z (m + 5) = gI E 36 (gup (gup (gup f1 ((3 * ((q + 1 : Nat) : Int)) + 0) (y.1 / 1000)) ((3 * ((q + 1 : Nat) : Int)) + (0 + 1)) (y.1 % 1000)) ((3 * ((q + 1 : Nat) : Int)) + (0 + 1 + 1)) y.2) ∧ gKp (m + 5) (m + 6) h z) ⟨up_s, gKp_tr hk1 (gKp_up (by omega))⟩ (fun h1 q1 => ?_)
                    obtain ⟨hd1, hk1⟩ := q1
                    have m1 := (hk1 m (by omega)).trans hm
                    have hz1 := (hk1 (m + 1) (by omega)).trans hz
                    refine g_iinc 100 [(3, _), (2, _), (0, _), (1, _)] C dX5_adds_97 rfl (by decide) rfl rfl ?_
                    refine g_goto 70 C dX5_adds_100 rfl ?_
                    refine g_iload_n 71 C dX5_adds_70 rfl rfl ?_
                    refine g_iconst 72 C dX5_adds_71 rfl ?_
                    refine g_icmp_ge 103 75 C dX5_adds_72 rfl rfl (by omega) (by omega) (fun c72 => ?_) (fun c72 => ?_)
                    · skip
                      have hA8 : ∀ (p : Nat) (y9 : Int × Int), p < q → l[p]? = some y9 → Ey (gup (gup (gup f1 ((3 * ((q + 1 : Nat) : Int)) + 0) (y.1 / 1000)) ((3 * ((q + 1 : Nat) : Int)) + (0 + 1)) (y.1 % 1000)) ((3 * ((q + 1 : Nat) : Int)) + (0 + 1 + 1)) y.2) (-1) p y9 := fun p y9 hp hy9 => (hA p y9 (by omega) hy9).kept (fun i9 q1 q2 => (gup_ne (by omega)).trans ((gup_ne (by omega)).trans (gup_ne (by omega))))
                      have hB8 : ∀ (p : Nat) (y9 : Int × Int), q ≤ p → l[p]? = some y9 → Ey (gup (gup (gup f1 ((3 * ((q + 1 : Nat) : Int)) + 0) (y.1 / 1000)) ((3 * ((q + 1 : Nat) : Int)) + (0 + 1)) (y.1 % 1000)) ((3 * ((q + 1 : Nat) : Int)) + (0 + 1 + 1)) y.2) (-1) (p + 1) y9 ∧ x0.1 < y9.1 := fun p y9 hp hy9 => by
                        by_cases e : p = q
                        · subst e
                          cases hy.symm.trans hy9
                          exact ⟨⟨(gup_ne (by omega)).trans ((gup_ne (by omega)).trans (gup_eq (by omega))), (gup_ne (by omega)).trans (gup_eq (by omega)), gup_eq (by omega)⟩, hgt⟩
                        · exact ⟨(hB p y9 (by omega) hy9).1.kept (fun i9 q1 q2 => (gup_ne (by omega)).trans ((gup_ne (by omega)).trans (gup_ne (by omega)))), (hB p y9 (by omega) hy9).2⟩
                      refine g_iinc 106 [(2, _), (3, _), (0, _), (1, _)] C dX5_adds_103 rfl (by decide) rfl rfl ?_
                      refine g_goto 5 C dX5_adds_106 rfl ?_
                      refine g_loc [(2, .int (gi (q : Int))), (0, _), (1, _)] ⟨(by rw [show (q : Int) = ((q + 1 : Nat) : Int) + -1 by omega]; rfl), rfl, rfl, trivial⟩ ?_
                      exact ih5 q _ _ (by omega) hd1 hk1 hA8 hB8 (by omega)
                    · skip
                      exact absurd c72 (by omega)
  refine g_loc [(2, _), (0, _), (1, _)] ⟨rfl, rfl, rfl, trivial⟩ ?_
  exact lp5 _ l.length h fd (Nat.le_refl _) hd gKp_rf (fun p y _ hy => hl p y hy) (fun p y hp hy => absurd (List.getElem?_eq_some_iff.mp hy).1 (by omega)) (Nat.lt_succ_self _)
