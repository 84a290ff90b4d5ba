/-! SiblingJoinsModel: what a pull would give -/
def stay (V2 : Int → Int) (l2 : List (Int × Int)) (p : Int × Int) : Bool := !(drp V2 l2 p.1)
def fIn (acc L : List (Int × Int)) : List (Int × Int) := L.foldl (fun acc y => insr y acc) acc
/-- what the store s has after pulling from o, however many -/
def trL (K : gKy) (s o : Int) : List (Int × Int) := fIn ((K.2.2.2 s).filter (stay (K.2.2.1 o) (K.2.2.2 o))) ((K.2.2.2 o).filter (fun p => isN (K.2.2.1 s) (K.2.2.2 s) p.1))
theorem fIn_s {acc L : List (Int × Int)} {y : Int × Int} : fIn acc (L ++ [y]) = insr y (fIn acc L) := by
  unfold fIn
  rw [List.foldl_append]
  rfl
theorem fIn_len {L : List (Int × Int)} : ∀ acc : List (Int × Int), (fIn acc L).length = acc.length + L.length := by
  induction L with
  | nil => intro acc; rfl
  | cons y L ih =>
    intro acc
    show (fIn (insr y acc) L).length = _
    rw [ih, insr_len, List.length_cons]
    omega
theorem fIn_mem {L : List (Int × Int)} : ∀ (acc : List (Int × Int)) (z : Int × Int), z ∈ fIn acc L → z ∈ acc ∨ z ∈ L := by
  induction L with
  | nil => intro acc z h; exact Or.inl h
  | cons y L ih =>
    intro acc z h
    rcases ih (insr y acc) z h with h | h
    · rcases insr_mem h with h | h
      · exact Or.inr (by rw [h]; exact List.mem_cons_self)
      · exact Or.inl h
    · exact Or.inr (List.mem_cons_of_mem _ h)
theorem insr_end {l : List (Int × Int)} {y : Int × Int} (h : ∀ z ∈ l, z.1 < y.1) : insr y l = l ++ [y] := by
  have e := insr_of (x := y) (A := l) (B := []) (fun z hz => absurd hz List.not_mem_nil) (fun z hz => by
    have := h z (List.mem_of_getLast? hz)
    omega)
  rw [List.append_nil] at e
  exact e
theorem srt_take {l : List (Int × Int)} {i : Nat} {y z : Int × Int} (h : srt l) (hy : l[i]? = some y) (hz : z ∈ l.take i) : z.1 < y.1 := by
  obtain ⟨p, hp⟩ := List.getElem?_of_mem hz
  have hlt := (List.getElem?_eq_some_iff.mp hp).1
  rw [List.length_take] at hlt
  rw [List.getElem?_take_of_lt (by omega)] at hp
  obtain ⟨p1, p2⟩ := List.getElem?_eq_some_iff.mp hp
  obtain ⟨i1, i2⟩ := List.getElem?_eq_some_iff.mp hy
  have e := List.pairwise_iff_getElem.mp h p i p1 i1 (by omega)
  rw [p2, i2] at e
  exact e
set_option maxRecDepth 100000 in
set_option maxHeartbeats 4000000 in
theorem c_X5_tries {E : gEnv} {n : Nat} {σ : Option Nat} {h : gH} (m : Nat) (g : Int → Int) (hs : Int64) (f : Int → Int) (k : Int) (K : gKy) (fd : Int → Int) (s o : Int) (hmb : gB E ≤ m ∧ m + 7 ≤ gB E + n) (hm : isMo h m g hs) (hz : h (m + 1) = gI E 311 f) (hk : 0 ≤ k ∧ k < 3) (hR : Rk f k K) (hok : okK K) (hss : 0 ≤ s ∧ s < 3) (ho : 0 ≤ o ∧ o < 3) (hO : okO K) (hd : h (m + 5) = gI E 36 fd)  : gM E mX5_tries [.ref m, .int (gi s), .int (gi o), .int (gi k)] n σ h (gD none n σ (fun h9 => ∃ g9 fd9 : Int → Int, isMo h9 m g9 hs ∧ g9 8 = ((trL K s o).length : Int) ∧ g9 9 = pLost K s o ∧ g9 10 = pGain K s o ∧ (∀ j : Int, j ≠ 8 → j ≠ 9 → j ≠ 10 → g9 j = g j) ∧ h9 (m + 5) = gI E 36 fd9 ∧ Rp fd9 (-1) (trL K s o) ∧ ∀ x9 : Nat, x9 ≠ m → x9 ≠ m + 5 → h9 x9 = h x9)) (gNo) := by
  have hm9 := hm
  unfold isMo at hm
  have hR9 := hR
  have hok9 := hok
  obtain ⟨rW, rN, rV, rL⟩ := hR
  obtain ⟨oW, oN, oV, oL⟩ := hok
  have h4 := (oL s (by omega) (by omega)).1
  have h42 := (oL o (by omega) (by omega)).1
  have hsl := rL s (by omega) (by omega)
  have hsr := hO s hss.1 hss.2
  have m1 := hm
  have hz1 := hz
  refine gM_of (by decide) (Nat.le_of_ble_eq_true rfl) (fun F C => ?_)
  refine g_aload_n 1 C dX5_tries_0 rfl rfl ?_
  refine g_iconst 2 C dX5_tries_1 rfl ?_
  refine g_putf 5 C dX5_tries_2 fp_RX5_112 rfl (by omega) hm rfl rfl (Nat.le_of_ble_eq_true rfl) rfl ?_
  refine g_aload_n 6 C dX5_tries_5 rfl rfl ?_
  refine g_iconst 7 C dX5_tries_6 rfl ?_
  refine g_putf 10 C dX5_tries_7 fp_RX5_115 rfl (by omega) up_s rfl rfl (Nat.le_of_ble_eq_true rfl) rfl ?_
  refine g_aload_n 11 C dX5_tries_10 rfl rfl ?_
  refine g_iconst 12 C dX5_tries_11 rfl ?_
  refine g_putf 15 C dX5_tries_12 fp_RX5_118 rfl (by omega) up_s rfl rfl (Nat.le_of_ble_eq_true rfl) rfl ?_
  refine g_iconst 16 C dX5_tries_15 rfl ?_
  refine g_istore 18 [(4, _), (0, _), (1, _), (2, _), (3, _)] C dX5_tries_16 (by decide) rfl rfl ?_
  have lp18 : ∀ (k9 : Nat) (i : Nat) (h1 : gH) (g1 f1 : Int → Int), (i ≤ (K.2.2.2 s).length) → (isMo h1 m g1 hs) → (g1 8 = ((((K.2.2.2 s).take i).filter (stay (K.2.2.1 o) (K.2.2.2 o))).length : Int)) → (g1 9 = ((((K.2.2.2 s).take i).countP (fun p : Int × Int => drp (K.2.2.1 o) (K.2.2.2 o) p.1) : Nat) : Int)) → (g1 10 = 0) → (∀ j : Int, j ≠ 8 → j ≠ 9 → j ≠ 10 → g1 j = g j) → (h1 (m + 5) = gI E 36 f1) → (Rp f1 (-1) (((K.2.2.2 s).take i).filter (stay (K.2.2.1 o) (K.2.2.2 o)))) → (∀ x9 : Nat, x9 ≠ m → x9 ≠ m + 5 → h1 x9 = h x9) → (K.2.2.2 s).length - i < k9 → G E F mX5_tries (gQ E F mX5_tries n (gD none n σ (fun h9 => ∃ g9 fd9 : Int → Int, isMo h9 m g9 hs ∧ g9 8 = ((trL K s o).length : Int) ∧ g9 9 = pLost K s o ∧ g9 10 = pGain K s o ∧ (∀ j : Int, j ≠ 8 → j ≠ 9 → j ≠ 10 → g9 j = g j) ∧ h9 (m + 5) = gI E 36 fd9 ∧ Rp fd9 (-1) (trL K s o) ∧ ∀ x9 : Nat, x9 ≠ m → x9 ≠ m + 5 → h9 x9 = h x9)) (gNo)) n σ h1 0 0 18 [(4, .int (gi (i : Int))), (0, .ref m), (1, .int (gi s)), (2, .int (gi o)), (3, .int (gi k))] [] := by
    intro k9
    induction k9 with
    | zero => intro i h1 g1 f1 hi hm1 hg8 hg9 hg0 hgk hd1 hr1 hkk h0; exact absurd h0 (Nat.not_lt_zero _)
    | succ k9 ih18 =>
      intro i h1 g1 f1 hi hm1 hg8 hg9 hg0 hgk hd1 hr1 hkk hk18
      have m1 := hm1
      unfold isMo at m1
      have hz1 := (hkk (m + 1) (by omega) (by omega)).trans hz
      have hAl : (((K.2.2.2 s).take i).filter (stay (K.2.2.1 o) (K.2.2.2 o))).length ≤ 4 := Nat.le_trans (List.length_filter_le _ _) (by rw [List.length_take]; omega)
      have hAm : ∀ p ∈ (((K.2.2.2 s).take i).filter (stay (K.2.2.1 o) (K.2.2.2 o))), 0 ≤ p.1 ∧ p.1 < 5000 := fun p hp => by
        have z := (oL s hss.1 hss.2).2 p (List.mem_of_mem_take (List.mem_filter.mp hp).1)
        exact ⟨z.1, z.2.1⟩
      refine g_iload 20 C dX5_tries_18 rfl rfl ?_
      refine g_aload_n 21 C dX5_tries_20 rfl rfl ?_
      refine g_iload_n 22 C dX5_tries_21 rfl rfl ?_
      refine g_iload_n 23 C dX5_tries_22 rfl rfl ?_
      refine g_V2r 26 0 0 C dX5_tries_23 rfl lk_RX5_47 gi_X5_siblings gv_X5_siblings ⟨_, _, rfl⟩ (by omega) m1 ⟨⟨by decide, by decide⟩, by decide, by decide⟩ (Nat.le_of_ble_eq_true rfl) rfl rfl rfl (c_X5_siblings m g1 hs f k s (K.2.2.2 s) hmb hm1 hz1 hk (by omega) (rL s (by omega) (by omega))) g_no (fun h9 e23 => ?_)
      replace e23 := e23.symm
      subst e23
      refine g_icmp_ge 120 29 C dX5_tries_26 rfl rfl (by omega) (by omega) (fun c26 => ?_) (fun c26 => ?_)
      · skip
        have hil : i = (K.2.2.2 s).length := by omega
        refine g_iconst 121 C dX5_tries_120 rfl ?_
        refine g_istore 123 [(4, _), (0, _), (1, _), (2, _), (3, _)] C dX5_tries_121 (by decide) rfl rfl ?_
        have lp123 : ∀ (k9 : Nat) (i : Nat) (h1 : gH) (g1 f1 : Int → Int), (i ≤ (K.2.2.2 o).length) → (isMo h1 m g1 hs) → (g1 8 = ((fIn ((K.2.2.2 s).filter (stay (K.2.2.1 o) (K.2.2.2 o))) (((K.2.2.2 o).take i).filter (fun p : Int × Int => isN (K.2.2.1 s) (K.2.2.2 s) p.1))).length : Int)) → (g1 9 = pLost K s o) → (g1 10 = ((((K.2.2.2 o).take i).countP (fun p : Int × Int => isN (K.2.2.1 s) (K.2.2.2 s) p.1) : Nat) : Int)) → (∀ j : Int, j ≠ 8 → j ≠ 9 → j ≠ 10 → g1 j = g j) → (h1 (m + 5) = gI E 36 f1) → (Rp f1 (-1) (fIn ((K.2.2.2 s).filter (stay (K.2.2.1 o) (K.2.2.2 o))) (((K.2.2.2 o).take i).filter (fun p : Int × Int => isN (K.2.2.1 s) (K.2.2.2 s) p.1)))) → (∀ x9 : Nat, x9 ≠ m → x9 ≠ m + 5 → h1 x9 = h x9) → (K.2.2.2 o).length - i < k9 → G E F mX5_tries (gQ E F mX5_tries n (gD none n σ (fun h9 => ∃ g9 fd9 : Int → Int, isMo h9 m g9 hs ∧ g9 8 = ((trL K s o).length : Int) ∧ g9 9 = pLost K s o ∧ g9 10 = pGain K s o ∧ (∀ j : Int, j ≠ 8 → j ≠ 9 → j ≠ 10 → g9 j = g j) ∧ h9 (m + 5) = gI E 36 fd9 ∧ Rp fd9 (-1) (trL K s o) ∧ ∀ x9 : Nat, x9 ≠ m → x9 ≠ m + 5 → h9 x9 = h x9)) (gNo)) n σ h1 0 0 123 [(4, .int (gi (i : Int))), (0, .ref m), (1, .int (gi s)), (2, .int (gi o)), (3, .int (gi k))] [] := by
          intro k9
          induction k9 with
          | zero => intro i h1 g1 f1 hi hm1 hg8 hg9 hg0 hgk hd1 hr1 hkk h0; exact absurd h0 (Nat.not_lt_zero _)
          | succ k9 ih123 =>
            intro i h1 g1 f1 hi hm1 hg8 hg9 hg0 hgk hd1 hr1 hkk hk123
            have m1 := hm1
            unfold isMo at m1
            have hz1 := (hkk (m + 1) (by omega) (by omega)).trans hz
            have hBl : (fIn ((K.2.2.2 s).filter (stay (K.2.2.1 o) (K.2.2.2 o))) (((K.2.2.2 o).take i).filter (fun p : Int × Int => isN (K.2.2.1 s) (K.2.2.2 s) p.1))).length ≤ 4 + i := by
              rw [fIn_len]
              have z1 := List.length_filter_le (stay (K.2.2.1 o) (K.2.2.2 o)) (K.2.2.2 s)
              have z2 := List.length_filter_le (fun p : Int × Int => isN (K.2.2.1 s) (K.2.2.2 s) p.1) ((K.2.2.2 o).take i)
              rw [List.length_take] at z2
              omega
            have hBm : ∀ p ∈ (fIn ((K.2.2.2 s).filter (stay (K.2.2.1 o) (K.2.2.2 o))) (((K.2.2.2 o).take i).filter (fun p : Int × Int => isN (K.2.2.1 s) (K.2.2.2 s) p.1))), 0 ≤ p.1 ∧ p.1 < 5000 := fun p hp => by
              rcases fIn_mem _ _ hp with z | z
              · have z := (oL s hss.1 hss.2).2 p (List.mem_filter.mp z).1
                exact ⟨z.1, z.2.1⟩
              · have z := (oL o ho.1 ho.2).2 p (List.mem_of_mem_take (List.mem_filter.mp z).1)
                exact ⟨z.1, z.2.1⟩
            refine g_iload 125 C dX5_tries_123 rfl rfl ?_
            refine g_aload_n 126 C dX5_tries_125 rfl rfl ?_
            refine g_iload_n 127 C dX5_tries_126 rfl rfl ?_
            refine g_iload_n 128 C dX5_tries_127 rfl rfl ?_
            refine g_V2r 131 0 0 C dX5_tries_128 rfl lk_RX5_47 gi_X5_siblings gv_X5_siblings ⟨_, _, rfl⟩ (by omega) m1 ⟨⟨by decide, by decide⟩, by decide, by decide⟩ (Nat.le_of_ble_eq_true rfl) rfl rfl rfl (c_X5_siblings m g1 hs f k o (K.2.2.2 o) hmb hm1 hz1 hk (by omega) (rL o (by omega) (by omega))) g_no (fun h9 e128 => ?_)
            replace e128 := e128.symm
            subst e128
            refine g_icmp_ge 204 134 C dX5_tries_131 rfl rfl (by omega) (by omega) (fun c131 => ?_) (fun c131 => ?_)
            · skip
              have hil2 : i = (K.2.2.2 o).length := by omega
              exact g_vret C dX5_tries_204 rfl ⟨by decide, by decide⟩ (by rw [hil2, List.take_length] at hg8 hg0 hr1; exact ⟨rfl, rfl, rfl, g1, f1, hm1, hg8, hg9, hg0, hgk, hd1, hr1, hkk⟩)
            · skip
              have hl := rL o (by omega) (by omega)
              have hol := oL o (by omega) (by omega)
              have h4 := hol.1
              obtain ⟨y, hy, hyl⟩ := get_of (l := K.2.2.2 o) (i := i) (by omega)
              obtain ⟨y1, y2, y3⟩ := hl.2 i y hy
              have hyo := hol.2 y hyl
              have eA := fl_s (q := (fun p : Int × Int => isN (K.2.2.1 s) (K.2.2.2 s) p.1)) hy
              have eD := ct_s (q := (fun p : Int × Int => isN (K.2.2.1 s) (K.2.2.2 s) p.1)) hy
              refine g_iload_n 135 C dX5_tries_134 rfl rfl ?_
              refine g_iload_n 136 C dX5_tries_135 rfl rfl ?_
              refine g_iload 138 C dX5_tries_136 rfl rfl ?_
              refine g_S3r 141 0 0 C dX5_tries_138 rfl lk_RX5_50 gs_X5_placeAt ⟨⟨by decide, by decide⟩, by decide, by decide⟩ (Nat.le_of_ble_eq_true rfl) rfl rfl rfl (c_X5_placeAt k o (i : Int)) g_no (fun h9 e138 => ?_)
              replace e138 := e138.symm
              subst e138
              refine g_istore 143 [(5, _), (4, _), (0, _), (1, _), (2, _), (3, _)] C dX5_tries_141 (by decide) rfl rfl ?_
              refine g_aload_n 144 C dX5_tries_143 rfl rfl ?_
              refine g_iload_n 145 C dX5_tries_144 rfl rfl ?_
              refine g_iload_n 146 C dX5_tries_145 rfl rfl ?_
              refine g_aload_n 147 C dX5_tries_146 rfl rfl ?_
              refine g_getf 150 C dX5_tries_147 fl_RX5_7 rfl (by omega) m1 rfl rfl ?_
              refine g_iload 152 C dX5_tries_150 rfl rfl ?_
              refine g_iald 153 C dX5_tries_152 (by omega) hz1 (by omega) (by decide) rfl ?_
              rw [y1]
              refine g_aload_n 154 C dX5_tries_153 rfl rfl ?_
              refine g_getf 157 C dX5_tries_154 fl_RX5_7 rfl (by omega) m1 rfl rfl ?_
              refine g_iload 159 C dX5_tries_157 rfl rfl ?_
              refine g_iconst 160 C dX5_tries_159 rfl ?_
              refine g_iadd 161 C dX5_tries_160 rfl ?_
              refine g_iald 162 C dX5_tries_161 (by omega) hz1 (by omega) (by decide) rfl ?_
              rw [y2]
              refine g_V4r 165 0 0 C dX5_tries_162 rfl lk_RX5_121 gi_X5_has gv_X5_has ⟨_, _, rfl⟩ (by omega) m1 ⟨⟨by decide, by decide⟩, by decide, by decide⟩ (Nat.le_of_ble_eq_true rfl) rfl rfl rfl (c_X5_has m g1 hs f k s (K.2.2.2 s) y.1 hmb hm1 hz1 hk hss (rL s (by omega) (by omega)) (oL s (by omega) (by omega)) (by omega)) g_no (fun h9 e162 => ?_)
              replace e162 := e162.symm
              subst e162
              refine g_if_ne 198 168 C dX5_tries_165 rfl rfl (gbi_r _) (fun c165 => ?_) (fun c165 => ?_)
              · skip
                have eY : isN (K.2.2.1 s) (K.2.2.2 s) y.1 = false := by unfold isN; rw [gbi_1 c165]; rfl
                rw [if_neg (show ¬ (fun p : Int × Int => isN (K.2.2.1 s) (K.2.2.2 s) p.1) y = true by show ¬ isN (K.2.2.1 s) (K.2.2.2 s) y.1 = true; rw [eY]; decide)] at eA
                rw [show gbi ((fun p : Int × Int => isN (K.2.2.1 s) (K.2.2.2 s) p.1) y) = 0 from gbi_f eY, Int.add_zero] at eD
                have m8 := hm1
                have hg88 : g1 8 = ((fIn ((K.2.2.2 s).filter (stay (K.2.2.1 o) (K.2.2.2 o))) (((K.2.2.2 o).take (i + 1)).filter (fun p : Int × Int => isN (K.2.2.1 s) (K.2.2.2 s) p.1))).length : Int) := by rw [eA]; exact hg8
                have hg98 := hg9
                have hg08 : g1 10 = ((((K.2.2.2 o).take (i + 1)).countP (fun p : Int × Int => isN (K.2.2.1 s) (K.2.2.2 s) p.1) : Nat) : Int) := by rw [eD]; exact hg0
                have hgk8 := hgk
                have hd8 := hd1
                have hr8 : Rp f1 (-1) (fIn ((K.2.2.2 s).filter (stay (K.2.2.1 o) (K.2.2.2 o))) (((K.2.2.2 o).take (i + 1)).filter (fun p : Int × Int => isN (K.2.2.1 s) (K.2.2.2 s) p.1))) := by rw [eA]; exact hr1
                have hkk8 := hkk
                refine g_iinc 201 [(4, _), (5, _), (0, _), (1, _), (2, _), (3, _)] C dX5_tries_198 rfl (by decide) rfl rfl ?_
                refine g_goto 123 C dX5_tries_201 rfl ?_
                refine g_loc [(4, _), (0, _), (1, _), (2, _), (3, _)] ⟨rfl, rfl, rfl, rfl, rfl, trivial⟩ ?_
                exact ih123 (i + 1) _ _ _ (by omega) m8 hg88 hg98 hg08 hgk8 hd8 hr8 hkk8 (by omega)
              · skip
                have e0 := gbi_0 c165
                refine g_aload_n 169 C dX5_tries_168 rfl rfl ?_
                refine g_iload_n 170 C dX5_tries_169 rfl rfl ?_
                refine g_iload_n 171 C dX5_tries_170 rfl rfl ?_
                refine g_S2r 174 0 0 C dX5_tries_171 rfl lk_RX5_75 gs_X5_vectorAt ⟨⟨by decide, by decide⟩, by decide, by decide⟩ (Nat.le_of_ble_eq_true rfl) rfl rfl rfl (c_X5_vectorAt k s) g_no (fun h9 e171 => ?_)
                replace e171 := e171.symm
                subst e171
                refine g_iload 176 C dX5_tries_174 rfl rfl ?_
                refine g_V2r 179 0 0 C dX5_tries_176 rfl lk_RX5_57 gi_X5_covers gv_X5_covers ⟨_, _, rfl⟩ (by omega) m1 ⟨⟨by decide, by decide⟩, by decide, by decide⟩ (Nat.le_of_ble_eq_true rfl) rfl rfl rfl (c_X5_covers m g1 hs f (90 + 15 * k + 5 * s) ((135 + 19 * (3 * k + o)) + 1 + 3 * (i : Int)) y.1 (K.2.2.1 s) hmb hm1 hz1 (by omega) (by omega) (by omega) y1 y2 (rV s hss.1 hss.2) (oV s hss.1 hss.2)) g_no (fun h9 e176 => ?_)
                replace e176 := e176.symm
                subst e176
                refine g_if_ne 198 182 C dX5_tries_179 rfl rfl (gbi_r _) (fun c179 => ?_) (fun c179 => ?_)
                · skip
                  have eY : isN (K.2.2.1 s) (K.2.2.2 s) y.1 = false := by unfold isN; rw [e0, gbi_1 c179]; rfl
                  rw [if_neg (show ¬ (fun p : Int × Int => isN (K.2.2.1 s) (K.2.2.2 s) p.1) y = true by show ¬ isN (K.2.2.1 s) (K.2.2.2 s) y.1 = true; rw [eY]; decide)] at eA
                  rw [show gbi ((fun p : Int × Int => isN (K.2.2.1 s) (K.2.2.2 s) p.1) y) = 0 from gbi_f eY, Int.add_zero] at eD
                  have m8 := hm1
                  have hg88 : g1 8 = ((fIn ((K.2.2.2 s).filter (stay (K.2.2.1 o) (K.2.2.2 o))) (((K.2.2.2 o).take (i + 1)).filter (fun p : Int × Int => isN (K.2.2.1 s) (K.2.2.2 s) p.1))).length : Int) := by rw [eA]; exact hg8
                  have hg98 := hg9
                  have hg08 : g1 10 = ((((K.2.2.2 o).take (i + 1)).countP (fun p : Int × Int => isN (K.2.2.1 s) (K.2.2.2 s) p.1) : Nat) : Int) := by rw [eD]; exact hg0
                  have hgk8 := hgk
                  have hd8 := hd1
                  have hr8 : Rp f1 (-1) (fIn ((K.2.2.2 s).filter (stay (K.2.2.1 o) (K.2.2.2 o))) (((K.2.2.2 o).take (i + 1)).filter (fun p : Int × Int => isN (K.2.2.1 s) (K.2.2.2 s) p.1))) := by rw [eA]; exact hr1
                  have hkk8 := hkk
                  refine g_iinc 201 [(4, _), (5, _), (0, _), (1, _), (2, _), (3, _)] C dX5_tries_198 rfl (by decide) rfl rfl ?_
                  refine g_goto 123 C dX5_tries_201 rfl ?_
                  refine g_loc [(4, _), (0, _), (1, _), (2, _), (3, _)] ⟨rfl, rfl, rfl, rfl, rfl, trivial⟩ ?_
                  exact ih123 (i + 1) _ _ _ (by omega) m8 hg88 hg98 hg08 hgk8 hd8 hr8 hkk8 (by omega)
                · skip
                  have eY : isN (K.2.2.1 s) (K.2.2.2 s) y.1 = true := by unfold isN; rw [e0, gbi_0 c179]; rfl
                  rw [if_pos (show (fun p : Int × Int => isN (K.2.2.1 s) (K.2.2.2 s) p.1) y = true from eY)] at eA
                  rw [show gbi ((fun p : Int × Int => isN (K.2.2.1 s) (K.2.2.2 s) p.1) y) = 1 from gbi_t eY] at eD
                  refine g_aload_n 183 C dX5_tries_182 rfl rfl ?_
                  refine g_iload 185 C dX5_tries_183 rfl rfl ?_
                  refine g_V1v 188 0 0 C dX5_tries_185 rfl lk_RX5_125 gi_X5_adds gv_X5_adds ⟨_, _, rfl⟩ (by omega) m1 ⟨⟨by decide, by decide⟩, by decide, by decide⟩ (Nat.le_of_ble_eq_true rfl) rfl rfl rfl (c_X5_adds m g1 hs f f1 (fIn ((K.2.2.2 s).filter (stay (K.2.2.1 o) (K.2.2.2 o))) (((K.2.2.2 o).take i).filter (fun p : Int × Int => isN (K.2.2.1 s) (K.2.2.2 s) p.1))) ((135 + 19 * (3 * k + o)) + 1 + 3 * (i : Int)) y hmb hm1 hz1 hd1 hr1 hg8 (by omega) hBm (by omega) (by omega) y1 y2 y3) g_no (fun h3 e185 => ?_)
                  obtain ⟨m3, ⟨f8, hd3, hr3⟩, hk3⟩ := e185
                  have m39 := m3
                  unfold isMo at m3
                  rw [← fIn_s, ← eA] at hr3
                  refine g_aload_n 189 C dX5_tries_188 rfl rfl ?_
                  refine g_dup 190 C dX5_tries_189 rfl rfl ?_
                  refine g_getf 193 C dX5_tries_190 fl_RX5_118 rfl (by omega) m3 rfl rfl ?_
                  refine g_iconst 194 C dX5_tries_193 rfl ?_
                  refine g_iadd 195 C dX5_tries_194 rfl ?_
                  refine g_putf 198 C dX5_tries_195 fp_RX5_118 rfl (by omega) m3 rfl rfl (Nat.le_of_ble_eq_true rfl) rfl ?_
                  refine g_ab (fun z => isMo z m (gup (gup g1 8 (((fIn ((K.2.2.2 s).filter (stay (K.2.2.1 o) (K.2.2.2 o))) (((K.2.2.2 o).take i).filter (fun p : Int × Int => isN (K.2.2.1 s) (K.2.2.2 s) p.1))).length : Int) + 1)) 10 (gup g1 8 (((fIn ((K.2.2.2 s).filter (stay (K.2.2.1 o) (K.2.2.2 o))) (((K.2.2.2 o).take i).filter (fun p : Int × Int => isN (K.2.2.1 s) (K.2.2.2 s) p.1))).length : Int) + 1) 10 + 1)) hs ∧ z (m + 5) = gI E 36 f8 ∧ ∀ x9 : Nat, x9 ≠ m → z x9 = h3 x9) ⟨up_s, (up_n (by omega)).trans hd3, fun x9 z => up_n z⟩ (fun h4 q4 => ?_)
                  obtain ⟨m8, hd8, hk4⟩ := q4
                  have hg88 : gup (gup g1 8 (((fIn ((K.2.2.2 s).filter (stay (K.2.2.1 o) (K.2.2.2 o))) (((K.2.2.2 o).take i).filter (fun p : Int × Int => isN (K.2.2.1 s) (K.2.2.2 s) p.1))).length : Int) + 1)) 10 (gup g1 8 (((fIn ((K.2.2.2 s).filter (stay (K.2.2.1 o) (K.2.2.2 o))) (((K.2.2.2 o).take i).filter (fun p : Int × Int => isN (K.2.2.1 s) (K.2.2.2 s) p.1))).length : Int) + 1) 10 + 1) 8 = ((fIn ((K.2.2.2 s).filter (stay (K.2.2.1 o) (K.2.2.2 o))) (((K.2.2.2 o).take (i + 1)).filter (fun p : Int × Int => isN (K.2.2.1 s) (K.2.2.2 s) p.1))).length : Int) := by rw [gup_ne (by decide), gup_at, eA, fIn_s, insr_len]; rfl
                  have hg98 : gup (gup g1 8 (((fIn ((K.2.2.2 s).filter (stay (K.2.2.1 o) (K.2.2.2 o))) (((K.2.2.2 o).take i).filter (fun p : Int × Int => isN (K.2.2.1 s) (K.2.2.2 s) p.1))).length : Int) + 1)) 10 (gup g1 8 (((fIn ((K.2.2.2 s).filter (stay (K.2.2.1 o) (K.2.2.2 o))) (((K.2.2.2 o).take i).filter (fun p : Int × Int => isN (K.2.2.1 s) (K.2.2.2 s) p.1))).length : Int) + 1) 10 + 1) 9 = pLost K s o := (gup_ne (by decide)).trans ((gup_ne (by decide)).trans hg9)
                  have hg08 : gup (gup g1 8 (((fIn ((K.2.2.2 s).filter (stay (K.2.2.1 o) (K.2.2.2 o))) (((K.2.2.2 o).take i).filter (fun p : Int × Int => isN (K.2.2.1 s) (K.2.2.2 s) p.1))).length : Int) + 1)) 10 (gup g1 8 (((fIn ((K.2.2.2 s).filter (stay (K.2.2.1 o) (K.2.2.2 o))) (((K.2.2.2 o).take i).filter (fun p : Int × Int => isN (K.2.2.1 s) (K.2.2.2 s) p.1))).length : Int) + 1) 10 + 1) 10 = ((((K.2.2.2 o).take (i + 1)).countP (fun p : Int × Int => isN (K.2.2.1 s) (K.2.2.2 s) p.1) : Nat) : Int) := by rw [gup_at, gup_ne (by decide), hg0, eD]
                  have hgk8 : ∀ j : Int, j ≠ 8 → j ≠ 9 → j ≠ 10 → gup (gup g1 8 (((fIn ((K.2.2.2 s).filter (stay (K.2.2.1 o) (K.2.2.2 o))) (((K.2.2.2 o).take i).filter (fun p : Int × Int => isN (K.2.2.1 s) (K.2.2.2 s) p.1))).length : Int) + 1)) 10 (gup g1 8 (((fIn ((K.2.2.2 s).filter (stay (K.2.2.1 o) (K.2.2.2 o))) (((K.2.2.2 o).take i).filter (fun p : Int × Int => isN (K.2.2.1 s) (K.2.2.2 s) p.1))).length : Int) + 1) 10 + 1) j = g j := fun j j8 j9 j0 => (gup_ne j0).trans ((gup_ne j8).trans (hgk j j8 j9 j0))
                  have hr8 := hr3
                  have hkk8 : ∀ x9 : Nat, x9 ≠ m → x9 ≠ m + 5 → h4 x9 = h x9 := fun x9 z1 z2 => (hk4 x9 z1).trans ((hk3 x9 z1 z2).trans (hkk x9 z1 z2))
                  refine g_iinc 201 [(4, _), (5, _), (0, _), (1, _), (2, _), (3, _)] C dX5_tries_198 rfl (by decide) rfl rfl ?_
                  refine g_goto 123 C dX5_tries_201 rfl ?_
                  refine g_loc [(4, _), (0, _), (1, _), (2, _), (3, _)] ⟨rfl, rfl, rfl, rfl, rfl, trivial⟩ ?_
                  exact ih123 (i + 1) _ _ _ (by omega) m8 hg88 hg98 hg08 hgk8 hd8 hr8 hkk8 (by omega)
        refine g_loc [(4, _), (0, _), (1, _), (2, _), (3, _)] ⟨rfl, rfl, rfl, rfl, rfl, trivial⟩ ?_
        rw [hil, List.take_length] at hg8 hg9 hr1
        exact lp123 _ 0 h1 g1 f1 (by omega) hm1 hg8 hg9 hg0 hgk hd1 hr1 hkk (Nat.lt_succ_self _)
      · skip
        have hl := rL s (by omega) (by omega)
        have hol := oL s (by omega) (by omega)
        have h4 := hol.1
        obtain ⟨y, hy, hyl⟩ := get_of (l := K.2.2.2 s) (i := i) (by omega)
        obtain ⟨y1, y2, y3⟩ := hl.2 i y hy
        have hyo := hol.2 y hyl
        have eA := fl_s (q := (stay (K.2.2.1 o) (K.2.2.2 o))) hy
        have eD := ct_s (q := (fun p : Int × Int => drp (K.2.2.1 o) (K.2.2.2 o) p.1)) hy
        refine g_iload_n 30 C dX5_tries_29 rfl rfl ?_
        refine g_iload_n 31 C dX5_tries_30 rfl rfl ?_
        refine g_iload 33 C dX5_tries_31 rfl rfl ?_
        refine g_S3r 36 0 0 C dX5_tries_33 rfl lk_RX5_50 gs_X5_placeAt ⟨⟨by decide, by decide⟩, by decide, by decide⟩ (Nat.le_of_ble_eq_true rfl) rfl rfl rfl (c_X5_placeAt k s (i : Int)) g_no (fun h9 e33 => ?_)
        replace e33 := e33.symm
        subst e33
        refine g_istore 38 [(5, _), (4, _), (0, _), (1, _), (2, _), (3, _)] C dX5_tries_36 (by decide) rfl rfl ?_
        refine g_aload_n 39 C dX5_tries_38 rfl rfl ?_
        refine g_iload_n 40 C dX5_tries_39 rfl rfl ?_
        refine g_iload_n 41 C dX5_tries_40 rfl rfl ?_
        refine g_aload_n 42 C dX5_tries_41 rfl rfl ?_
        refine g_getf 45 C dX5_tries_42 fl_RX5_7 rfl (by omega) m1 rfl rfl ?_
        refine g_iload 47 C dX5_tries_45 rfl rfl ?_
        refine g_iald 48 C dX5_tries_47 (by omega) hz1 (by omega) (by decide) rfl ?_
        rw [y1]
        refine g_aload_n 49 C dX5_tries_48 rfl rfl ?_
        refine g_getf 52 C dX5_tries_49 fl_RX5_7 rfl (by omega) m1 rfl rfl ?_
        refine g_iload 54 C dX5_tries_52 rfl rfl ?_
        refine g_iconst 55 C dX5_tries_54 rfl ?_
        refine g_iadd 56 C dX5_tries_55 rfl ?_
        refine g_iald 57 C dX5_tries_56 (by omega) hz1 (by omega) (by decide) rfl ?_
        rw [y2]
        refine g_V4r 60 0 0 C dX5_tries_57 rfl lk_RX5_121 gi_X5_has gv_X5_has ⟨_, _, rfl⟩ (by omega) m1 ⟨⟨by decide, by decide⟩, by decide, by decide⟩ (Nat.le_of_ble_eq_true rfl) rfl rfl rfl (c_X5_has m g1 hs f k o (K.2.2.2 o) y.1 hmb hm1 hz1 hk ho (rL o (by omega) (by omega)) (oL o (by omega) (by omega)) (by omega)) g_no (fun h9 e57 => ?_)
        replace e57 := e57.symm
        subst e57
        refine g_if_ne 77 63 C dX5_tries_60 rfl rfl (gbi_r _) (fun c60 => ?_) (fun c60 => ?_)
        · skip
          have eY : drp (K.2.2.1 o) (K.2.2.2 o) y.1 = false := by unfold drp; rw [gbi_1 c60]; rfl
          refine g_iconst 78 C dX5_tries_77 rfl ?_
          refine g_goto 82 C dX5_tries_78 rfl ?_
          refine g_istore 84 [(6, _), (5, _), (4, _), (0, _), (1, _), (2, _), (3, _)] C dX5_tries_82 (by decide) rfl rfl ?_
          refine g_aload_n 85 C dX5_tries_84 rfl rfl ?_
          refine g_dup 86 C dX5_tries_85 rfl rfl ?_
          refine g_getf 89 C dX5_tries_86 fl_RX5_115 rfl (by omega) m1 rfl rfl ?_
          refine g_iload 91 C dX5_tries_89 rfl rfl ?_
          refine g_if_eq 98 94 C dX5_tries_91 rfl rfl (by omega) (fun c91 => ?_) (fun c91 => ?_)
          · skip
            exact absurd c91 (by omega)
          · skip
            refine g_iconst 95 C dX5_tries_94 rfl ?_
            refine g_goto 99 C dX5_tries_95 rfl ?_
            refine g_iadd 100 C dX5_tries_99 rfl ?_
            refine g_putf 103 C dX5_tries_100 fp_RX5_115 rfl (by omega) m1 rfl rfl (Nat.le_of_ble_eq_true rfl) rfl ?_
            refine g_ab (fun z => isMo z m (gup g1 9 (g1 9 + 0)) hs ∧ ∀ x9 : Nat, x9 ≠ m → z x9 = h1 x9) ⟨up_s, fun x9 z => up_n z⟩ (fun h2 q2 => ?_)
            obtain ⟨m2, hk2⟩ := q2
            have m29 := m2
            unfold isMo at m2
            have hz2 := (hk2 (m + 1) (by omega)).trans hz1
            have hd2 := (hk2 (m + 5) (by omega)).trans hd1
            rw [if_pos (show (stay (K.2.2.1 o) (K.2.2.2 o)) y = true by unfold stay; rw [eY]; rfl)] at eA
            rw [show gbi ((fun p : Int × Int => drp (K.2.2.1 o) (K.2.2.2 o) p.1) y) = 0 from gbi_f eY] at eD
            refine g_iload 105 C dX5_tries_103 rfl rfl ?_
            refine g_if_eq 114 108 C dX5_tries_105 rfl rfl (by omega) (fun c105 => ?_) (fun c105 => ?_)
            · skip
              exact absurd c105 (by omega)
            · skip
              refine g_aload_n 109 C dX5_tries_108 rfl rfl ?_
              refine g_iload 111 C dX5_tries_109 rfl rfl ?_
              refine g_V1v 114 0 0 C dX5_tries_111 rfl lk_RX5_125 gi_X5_adds gv_X5_adds ⟨_, _, rfl⟩ (by omega) m2 ⟨⟨by decide, by decide⟩, by decide, by decide⟩ (Nat.le_of_ble_eq_true rfl) rfl rfl rfl (c_X5_adds m (gup g1 9 (g1 9 + 0)) hs f f1 (((K.2.2.2 s).take i).filter (stay (K.2.2.1 o) (K.2.2.2 o))) ((135 + 19 * (3 * k + s)) + 1 + 3 * (i : Int)) y hmb m29 hz2 hd2 hr1 ((gup_ne (by decide)).trans hg8) (by omega) hAm (by omega) (by omega) y1 y2 y3) g_no (fun h3 e111 => ?_)
              obtain ⟨m8, ⟨f8, hd8, hr8⟩, hk3⟩ := e111
              rw [insr_end (fun z hz => srt_take hsr hy (List.mem_filter.mp hz).1), ← eA] at hr8
              have hg88 : gup (gup g1 9 (g1 9 + 0)) 8 (((((K.2.2.2 s).take i).filter (stay (K.2.2.1 o) (K.2.2.2 o))).length : Int) + 1) 8 = ((((K.2.2.2 s).take (i + 1)).filter (stay (K.2.2.1 o) (K.2.2.2 o))).length : Int) := by rw [gup_at, eA, List.length_append]; rfl
              have hg98 : gup (gup g1 9 (g1 9 + 0)) 8 (((((K.2.2.2 s).take i).filter (stay (K.2.2.1 o) (K.2.2.2 o))).length : Int) + 1) 9 = ((((K.2.2.2 s).take (i + 1)).countP (fun p : Int × Int => drp (K.2.2.1 o) (K.2.2.2 o) p.1) : Nat) : Int) := by rw [gup_ne (by decide), gup_at, hg9, eD]
              have hg08 : gup (gup g1 9 (g1 9 + 0)) 8 (((((K.2.2.2 s).take i).filter (stay (K.2.2.1 o) (K.2.2.2 o))).length : Int) + 1) 10 = 0 := (gup_ne (by decide)).trans ((gup_ne (by decide)).trans hg0)
              have hgk8 : ∀ j : Int, j ≠ 8 → j ≠ 9 → j ≠ 10 → gup (gup g1 9 (g1 9 + 0)) 8 (((((K.2.2.2 s).take i).filter (stay (K.2.2.1 o) (K.2.2.2 o))).length : Int) + 1) j = g j := fun j j8 j9 j0 => (gup_ne j8).trans ((gup_ne j9).trans (hgk j j8 j9 j0))
              have hkk8 : ∀ x9 : Nat, x9 ≠ m → x9 ≠ m + 5 → h3 x9 = h x9 := fun x9 z1 z2 => (hk3 x9 z1 z2).trans ((hk2 x9 z1).trans (hkk x9 z1 z2))
              refine g_iinc 117 [(4, _), (6, _), (5, _), (0, _), (1, _), (2, _), (3, _)] C dX5_tries_114 rfl (by decide) rfl rfl ?_
              refine g_goto 18 C dX5_tries_117 rfl ?_
              refine g_loc [(4, _), (0, _), (1, _), (2, _), (3, _)] ⟨rfl, rfl, rfl, rfl, rfl, trivial⟩ ?_
              exact ih18 (i + 1) _ _ _ (by omega) m8 hg88 hg98 hg08 hgk8 hd8 hr8 hkk8 (by omega)
        · skip
          have e0 := gbi_0 c60
          refine g_aload_n 64 C dX5_tries_63 rfl rfl ?_
          refine g_iload_n 65 C dX5_tries_64 rfl rfl ?_
          refine g_iload_n 66 C dX5_tries_65 rfl rfl ?_
          refine g_S2r 69 0 0 C dX5_tries_66 rfl lk_RX5_75 gs_X5_vectorAt ⟨⟨by decide, by decide⟩, by decide, by decide⟩ (Nat.le_of_ble_eq_true rfl) rfl rfl rfl (c_X5_vectorAt k o) g_no (fun h9 e66 => ?_)
          replace e66 := e66.symm
          subst e66
          refine g_iload 71 C dX5_tries_69 rfl rfl ?_
          refine g_V2r 74 0 0 C dX5_tries_71 rfl lk_RX5_57 gi_X5_covers gv_X5_covers ⟨_, _, rfl⟩ (by omega) m1 ⟨⟨by decide, by decide⟩, by decide, by decide⟩ (Nat.le_of_ble_eq_true rfl) rfl rfl rfl (c_X5_covers m g1 hs f (90 + 15 * k + 5 * o) ((135 + 19 * (3 * k + s)) + 1 + 3 * (i : Int)) y.1 (K.2.2.1 o) hmb hm1 hz1 (by omega) (by omega) (by omega) y1 y2 (rV o ho.1 ho.2) (oV o ho.1 ho.2)) g_no (fun h9 e71 => ?_)
          replace e71 := e71.symm
          subst e71
          refine g_if_ne 81 77 C dX5_tries_74 rfl rfl (gbi_r _) (fun c74 => ?_) (fun c74 => ?_)
          · skip
            have eY : drp (K.2.2.1 o) (K.2.2.2 o) y.1 = true := by unfold drp; rw [e0, gbi_1 c74]; rfl
            refine g_iconst 82 C dX5_tries_81 rfl ?_
            refine g_istore 84 [(6, _), (5, _), (4, _), (0, _), (1, _), (2, _), (3, _)] C dX5_tries_82 (by decide) rfl rfl ?_
            refine g_aload_n 85 C dX5_tries_84 rfl rfl ?_
            refine g_dup 86 C dX5_tries_85 rfl rfl ?_
            refine g_getf 89 C dX5_tries_86 fl_RX5_115 rfl (by omega) m1 rfl rfl ?_
            refine g_iload 91 C dX5_tries_89 rfl rfl ?_
            refine g_if_eq 98 94 C dX5_tries_91 rfl rfl (by omega) (fun c91 => ?_) (fun c91 => ?_)
            · skip
              refine g_iconst 99 C dX5_tries_98 rfl ?_
              refine g_iadd 100 C dX5_tries_99 rfl ?_
              refine g_putf 103 C dX5_tries_100 fp_RX5_115 rfl (by omega) m1 rfl rfl (Nat.le_of_ble_eq_true rfl) rfl ?_
              refine g_ab (fun z => isMo z m (gup g1 9 (g1 9 + 1)) hs ∧ ∀ x9 : Nat, x9 ≠ m → z x9 = h1 x9) ⟨up_s, fun x9 z => up_n z⟩ (fun h2 q2 => ?_)
              obtain ⟨m2, hk2⟩ := q2
              have m29 := m2
              unfold isMo at m2
              have hz2 := (hk2 (m + 1) (by omega)).trans hz1
              have hd2 := (hk2 (m + 5) (by omega)).trans hd1
              rw [if_neg (show ¬ (stay (K.2.2.1 o) (K.2.2.2 o)) y = true by unfold stay; rw [eY]; decide)] at eA
              rw [show gbi ((fun p : Int × Int => drp (K.2.2.1 o) (K.2.2.2 o) p.1) y) = 1 from gbi_t eY] at eD
              have m8 := m29
              have hg88 : gup g1 9 (g1 9 + 1) 8 = ((((K.2.2.2 s).take (i + 1)).filter (stay (K.2.2.1 o) (K.2.2.2 o))).length : Int) := by rw [eA]; exact (gup_ne (by decide)).trans hg8
              have hg98 : gup g1 9 (g1 9 + 1) 9 = ((((K.2.2.2 s).take (i + 1)).countP (fun p : Int × Int => drp (K.2.2.1 o) (K.2.2.2 o) p.1) : Nat) : Int) := by rw [gup_at, hg9, eD]
              have hg08 : gup g1 9 (g1 9 + 1) 10 = 0 := (gup_ne (by decide)).trans hg0
              have hgk8 : ∀ j : Int, j ≠ 8 → j ≠ 9 → j ≠ 10 → gup g1 9 (g1 9 + 1) j = g j := fun j j8 j9 j0 => (gup_ne j9).trans (hgk j j8 j9 j0)
              have hd8 := hd2
              have hr8 : Rp f1 (-1) (((K.2.2.2 s).take (i + 1)).filter (stay (K.2.2.1 o) (K.2.2.2 o))) := by rw [eA]; exact hr1
              have hkk8 : ∀ x9 : Nat, x9 ≠ m → x9 ≠ m + 5 → h2 x9 = h x9 := fun x9 z1 z2 => (hk2 x9 z1).trans (hkk x9 z1 z2)
              refine g_iload 105 C dX5_tries_103 rfl rfl ?_
              refine g_if_eq 114 108 C dX5_tries_105 rfl rfl (by omega) (fun c105 => ?_) (fun c105 => ?_)
              · skip
                refine g_iinc 117 [(4, _), (6, _), (5, _), (0, _), (1, _), (2, _), (3, _)] C dX5_tries_114 rfl (by decide) rfl rfl ?_
                refine g_goto 18 C dX5_tries_117 rfl ?_
                refine g_loc [(4, _), (0, _), (1, _), (2, _), (3, _)] ⟨rfl, rfl, rfl, rfl, rfl, trivial⟩ ?_
                exact ih18 (i + 1) _ _ _ (by omega) m8 hg88 hg98 hg08 hgk8 hd8 hr8 hkk8 (by omega)
              · skip
                exact absurd c105 (by omega)
            · skip
              exact absurd c91 (by omega)
          · skip
            have eY : drp (K.2.2.1 o) (K.2.2.2 o) y.1 = false := by unfold drp; rw [e0, gbi_0 c74]; rfl
            refine g_iconst 78 C dX5_tries_77 rfl ?_
            refine g_goto 82 C dX5_tries_78 rfl ?_
            refine g_istore 84 [(6, _), (5, _), (4, _), (0, _), (1, _), (2, _), (3, _)] C dX5_tries_82 (by decide) rfl rfl ?_
            refine g_aload_n 85 C dX5_tries_84 rfl rfl ?_
            refine g_dup 86 C dX5_tries_85 rfl rfl ?_
            refine g_getf 89 C dX5_tries_86 fl_RX5_115 rfl (by omega) m1 rfl rfl ?_
            refine g_iload 91 C dX5_tries_89 rfl rfl ?_
            refine g_if_eq 98 94 C dX5_tries_91 rfl rfl (by omega) (fun c91 => ?_) (fun c91 => ?_)
            · skip
              exact absurd c91 (by omega)
            · skip
              refine g_iconst 95 C dX5_tries_94 rfl ?_
              refine g_goto 99 C dX5_tries_95 rfl ?_
              refine g_iadd 100 C dX5_tries_99 rfl ?_
              refine g_putf 103 C dX5_tries_100 fp_RX5_115 rfl (by omega) m1 rfl rfl (Nat.le_of_ble_eq_true rfl) rfl ?_
              refine g_ab (fun z => isMo z m (gup g1 9 (g1 9 + 0)) hs ∧ ∀ x9 : Nat, x9 ≠ m → z x9 = h1 x9) ⟨up_s, fun x9 z => up_n z⟩ (fun h2 q2 => ?_)
              obtain ⟨m2, hk2⟩ := q2
              have m29 := m2
              unfold isMo at m2
              have hz2 := (hk2 (m + 1) (by omega)).trans hz1
              have hd2 := (hk2 (m + 5) (by omega)).trans hd1
              rw [if_pos (show (stay (K.2.2.1 o) (K.2.2.2 o)) y = true by unfold stay; rw [eY]; rfl)] at eA
              rw [show gbi ((fun p : Int × Int => drp (K.2.2.1 o) (K.2.2.2 o) p.1) y) = 0 from gbi_f eY] at eD
              refine g_iload 105 C dX5_tries_103 rfl rfl ?_
              refine g_if_eq 114 108 C dX5_tries_105 rfl rfl (by omega) (fun c105 => ?_) (fun c105 => ?_)
              · skip
                exact absurd c105 (by omega)
              · skip
                refine g_aload_n 109 C dX5_tries_108 rfl rfl ?_
                refine g_iload 111 C dX5_tries_109 rfl rfl ?_
                refine g_V1v 114 0 0 C dX5_tries_111 rfl lk_RX5_125 gi_X5_adds gv_X5_adds ⟨_, _, rfl⟩ (by omega) m2 ⟨⟨by decide, by decide⟩, by decide, by decide⟩ (Nat.le_of_ble_eq_true rfl) rfl rfl rfl (c_X5_adds m (gup g1 9 (g1 9 + 0)) hs f f1 (((K.2.2.2 s).take i).filter (stay (K.2.2.1 o) (K.2.2.2 o))) ((135 + 19 * (3 * k + s)) + 1 + 3 * (i : Int)) y hmb m29 hz2 hd2 hr1 ((gup_ne (by decide)).trans hg8) (by omega) hAm (by omega) (by omega) y1 y2 y3) g_no (fun h3 e111 => ?_)
                obtain ⟨m8, ⟨f8, hd8, hr8⟩, hk3⟩ := e111
                rw [insr_end (fun z hz => srt_take hsr hy (List.mem_filter.mp hz).1), ← eA] at hr8
                have hg88 : gup (gup g1 9 (g1 9 + 0)) 8 (((((K.2.2.2 s).take i).filter (stay (K.2.2.1 o) (K.2.2.2 o))).length : Int) + 1) 8 = ((((K.2.2.2 s).take (i + 1)).filter (stay (K.2.2.1 o) (K.2.2.2 o))).length : Int) := by rw [gup_at, eA, List.length_append]; rfl
                have hg98 : gup (gup g1 9 (g1 9 + 0)) 8 (((((K.2.2.2 s).take i).filter (stay (K.2.2.1 o) (K.2.2.2 o))).length : Int) + 1) 9 = ((((K.2.2.2 s).take (i + 1)).countP (fun p : Int × Int => drp (K.2.2.1 o) (K.2.2.2 o) p.1) : Nat) : Int) := by rw [gup_ne (by decide), gup_at, hg9, eD]
                have hg08 : gup (gup g1 9 (g1 9 + 0)) 8 (((((K.2.2.2 s).take i).filter (stay (K.2.2.1 o) (K.2.2.2 o))).length : Int) + 1) 10 = 0 := (gup_ne (by decide)).trans ((gup_ne (by decide)).trans hg0)
                have hgk8 : ∀ j : Int, j ≠ 8 → j ≠ 9 → j ≠ 10 → gup (gup g1 9 (g1 9 + 0)) 8 (((((K.2.2.2 s).take i).filter (stay (K.2.2.1 o) (K.2.2.2 o))).length : Int) + 1) j = g j := fun j j8 j9 j0 => (gup_ne j8).trans ((gup_ne j9).trans (hgk j j8 j9 j0))
                have hkk8 : ∀ x9 : Nat, x9 ≠ m → x9 ≠ m + 5 → h3 x9 = h x9 := fun x9 z1 z2 => (hk3 x9 z1 z2).trans ((hk2 x9 z1).trans (hkk x9 z1 z2))
                refine g_iinc 117 [(4, _), (6, _), (5, _), (0, _), (1, _), (2, _), (3, _)] C dX5_tries_114 rfl (by decide) rfl rfl ?_
                refine g_goto 18 C dX5_tries_117 rfl ?_
                refine g_loc [(4, _), (0, _), (1, _), (2, _), (3, _)] ⟨rfl, rfl, rfl, rfl, rfl, trivial⟩ ?_
                exact ih18 (i + 1) _ _ _ (by omega) m8 hg88 hg98 hg08 hgk8 hd8 hr8 hkk8 (by omega)
  refine g_loc [(4, _), (0, _), (1, _), (2, _), (3, _)] ⟨rfl, rfl, rfl, rfl, rfl, trivial⟩ ?_
  exact lp18 _ 0 _ (gup (gup (gup g 8 0) 9 0) 10 0) fd (by omega) up_s rfl rfl rfl (fun j j8 j9 j0 => (gup_ne j0).trans ((gup_ne j9).trans (gup_ne j8))) ((up_n (by omega)).trans ((up_n (by omega)).trans ((up_n (by omega)).trans hd))) (fun p y hy => by cases hy) (fun x9 z1 z2 => (up_n z1).trans ((up_n z1).trans (up_n z1))) (Nat.lt_succ_self _)
