/-! SiblingJoinsModel: a pull -/
def sPul (S : gSt) (s o k : Int) (L : List (Int × Int)) (c : Int) : gSt := ((tKey S k ((S.1 k).1, (S.1 k).2.1, gup (S.1 k).2.2.1 s (vmx ((S.1 k).2.2.1 s) ((S.1 k).2.2.1 o)), gup (S.1 k).2.2.2 s L)).1, gup S.2 3 (S.2 3 + c))
set_option maxRecDepth 100000 in
set_option maxHeartbeats 4000000 in
theorem c_X5_pulls {E : gEnv} {n : Nat} {σ : Option Nat} {h : gH} (m : Nat) (g : Int → Int) (hs : Int64) (f : Int → Int) (S : gSt) (fd : Int → Int) (s o k : Int) (L : List (Int × Int)) (hmb : gB E ≤ m ∧ m + 7 ≤ gB E + n) (hm : isMo h m g hs) (hz : h (m + 1) = gI E 311 f) (hR : Rz f S) (hok : okS S) (hk : 0 ≤ k ∧ k < 3) (hss : 0 ≤ s ∧ s < 3) (ho : 0 ≤ o ∧ o < 3) (hso : s ≠ o) (hd : h (m + 5) = gI E 36 fd) (hL : Rp fd (-1) L) (h8 : g 8 = (L.length : Int)) (hoL : okL L)  : gM E mX5_pulls [.ref m, .int (gi s), .int (gi o), .int (gi k)] n σ h (gD (some (.int (gi (g 9)))) n σ (fun h9 => (∃ f9 : Int → Int, h9 (m + 1) = gI E 311 f9 ∧ Rz f9 (sPul S s o k L (g 9))) ∧ gKp (m + 1) (m + 2) h h9)) (gNo) := by
  have hm9 := hm
  unfold isMo at hm
  have hL4 := hoL.1
  have m1 := hm
  have hz1 := hz
  have hd1 := hd
  have hRk := hR.1 k hk.1 hk.2
  have hoK := hok k hk.1 hk.2
  obtain ⟨rW, rN, rV, rL⟩ := id hRk
  obtain ⟨oW, oN, oV, oL⟩ := id hoK
  refine gM_of (by decide) (Nat.le_of_ble_eq_true rfl) (fun F C => ?_)
  refine g_aload_n 1 C dX5_pulls_0 rfl rfl ?_
  refine g_getf 4 C dX5_pulls_1 fl_RX5_7 rfl (by omega) m1 rfl rfl ?_
  refine g_iload_n 5 C dX5_pulls_4 rfl rfl ?_
  refine g_iload_n 6 C dX5_pulls_5 rfl rfl ?_
  refine g_S2r 9 0 0 C dX5_pulls_6 rfl lk_RX5_43 gs_X5_rowAt ⟨⟨by decide, by decide⟩, by decide, by decide⟩ (Nat.le_of_ble_eq_true rfl) rfl rfl rfl (c_X5_rowAt k s) g_no (fun h9 e6 => ?_)
  replace e6 := e6.symm
  subst e6
  refine g_aload_n 10 C dX5_pulls_9 rfl rfl ?_
  refine g_getf 13 C dX5_pulls_10 fl_RX5_112 rfl (by omega) m1 rfl rfl ?_
  rw [h8]
  refine g_iast 14 C dX5_pulls_13 (by omega) hz1 (by omega) (by decide) rfl ?_
  refine g_iconst 15 C dX5_pulls_14 rfl ?_
  refine g_istore 17 [(4, _), (0, _), (1, _), (2, _), (3, _)] C dX5_pulls_15 (by decide) rfl rfl ?_
  have lp17 : ∀ (k9 : Nat) (i : Nat) (h1 : gH) (f1 : Int → Int), (i ≤ 3 * L.length) → (h1 (m + 1) = gI E 311 f1) → (gKp (m + 1) (m + 2) h h1) → (f1 (135 + 19 * (3 * k + s)) = (L.length : Int) ∧ (∀ j : Int, 0 ≤ j → j < (i : Int) → f1 ((135 + 19 * (3 * k + s)) + 1 + j) = fd j) ∧ ∀ j : Int, (j < (135 + 19 * (3 * k + s)) ∨ (135 + 19 * (3 * k + s)) + 1 + (i : Int) ≤ j) → f1 j = f j) → 3 * L.length - i < k9 → G E F mX5_pulls (gQ E F mX5_pulls n (gD (some (.int (gi (g 9)))) n σ (fun h9 => (∃ f9 : Int → Int, h9 (m + 1) = gI E 311 f9 ∧ Rz f9 (sPul S s o k L (g 9))) ∧ gKp (m + 1) (m + 2) h h9)) (gNo)) n σ h1 0 0 17 [(4, .int (gi (i : Int))), (0, .ref m), (1, .int (gi s)), (2, .int (gi o)), (3, .int (gi k))] [] := by
    intro k9
    induction k9 with
    | zero => intro i h1 f1 hi hz1 hk1 hF h0; exact absurd h0 (Nat.not_lt_zero _)
    | succ k9 ih17 =>
      intro i h1 f1 hi hz1 hk1 hF hk17
      have m1 := (hk1 m (by omega)).trans hm
      have hd1 := (hk1 (m + 5) (by omega)).trans hd
      refine g_iload 19 C dX5_pulls_17 rfl rfl ?_
      refine g_iconst 20 C dX5_pulls_19 rfl ?_
      refine g_aload_n 21 C dX5_pulls_20 rfl rfl ?_
      refine g_getf 24 C dX5_pulls_21 fl_RX5_112 rfl (by omega) m1 rfl rfl ?_
      rw [h8]
      refine g_imul 25 C dX5_pulls_24 rfl ?_
      refine g_icmp_ge 55 28 C dX5_pulls_25 rfl rfl (by omega) (by omega) (fun c25 => ?_) (fun c25 => ?_)
      · skip
        have m19 : isMo h1 m g hs := m1
        have rl1 : Rl f1 (135 + 19 * (3 * k + s)) L := ⟨hF.1, fun p y hy => by
          have hp := (List.getElem?_eq_some_iff.mp hy).1
          obtain ⟨x1, x2, x3⟩ := hL p y hy
          rw [show (-1 : Int) + 1 + 3 * (p : Int) = 3 * (p : Int) by omega] at x1 x2 x3
          refine ⟨(hF.2.1 (3 * (p : Int)) (by omega) (by omega)).trans x1, ?_, ?_⟩
          · rw [Int.add_assoc]
            exact (hF.2.1 (3 * (p : Int) + 1) (by omega) (by omega)).trans x2
          · rw [Int.add_assoc]
            exact (hF.2.1 (3 * (p : Int) + 2) (by omega) (by omega)).trans x3⟩
        have fk1 : fKp (135 + 19 * (3 * k + s)) 19 f f1 := fun j z => hF.2.2 j (by omega)
        have R1 := hRk.setL hoK hk hss rl1 fk1
        have oK1 := okK_L (s := s) hoK hoL
        refine g_aload_n 56 C dX5_pulls_55 rfl rfl ?_
        refine g_iload_n 57 C dX5_pulls_56 rfl rfl ?_
        refine g_iload_n 58 C dX5_pulls_57 rfl rfl ?_
        refine g_S2r 61 0 0 C dX5_pulls_58 rfl lk_RX5_75 gs_X5_vectorAt ⟨⟨by decide, by decide⟩, by decide, by decide⟩ (Nat.le_of_ble_eq_true rfl) rfl rfl rfl (c_X5_vectorAt k s) g_no (fun h9 e58 => ?_)
        replace e58 := e58.symm
        subst e58
        refine g_iload_n 62 C dX5_pulls_61 rfl rfl ?_
        refine g_iload_n 63 C dX5_pulls_62 rfl rfl ?_
        refine g_S2r 66 0 0 C dX5_pulls_63 rfl lk_RX5_75 gs_X5_vectorAt ⟨⟨by decide, by decide⟩, by decide, by decide⟩ (Nat.le_of_ble_eq_true rfl) rfl rfl rfl (c_X5_vectorAt k o) g_no (fun h9 e63 => ?_)
        replace e63 := e63.symm
        subst e63
        refine g_V2v 69 0 0 C dX5_pulls_66 rfl lk_RX5_78 gi_X5_merges gv_X5_merges ⟨_, _, rfl⟩ (by omega) m1 ⟨⟨by decide, by decide⟩, by decide, by decide⟩ (Nat.le_of_ble_eq_true rfl) rfl rfl rfl (c_X5_merges m g hs f1 (90 + 15 * k + 5 * s) (90 + 15 * k + 5 * o) ((S.1 k).2.2.1 s) ((S.1 k).2.2.1 o) hmb m19 hz1 (by omega) (by omega) (by omega) (R1.2.2.1 s hss.1 hss.2) (R1.2.2.1 o ho.1 ho.2) (oV s hss.1 hss.2) (oV o ho.1 ho.2)) g_no (fun h2 e66 => ?_)
        obtain ⟨⟨f5, hz5, rv5, fk5⟩, hk5⟩ := e66
        have hz1 := hz5
        have hk1 := gKp_tr hk1 hk5
        have m1 := (hk1 m (by omega)).trans hm
        have R5 := R1.setV oK1 hk hss rv5 fk5
        have fy5 := fKy_tr (fKy_L hss fk1) (fKy_V hss fk5)
        have Z5 := hR.setK hok hk R5 fy5
        have oS5 : okS (tKey S k ((S.1 k).1, (S.1 k).2.1, gup (S.1 k).2.2.1 s (vmx ((S.1 k).2.2.1 s) ((S.1 k).2.2.1 o)), gup (S.1 k).2.2.2 s L)) := okS_set hok ⟨oW, oN, fun r r0 r3 => by
          show okV (gup (S.1 k).2.2.1 s _ r)
          by_cases e : r = s
          · rw [e, gup_at]
            exact okV_vmx (oV s hss.1 hss.2) (oV o ho.1 ho.2)
          · rw [gup_ne e]
            exact oV r r0 r3, oK1.2.2.2⟩
        have e308 : f5 308 = S.2 3 := Z5.2 3 (by decide) (by decide)
        refine g_aload_n 70 C dX5_pulls_69 rfl rfl ?_
        refine g_getf 73 C dX5_pulls_70 fl_RX5_7 rfl (by omega) m1 rfl rfl ?_
        refine g_sipush 76 C dX5_pulls_73 (by decide) rfl ?_
        refine g_dup2 77 C dX5_pulls_76 rfl rfl rfl ?_
        refine g_iald 78 C dX5_pulls_77 (by omega) hz1 (by omega) (by decide) rfl ?_
        rw [e308]
        refine g_aload_n 79 C dX5_pulls_78 rfl rfl ?_
        refine g_getf 82 C dX5_pulls_79 fl_RX5_115 rfl (by omega) m1 rfl rfl ?_
        refine g_iadd 83 C dX5_pulls_82 rfl ?_
        refine g_iast 84 C dX5_pulls_83 (by omega) hz1 (by omega) (by decide) rfl ?_
        refine g_aload_n 85 C dX5_pulls_84 rfl rfl ?_
        refine g_getf 88 C dX5_pulls_85 fl_RX5_115 rfl (by omega) ((up_n (by omega)).trans m1) rfl rfl ?_
        exact g_iret C dX5_pulls_88 rfl ⟨by decide, by decide⟩ (by
            have Z6 := Z5.setC (j := 3) (v := S.2 3 + g 9) oS5 (by decide)
            exact ⟨rfl, rfl, rfl, ⟨_, up_s, Z6⟩, gKp_tr hk1 (gKp_up (by omega))⟩)
      · skip
        refine g_aload_n 29 C dX5_pulls_28 rfl rfl ?_
        refine g_getf 32 C dX5_pulls_29 fl_RX5_7 rfl (by omega) m1 rfl rfl ?_
        refine g_iload_n 33 C dX5_pulls_32 rfl rfl ?_
        refine g_iload_n 34 C dX5_pulls_33 rfl rfl ?_
        refine g_iconst 35 C dX5_pulls_34 rfl ?_
        refine g_S3r 38 0 0 C dX5_pulls_35 rfl lk_RX5_50 gs_X5_placeAt ⟨⟨by decide, by decide⟩, by decide, by decide⟩ (Nat.le_of_ble_eq_true rfl) rfl rfl rfl (c_X5_placeAt k s 0) g_no (fun h9 e35 => ?_)
        replace e35 := e35.symm
        subst e35
        refine g_iload 40 C dX5_pulls_38 rfl rfl ?_
        refine g_iadd 41 C dX5_pulls_40 rfl ?_
        refine g_aload_n 42 C dX5_pulls_41 rfl rfl ?_
        refine g_getf 45 C dX5_pulls_42 fl_RX5_22 rfl (by omega) m1 rfl rfl ?_
        refine g_iload 47 C dX5_pulls_45 rfl rfl ?_
        refine g_iald 48 C dX5_pulls_47 (by omega) hd1 (by omega) (by decide) rfl ?_
        refine g_iast 49 C dX5_pulls_48 (by omega) hz1 (by omega) (by decide) rfl ?_
        have hF8 : gup f1 ((135 + 19 * (3 * k + s)) + 1 + 3 * 0 + (i : Int)) (fd (i : Int)) (135 + 19 * (3 * k + s)) = (L.length : Int) ∧ (∀ j : Int, 0 ≤ j → j < ((i + 1 : Nat) : Int) → gup f1 ((135 + 19 * (3 * k + s)) + 1 + 3 * 0 + (i : Int)) (fd (i : Int)) ((135 + 19 * (3 * k + s)) + 1 + j) = fd j) ∧ ∀ j : Int, (j < (135 + 19 * (3 * k + s)) ∨ (135 + 19 * (3 * k + s)) + 1 + ((i + 1 : Nat) : Int) ≤ j) → gup f1 ((135 + 19 * (3 * k + s)) + 1 + 3 * 0 + (i : Int)) (fd (i : Int)) j = f j := by
          refine ⟨(gup_ne (by omega)).trans hF.1, fun j j0 j1 => ?_, fun j z => (gup_ne (by omega)).trans (hF.2.2 j (by omega))⟩
          by_cases e : j = (i : Int)
          · rw [e]
            exact gup_eq (by omega)
          · rw [gup_ne (by omega)]
            exact hF.2.1 j j0 (by omega)
        refine g_iinc 52 [(4, _), (0, _), (1, _), (2, _), (3, _)] C dX5_pulls_49 rfl (by decide) rfl rfl ?_
        refine g_goto 17 C dX5_pulls_52 rfl ?_
        refine g_loc [(4, _), (0, _), (1, _), (2, _), (3, _)] ⟨rfl, rfl, rfl, rfl, rfl, trivial⟩ ?_
        exact ih17 (i + 1) _ _ (by omega) up_s (gKp_tr hk1 (gKp_up (by omega))) hF8 (by omega)
  refine g_loc [(4, _), (0, _), (1, _), (2, _), (3, _)] ⟨rfl, rfl, rfl, rfl, rfl, trivial⟩ ?_
  exact lp17 _ 0 _ _ (by omega) up_s (gKp_up (by omega)) ⟨gup_at, fun j j0 j1 => absurd j1 (by omega), fun j z => gup_ne (by omega)⟩ (Nat.lt_succ_self _)
/-- the class's list is the model's, where it fits -/
theorem tkS_or {V : Int → Int} {l acc : List (Int × Int)} {y : Int × Int} (h : hasM acc y.1 = hasM l y.1) (hl : (insr y acc).length ≤ 4 ∨ isN V l y.1 = false) : tkS V acc y = if isN V l y.1 then insr y acc else acc := by
  unfold tkS
  have e : isN V acc y.1 = isN V l y.1 := by unfold isN; rw [h]
  rw [e]
  cases hy : isN V l y.1
  · rfl
  · rcases hl with z | z
    · rw [insr_len] at z
      show ins4 y acc = insr y acc
      unfold ins4
      rw [if_pos (by omega)]
    · rw [hy] at z
      cases z
theorem hasM_in {l : List (Int × Int)} {mark : Int} : hasM l mark = true ↔ ∃ y ∈ l, y.1 = mark := by
  unfold hasM
  rw [List.any_eq_true]
  constructor
  · rintro ⟨y, hy, e⟩
    exact ⟨y, hy, by simpa using e⟩
  · rintro ⟨y, hy, e⟩
    exact ⟨y, hy, by simpa using e⟩
theorem insr_mem2 {x y : Int × Int} {l : List (Int × Int)} (h : y = x ∨ y ∈ l) : y ∈ insr x l := by
  have e := List.takeWhile_append_dropWhile (p := fun y : Int × Int => decide (x.1 < y.1)) (l := l.reverse)
  unfold insr
  rw [List.mem_append, List.mem_cons, List.mem_reverse, List.mem_reverse]
  rcases h with h | h
  · exact Or.inr (Or.inl h)
  · have h := List.mem_reverse.mpr h
    rw [← e, List.mem_append] at h
    rcases h with h | h
    · exact Or.inr (Or.inr h)
    · exact Or.inl h
theorem tk_go {V : Int → Int} {l : List (Int × Int)} : ∀ (L acc : List (Int × Int)), srt L → (∀ y ∈ L, hasM acc y.1 = hasM l y.1) → (fIn acc (L.filter (fun p => isN V l p.1))).length ≤ 4 → L.foldl (tkS V) acc = fIn acc (L.filter (fun p => isN V l p.1)) := by
  intro L
  induction L with
  | nil => intro acc _ _ _; rfl
  | cons y L ih =>
    intro acc hs hm hl
    have hs' := List.pairwise_cons.mp hs
    show L.foldl (tkS V) (tkS V acc y) = _
    by_cases hy : isN V l y.1 = true
    · rw [List.filter_cons_of_pos (by exact hy)] at hl ⊢
      have hl2 : (insr y acc).length ≤ 4 := by
        have z : (fIn (insr y acc) (L.filter (fun p => isN V l p.1))).length ≤ 4 := hl
        rw [fIn_len] at z
        omega
      rw [tkS_or (l := l) (hm y List.mem_cons_self) (Or.inl hl2), if_pos hy]
      refine ih (insr y acc) hs'.2 (fun z hz => ?_) hl
      rw [← hm z (List.mem_cons_of_mem _ hz), Bool.eq_iff_iff, hasM_in, hasM_in]
      constructor
      · rintro ⟨w, hw, e⟩
        rcases insr_mem hw with rfl | hw
        · have := hs'.1 z hz
          omega
        · exact ⟨w, hw, e⟩
      · rintro ⟨w, hw, e⟩
        exact ⟨w, insr_mem2 (Or.inr hw), e⟩
    · rw [List.filter_cons_of_neg (by exact hy)] at hl ⊢
      have hyf : isN V l y.1 = false := by
        cases e : isN V l y.1
        · rfl
        · exact absurd e hy
      rw [tkS_or (l := l) (hm y List.mem_cons_self) (Or.inr hyf), if_neg hy]
      exact ih acc hs'.2 (fun z hz => hm z (List.mem_cons_of_mem _ hz)) hl
theorem tk_tr {K : gKy} {s o : Int} (h2 : srt (K.2.2.2 o)) (hl : (trL K s o).length ≤ 4) : tkL (K.2.2.1 s) (K.2.2.1 o) (K.2.2.2 s) (K.2.2.2 o) = trL K s o := by
  refine tk_go (l := K.2.2.2 s) (K.2.2.2 o) (tkA (K.2.2.1 o) (K.2.2.2 s) (K.2.2.2 o)) h2 (fun y hy => ?_) hl
  rw [Bool.eq_iff_iff, hasM_in, hasM_in]
  constructor
  · rintro ⟨w, hw, e⟩
    exact ⟨w, (List.mem_filter.mp hw).1, e⟩
  · rintro ⟨w, hw, e⟩
    refine ⟨w, List.mem_filter.mpr ⟨hw, ?_⟩, e⟩
    have hh : hasM (K.2.2.2 o) w.1 = true := hasM_in.mpr ⟨y, hy, e.symm⟩
    show (!(drp (K.2.2.1 o) (K.2.2.2 o) w.1)) = true
    unfold drp
    rw [hh]
    rfl
theorem trL_len {K : gKy} {s o : Int} : ((trL K s o).length : Int) = pOut K s o 2 := by
  unfold trL
  rw [fIn_len]
  have e : ∀ (q : Int × Int → Bool) (l : List (Int × Int)), ((l.filter (fun p => !(q p))).length : Int) = (l.length : Int) - (l.countP q : Int) := by
    intro q l
    induction l with
    | nil => rfl
    | cons y l ih =>
      cases hq : q y
      · rw [List.filter_cons_of_pos (by rw [hq]; rfl), List.countP_cons_of_neg (by rw [hq]; decide), List.length_cons, List.length_cons]
        omega
      · rw [List.filter_cons_of_neg (by rw [hq]; decide), List.countP_cons_of_pos hq, List.length_cons]
        omega
  have e1 := e (fun p => drp (K.2.2.1 o) (K.2.2.2 o) p.1) (K.2.2.2 s)
  have e2 : (((K.2.2.2 o).filter (fun p => isN (K.2.2.1 s) (K.2.2.2 s) p.1)).length : Int) = pGain K s o := by
    unfold pGain
    rw [List.countP_eq_length_filter]
  show ((((K.2.2.2 s).filter (stay (K.2.2.1 o) (K.2.2.2 o))).length + _ : Nat) : Int) = ((K.2.2.2 s).length : Int) - pLost K s o + pGain K s o
  rw [Int.natCast_add, e2]
  have e1 : (((K.2.2.2 s).filter (stay (K.2.2.1 o) (K.2.2.2 o))).length : Int) = ((K.2.2.2 s).length : Int) - pLost K s o := e1
  rw [e1]
