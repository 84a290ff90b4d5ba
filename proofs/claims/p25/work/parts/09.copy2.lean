/-! SiblingJoins$Copy: what writes -/
def fmx (f g : Int → Int) (i : Int) : Int → Int := fun j => if j < i then vmx f g j else f j
theorem fmx_up {f g : Int → Int} {i : Int} : gup (fmx f g i) i (vmx f g i) = fmx f g (i + 1) := by
  funext j
  unfold gup fmx
  by_cases h1 : j = i
  · subst h1
    rw [if_pos rfl, if_pos (by omega)]
  · rw [if_neg h1]
    by_cases h2 : j < i
    · rw [if_pos h2, if_pos (by omega)]
    · rw [if_neg h2, if_neg (by omega)]
set_option maxRecDepth 100000 in
set_option maxHeartbeats 4000000 in
theorem c_X4_mergeInto {E : gEnv} {n : Nat} {σ : Option Nat} {h : gH} (a b : Nat) (f g : Int → Int) (hab : gB E ≤ a ∧ a < gB E + n) (hbb : gB E ≤ b ∧ b < gB E + n) (ha : h a = gI E 5 f) (hb : h b = gI E 5 g) (hne : a ≠ b) (hf : okV f) (hg : okV g) : gM E mX4_mergeInto [.ref a, .ref b] n σ h (gD none n σ (fun h9 => h9 a = gI E 5 (vmx f g) ∧ gKp a (a + 1) h h9)) (gNo) := by
  refine gM_of (by decide) (Nat.le_of_ble_eq_true rfl) (fun F C => ?_)
  refine g_iconst 1 C dX4_mergeInto_0 rfl ?_
  refine g_istore_n 2 [(2, _), (0, _), (1, _)] C dX4_mergeInto_1 (by decide) rfl rfl ?_
  have lp2 : ∀ (k9 : Nat) (i : Int) (h1 : gH), (0 ≤ i ∧ i ≤ 5) → h1 a = gI E 5 (fmx f g i) → h1 b = gI E 5 g → gKp a (a + 1) h h1 → (5 - i).toNat < k9 → G E F mX4_mergeInto (gQ E F mX4_mergeInto n (gD none n σ (fun h9 => h9 a = gI E 5 (vmx f g) ∧ gKp a (a + 1) h h9)) (gNo)) n σ h1 0 0 2 [(2, .int (gi i)), (0, .ref a), (1, .ref b)] [] := by
    intro k9
    induction k9 with
    | zero => intro i h1 hi h1a h1b hk h0; exact absurd h0 (Nat.not_lt_zero _)
    | succ k9 ih2 =>
      intro i h1 hi h1a h1b hk hk2
      refine g_iload_n 3 C dX4_mergeInto_2 rfl rfl ?_
      refine g_iconst 4 C dX4_mergeInto_3 rfl ?_
      refine g_icmp_ge 25 7 C dX4_mergeInto_4 rfl rfl (by omega) (by omega) (fun c4 => ?_) (fun c4 => ?_)
      · skip
        exact g_vret C dX4_mergeInto_25 rfl ⟨by decide, by decide⟩ (⟨rfl, rfl, rfl, by rw [h1a]; exact gI_ext (fun j h0 h5 => if_pos (by omega)), hk⟩)
      · skip
        have hv := hf i (by omega) (by omega)
        have hv2 := hg i (by omega) (by omega)
        have ef : fmx f g i i = f i := if_neg (by omega)
        refine g_aload_n 8 C dX4_mergeInto_7 rfl rfl ?_
        refine g_iload_n 9 C dX4_mergeInto_8 rfl rfl ?_
        refine g_aload_n 10 C dX4_mergeInto_9 rfl rfl ?_
        refine g_iload_n 11 C dX4_mergeInto_10 rfl rfl ?_
        refine g_iald 12 C dX4_mergeInto_11 hab h1a (by omega) (by decide) rfl ?_
        refine g_aload_n 13 C dX4_mergeInto_12 rfl rfl ?_
        refine g_iload_n 14 C dX4_mergeInto_13 rfl rfl ?_
        refine g_iald 15 C dX4_mergeInto_14 hbb h1b (by omega) (by decide) rfl ?_
        refine g_max 18 C dX4_mergeInto_15 rfl sp_RX4_270 (by decide) (Nat.le_of_ble_eq_true rfl) (by decide) (by decide) (by omega) (by omega) rfl ?_
        refine g_iast 19 C dX4_mergeInto_18 hab h1a (by omega) (by decide) rfl ?_
        refine g_iinc 22 [(2, _), (0, _), (1, _)] C dX4_mergeInto_19 rfl (by decide) rfl rfl ?_
        refine g_goto 2 C dX4_mergeInto_22 rfl ?_
        refine g_loc [(2, _), (0, _), (1, _)] ⟨rfl, rfl, rfl, trivial⟩ ?_
        rw [show fmx f g i i = f i from if_neg (by omega), show (if f i < g i then g i else f i) = vmx f g i from rfl, fmx_up]
        exact ih2 (i + 1) _ (by omega) up_s ((up_n (Ne.symm hne)).trans h1b) (gKp_tr hk (gKp_up (by omega))) (by omega)
  refine g_loc [(2, _), (0, _), (1, _)] ⟨rfl, rfl, rfl, trivial⟩ ?_
  exact lp2 _ 0 h (by omega) (by rw [ha]; exact gI_ext (fun j h0 h5 => by unfold fmx; rw [if_neg (by omega)])) hb gKp_rf (Nat.lt_succ_self _)
set_option maxRecDepth 100000 in
set_option maxHeartbeats 4000000 in
theorem c_X4_sameNumbers {E : gEnv} {n : Nat} {σ : Option Nat} {h : gH} (a b : Nat) (f g : Int → Int) (hab : gB E ≤ a ∧ a < gB E + n) (hbb : gB E ≤ b ∧ b < gB E + n) (ha : h a = gI E 5 f) (hb : h b = gI E 5 g) (hf : okV f) (hg : okV g) : gM E mX4_sameNumbers [.ref a, .ref b] n σ h (gD (some (.int (gi (gbi (veq f g))))) n σ (fun h9 => h9 = h)) (gNo) := by
  refine gM_of (by decide) (Nat.le_of_ble_eq_true rfl) (fun F C => ?_)
  refine g_iconst 1 C dX4_sameNumbers_0 rfl ?_
  refine g_istore_n 2 [(2, _), (0, _), (1, _)] C dX4_sameNumbers_1 (by decide) rfl rfl ?_
  have lp2 : ∀ (k9 : Nat) (i : Nat), i ≤ 5 → (∀ j : Nat, j < i → f (j : Int) = g (j : Int)) → 5 - i < k9 → G E F mX4_sameNumbers (gQ E F mX4_sameNumbers n (gD (some (.int (gi (gbi (veq f g))))) n σ (fun h9 => h9 = h)) (gNo)) n σ h 0 0 2 [(2, .int (gi (i : Int))), (0, .ref a), (1, .ref b)] [] := by
    intro k9
    induction k9 with
    | zero => intro i hi hno h0; exact absurd h0 (Nat.not_lt_zero _)
    | succ k9 ih2 =>
      intro i hi hno hk2
      refine g_iload_n 3 C dX4_sameNumbers_2 rfl rfl ?_
      refine g_iconst 4 C dX4_sameNumbers_3 rfl ?_
      refine g_icmp_ge 24 7 C dX4_sameNumbers_4 rfl rfl (by omega) (by omega) (fun c4 => ?_) (fun c4 => ?_)
      · skip
        refine g_iconst 25 C dX4_sameNumbers_24 rfl ?_
        exact g_zret C dX4_sameNumbers_25 rfl rfl ⟨by decide, by decide⟩ (by rw [gbi_t (veq_t (fun j hj => hno j (by omega)))]; exact ⟨rfl, rfl, rfl, rfl⟩)
      · skip
        have hv := hf (i : Int) (by omega) (by omega)
        have hv2 := hg (i : Int) (by omega) (by omega)
        refine g_aload_n 8 C dX4_sameNumbers_7 rfl rfl ?_
        refine g_iload_n 9 C dX4_sameNumbers_8 rfl rfl ?_
        refine g_iald 10 C dX4_sameNumbers_9 hab ha (by omega) (by decide) rfl ?_
        refine g_aload_n 11 C dX4_sameNumbers_10 rfl rfl ?_
        refine g_iload_n 12 C dX4_sameNumbers_11 rfl rfl ?_
        refine g_iald 13 C dX4_sameNumbers_12 hbb hb (by omega) (by decide) rfl ?_
        refine g_icmp_eq 18 16 C dX4_sameNumbers_13 rfl rfl (by omega) (by omega) (fun c13 => ?_) (fun c13 => ?_)
        · skip
          refine g_iinc 21 [(2, _), (0, _), (1, _)] C dX4_sameNumbers_18 rfl (by decide) rfl rfl ?_
          refine g_goto 2 C dX4_sameNumbers_21 rfl ?_
          refine g_loc [(2, _), (0, _), (1, _)] ⟨rfl, rfl, rfl, trivial⟩ ?_
          exact ih2 (i + 1) (by omega) (fun j hj => by rcases Nat.lt_or_ge j i with z | z; exact hno j z; rw [show j = i by omega]; exact c13) (by omega)
        · skip
          refine g_iconst 17 C dX4_sameNumbers_16 rfl ?_
          exact g_zret C dX4_sameNumbers_17 rfl rfl ⟨by decide, by decide⟩ (by rw [gbi_f (veq_f (j := i) (by omega) c13)]; exact ⟨rfl, rfl, rfl, rfl⟩)
  refine g_loc [(2, _), (0, _), (1, _)] ⟨rfl, rfl, rfl, trivial⟩ ?_
  exact lp2 _ 0 (by omega) (fun j hj => absurd hj (Nat.not_lt_zero _)) (Nat.lt_succ_self _)
set_option maxRecDepth 100000 in
set_option maxHeartbeats 4000000 in
theorem c_X0_remove {E : gEnv} {n : Nat} {σ : Option Nat} {h : gH} (c : Nat) (V : Int → Int) (l : List (Int × Int)) (p : Nat) (hcb : gB E ≤ c ∧ c + 4 ≤ gB E + n) (hC : isC E h c V l) (hok : okL l) (hp : p < l.length) : gM E mX0_remove [.ref c, .int (gi (p : Int))] n σ h (gD none n σ (fun h9 => isC E h9 c V (l.eraseIdx p) ∧ gKp c (c + 4) h h9)) (gNo) := by
  obtain ⟨mk, vl, hl, q⟩ := hC
  have hlen := hok.1
  refine gM_of (by decide) (Nat.le_of_ble_eq_true rfl) (fun F C => ?_)
  refine g_iload_n 1 C dX0_remove_0 rfl rfl ?_
  refine g_iconst 2 C dX0_remove_1 rfl ?_
  refine g_iadd 3 C dX0_remove_2 rfl ?_
  refine g_istore_n 4 [(2, _), (0, _), (1, _)] C dX0_remove_3 (by decide) rfl rfl ?_
  have lp4 : ∀ (k9 : Nat) (i : Nat) (h1 : gH) (mk1 vl1 : Int → Int), (p + 1 ≤ i ∧ i ≤ l.length) → isR E h1 c V mk1 vl1 (l.length : Int) → gKp c (c + 4) h h1 → (∀ j : Nat, j < l.length → (mk1 (j : Int) = if p ≤ j ∧ j + 1 < i then mk ((j + 1 : Nat) : Int) else mk (j : Int)) ∧ (vl1 (j : Int) = if p ≤ j ∧ j + 1 < i then vl ((j + 1 : Nat) : Int) else vl (j : Int))) → l.length - i < k9 → G E F mX0_remove (gQ E F mX0_remove n (gD none n σ (fun h9 => isC E h9 c V (l.eraseIdx p) ∧ gKp c (c + 4) h h9)) (gNo)) n σ h1 0 0 4 [(2, .int (gi (i : Int))), (0, .ref c), (1, .int (gi (p : Int)))] [] := by
    intro k9
    induction k9 with
    | zero => intro i h1 mk1 vl1 hi q1 hk hf h0; exact absurd h0 (Nat.not_lt_zero _)
    | succ k9 ih4 =>
      intro i h1 mk1 vl1 hi q1 hk hf hk4
      refine g_iload_n 5 C dX0_remove_4 rfl rfl ?_
      refine g_aload_n 6 C dX0_remove_5 rfl rfl ?_
      refine g_getf 9 C dX0_remove_6 fl_RX0_27 rfl (by omega) q1.1 rfl rfl ?_
      refine g_icmp_ge 46 12 C dX0_remove_9 rfl rfl (by omega) (by omega) (fun c9 => ?_) (fun c9 => ?_)
      · skip
        refine g_aload_n 47 C dX0_remove_46 rfl rfl ?_
        refine g_dup 48 C dX0_remove_47 rfl rfl ?_
        refine g_getf 51 C dX0_remove_48 fl_RX0_27 rfl (by omega) q1.1 rfl rfl ?_
        refine g_iconst 52 C dX0_remove_51 rfl ?_
        refine g_isub 53 C dX0_remove_52 rfl ?_
        have q4 := q1.sz ((l.length : Int) - 1)
        have e4 : l.eraseIdx p = lst mk1 vl1 (l.length - 1) := by
          have e5 := lst_erase (mk := mk) (vl := vl) (mk' := mk1) (vl' := vl1) (n := l.length) hp (fun j hj => by
            obtain ⟨z1, z2⟩ := hf j (by omega)
            by_cases y : j < p
            · rw [if_neg (by omega)] at z1 z2
              rw [if_pos y, if_pos y]
              exact ⟨z1, z2⟩
            · rw [if_pos (by omega)] at z1 z2
              rw [if_neg y, if_neg y]
              exact ⟨z1, z2⟩)
          rw [← hl] at e5
          exact e5
        have e6 : (l.eraseIdx p).length = l.length - 1 := by rw [e4, lst_len]
        refine g_putf 56 C dX0_remove_53 fp_RX0_27 rfl (by omega) q1.1 rfl rfl (Nat.le_of_ble_eq_true rfl) rfl ?_
        exact g_vret C dX0_remove_56 rfl ⟨by decide, by decide⟩ (⟨rfl, rfl, rfl, ⟨mk1, vl1, by rw [e6]; exact e4, by rw [e6, show ((l.length - 1 : Nat) : Int) = (l.length : Int) - 1 by omega]; exact q4⟩, gKp_tr hk (gKp_up (by omega))⟩)
      · skip
        refine g_aload_n 13 C dX0_remove_12 rfl rfl ?_
        refine g_getf 16 C dX0_remove_13 fl_RX0_15 rfl (by omega) q1.1 rfl rfl ?_
        refine g_iload_n 17 C dX0_remove_16 rfl rfl ?_
        refine g_iconst 18 C dX0_remove_17 rfl ?_
        refine g_isub 19 C dX0_remove_18 rfl ?_
        refine g_aload_n 20 C dX0_remove_19 rfl rfl ?_
        refine g_getf 23 C dX0_remove_20 fl_RX0_15 rfl (by omega) q1.1 rfl rfl ?_
        refine g_iload_n 24 C dX0_remove_23 rfl rfl ?_
        refine g_iald 25 C dX0_remove_24 (by omega) q1.2.2.1 (by omega) (by decide) rfl ?_
        refine g_iast 26 C dX0_remove_25 (by omega) q1.2.2.1 (by omega) (by decide) rfl ?_
        have q2 := q1.mk (gup mk1 ((i : Int) - 1) (mk1 (i : Int)))
        refine g_aload_n 27 C dX0_remove_26 rfl rfl ?_
        refine g_getf 30 C dX0_remove_27 fl_RX0_18 rfl (by omega) q2.1 rfl rfl ?_
        refine g_iload_n 31 C dX0_remove_30 rfl rfl ?_
        refine g_iconst 32 C dX0_remove_31 rfl ?_
        refine g_isub 33 C dX0_remove_32 rfl ?_
        refine g_aload_n 34 C dX0_remove_33 rfl rfl ?_
        refine g_getf 37 C dX0_remove_34 fl_RX0_18 rfl (by omega) q2.1 rfl rfl ?_
        refine g_iload_n 38 C dX0_remove_37 rfl rfl ?_
        refine g_iald 39 C dX0_remove_38 (by omega) q2.2.2.2 (by omega) (by decide) rfl ?_
        refine g_iast 40 C dX0_remove_39 (by omega) q2.2.2.2 (by omega) (by decide) rfl ?_
        have q3 := q2.vl (gup vl1 ((i : Int) - 1) (vl1 (i : Int)))
        refine g_iinc 43 [(2, _), (0, _), (1, _)] C dX0_remove_40 rfl (by decide) rfl rfl ?_
        refine g_goto 4 C dX0_remove_43 rfl ?_
        refine g_loc [(2, _), (0, _), (1, _)] ⟨rfl, rfl, rfl, trivial⟩ ?_
        exact ih4 (i + 1) _ _ _ (by omega) q3 (gKp_tr hk (gKp_tr (gKp_up (by omega)) (gKp_up (by omega)))) (fun j hj => by
          unfold gup
          by_cases z : (j : Int) = (i : Int) - 1
          · obtain ⟨z1, z2⟩ := hf i (by omega)
            rw [if_neg (by omega)] at z1 z2
            rw [if_pos z, if_pos z, if_pos (by omega), if_pos (by omega), z1, z2, show j + 1 = i by omega]
            exact ⟨rfl, rfl⟩
          · rw [if_neg z, if_neg z]
            obtain ⟨z1, z2⟩ := hf j hj
            by_cases y : p ≤ j ∧ j + 1 < i
            · rw [if_pos y] at z1 z2
              rw [if_pos (by omega), if_pos (by omega)]
              exact ⟨z1, z2⟩
            · rw [if_neg y] at z1 z2
              rw [if_neg (by omega), if_neg (by omega)]
              exact ⟨z1, z2⟩) (by omega)
  refine g_loc [(2, _), (0, _), (1, _)] ⟨rfl, rfl, rfl, trivial⟩ ?_
  exact lp4 _ (p + 1) h mk vl (by omega) q gKp_rf (fun j hj => ⟨by rw [if_neg (by omega)], by rw [if_neg (by omega)]⟩) (Nat.lt_succ_self _)
theorem up_e {h : gH} {q x : Nat} {e : va_E} (hx : x = q) : va_up h q e x = e := if_pos hx
theorem lst_ins {mk vl mk' vl' : Int → Int} {n k : Nat} {m v : Int} (hk : k ≤ n) (h : ∀ j : Nat, j < n + 1 → (mk' (j : Int) = if j < k then mk (j : Int) else if j = k then m else mk ((j - 1 : Nat) : Int)) ∧ (vl' (j : Int) = if j < k then vl (j : Int) else if j = k then v else vl ((j - 1 : Nat) : Int))) : lst mk' vl' (n + 1) = (lst mk vl n).take k ++ (m, v) :: (lst mk vl n).drop k := by
  have hlt : ((lst mk vl n).take k).length = k := by rw [List.length_take, lst_len]; omega
  apply List.ext_getElem?
  intro j
  by_cases hj : j < n + 1
  · obtain ⟨h1, h2⟩ := h j hj
    rw [lst_get hj, h1, h2]
    by_cases c1 : j < k
    · rw [if_pos c1, if_pos c1, List.getElem?_append_left (by omega), List.getElem?_take, if_pos c1, lst_get (by omega)]
    · rw [if_neg c1, if_neg c1, List.getElem?_append_right (by omega), hlt]
      by_cases c2 : j = k
      · rw [if_pos c2, if_pos c2, c2, Nat.sub_self]
        rfl
      · rw [if_neg c2, if_neg c2, show j - k = (j - k - 1) + 1 by omega, List.getElem?_cons_succ, List.getElem?_drop, lst_get (by omega)]
        rw [show k + (j - k - 1) = j - 1 by omega]
  · rw [List.getElem?_eq_none (by rw [lst_len]; omega), List.getElem?_eq_none (by rw [List.length_append, hlt, List.length_cons, List.length_drop, lst_len]; omega)]
theorem flt_k {l : List (Int × Int)} {q : Int × Int → Bool} {p : Nat} {x : Int × Int} (hx : l[p]? = some x) (hq : q x = true) : l.take p ++ (l.drop p).filter q = l.take (p + 1) ++ (l.drop (p + 1)).filter q := by
  have hp := (List.getElem?_eq_some_iff.mp hx).1
  rw [List.take_add_one, hx, List.drop_eq_getElem_cons hp, (List.getElem?_eq_some_iff.mp hx).2, List.filter_cons, if_pos hq]
  simp
theorem flt_r {l : List (Int × Int)} {q : Int × Int → Bool} {p : Nat} {x : Int × Int} (hx : l[p]? = some x) (hq : q x = false) : l.take p ++ (l.drop p).filter q = (l.take (p + 1) ++ (l.drop (p + 1)).filter q).eraseIdx p := by
  have hp := (List.getElem?_eq_some_iff.mp hx).1
  have hlt : (l.take p).length = p := by rw [List.length_take]; omega
  rw [List.take_add_one, hx, List.drop_eq_getElem_cons hp, (List.getElem?_eq_some_iff.mp hx).2, List.filter_cons, if_neg (by rw [hq]; decide), List.append_assoc, List.eraseIdx_append_of_length_le (by omega), hlt, Nat.sub_self]
  rfl
theorem flt_at {l : List (Int × Int)} {q : Int × Int → Bool} {p : Nat} (hp : p < l.length) : (l.take (p + 1) ++ (l.drop (p + 1)).filter q)[p]? = l[p]? := by
  rw [List.getElem?_append_left (by rw [List.length_take]; omega), List.getElem?_take, if_pos (by omega)]
theorem flt_ok {l : List (Int × Int)} {q : Int × Int → Bool} {k : Nat} (hok : okL l) : okL (l.take k ++ (l.drop k).filter q) := by
  refine okL_sub hok ?_ (fun p hp => ?_)
  · rw [List.length_append]
    have h1 := List.length_filter_le q (l.drop k)
    rw [List.length_drop] at h1
    rw [List.length_take]
    omega
  · rcases List.mem_append.mp hp with h | h
    · exact List.mem_of_mem_take h
    · exact List.mem_of_mem_drop (List.mem_filter.mp h).1
theorem flt_len {l : List (Int × Int)} {q : Int × Int → Bool} {k : Nat} (hk : k ≤ l.length) : k ≤ (l.take k ++ (l.drop k).filter q).length := by
  rw [List.length_append, List.length_take]
  omega
theorem okL_filter {l : List (Int × Int)} {q : Int × Int → Bool} (hok : okL l) : okL (l.filter q) := okL_sub hok (List.length_filter_le _ _) (fun p hp => (List.mem_filter.mp hp).1)
theorem okV_vmx {f g : Int → Int} (hf : okV f) (hg : okV g) : okV (vmx f g) := fun i h0 h5 => by
  unfold vmx
  have h1 := hf i h0 h5
  have h2 := hg i h0 h5
  by_cases c : f i < g i
  · rw [if_pos c]; exact h2
  · rw [if_neg c]; exact h1
theorem okL_tkS {V : Int → Int} {acc : List (Int × Int)} {x : Int × Int} (h : okL acc) (hx : 0 ≤ x.1 ∧ x.1 < 5000 ∧ 0 ≤ x.2 ∧ x.2 ≤ 99) : okL (tkS V acc x) := by
  unfold tkS
  by_cases c : isN V acc x.1 = true
  · rw [if_pos c]; exact okL_ins4 h hx
  · rw [if_neg c]; exact h
theorem okL_fold {V : Int → Int} : ∀ (l2 acc : List (Int × Int)), okL acc → (∀ x ∈ l2, 0 ≤ x.1 ∧ x.1 < 5000 ∧ 0 ≤ x.2 ∧ x.2 ≤ 99) → okL (l2.foldl (tkS V) acc)
  | [], acc, h, _ => h
  | x :: l2, acc, h, hx => okL_fold l2 _ (okL_tkS h (hx x List.mem_cons_self)) (fun y hy => hx y (List.mem_cons_of_mem _ hy))
theorem okL_tkL {V V2 : Int → Int} {l l2 : List (Int × Int)} (h : okL l) (h2 : okL l2) : okL (tkL V V2 l l2) := okL_fold l2 _ (okL_filter h) h2.2
theorem take_fold {V : Int → Int} {l2 acc : List (Int × Int)} {i : Nat} {x : Int × Int} (hx : l2[i]? = some x) : (l2.take (i + 1)).foldl (tkS V) acc = tkS V ((l2.take i).foldl (tkS V) acc) x := by
  rw [List.take_add_one, hx, List.foldl_append]
  rfl
set_option maxRecDepth 100000 in
set_option maxHeartbeats 4000000 in
theorem c_X0_insert {E : gEnv} {n : Nat} {σ : Option Nat} {h : gH} (c : Nat) (V : Int → Int) (l : List (Int × Int)) (mark value : Int) (hcb : gB E ≤ c ∧ c + 4 ≤ gB E + n) (hC : isC E h c V l) (hok : okL l) (hm : 0 ≤ mark ∧ mark < 5000) : gM E mX0_insert [.ref c, .int (gi mark), .int (gi value)] n σ h (gD none n σ (fun h9 => isC E h9 c V (ins4 (mark, value) l) ∧ gKp c (c + 4) h h9)) (gNo) := by
  have hC9 := hC
  obtain ⟨mk, vl, hl, q⟩ := hC
  have hlen := hok.1
  refine gM_of (by decide) (Nat.le_of_ble_eq_true rfl) (fun F C => ?_)
  refine g_aload_n 1 C dX0_insert_0 rfl rfl ?_
  refine g_getf 4 C dX0_insert_1 fl_RX0_27 rfl (by omega) q.1 rfl rfl ?_
  refine g_if_lt 15 7 C dX0_insert_4 rfl rfl (by omega) (fun c4 => ?_) (fun c4 => ?_)
  · skip
    exact absurd c4 (by omega)
  · skip
    refine g_aload_n 8 C dX0_insert_7 rfl rfl ?_
    refine g_getf 11 C dX0_insert_8 fl_RX0_27 rfl (by omega) q.1 rfl rfl ?_
    refine g_iconst 12 C dX0_insert_11 rfl ?_
    refine g_icmp_lt 16 15 C dX0_insert_12 rfl rfl (by omega) (by omega) (fun c12 => ?_) (fun c12 => ?_)
    · skip
      refine g_aload_n 17 C dX0_insert_16 rfl rfl ?_
      refine g_getf 20 C dX0_insert_17 fl_RX0_27 rfl (by omega) q.1 rfl rfl ?_
      refine g_istore_n 21 [(3, _), (0, _), (1, _), (2, _)] C dX0_insert_20 (by decide) rfl rfl ?_
      have lp21 : ∀ (k9 : Nat) (k : Nat) (h1 : gH) (mk1 vl1 : Int → Int), k ≤ l.length → isR E h1 c V mk1 vl1 (l.length : Int) → gKp c (c + 4) h h1 → (∀ j : Nat, k ≤ j ∧ j < l.length → mark < mk (j : Int)) → (∀ j : Nat, j < l.length + 1 → (mk1 (j : Int) = if k < j then mk ((j - 1 : Nat) : Int) else mk (j : Int)) ∧ (vl1 (j : Int) = if k < j then vl ((j - 1 : Nat) : Int) else vl (j : Int))) → k < k9 → G E F mX0_insert (gQ E F mX0_insert n (gD none n σ (fun h9 => isC E h9 c V (ins4 (mark, value) l) ∧ gKp c (c + 4) h h9)) (gNo)) n σ h1 0 0 21 [(3, .int (gi (k : Int))), (0, .ref c), (1, .int (gi mark)), (2, .int (gi value))] [] := by
        intro k9
        induction k9 with
        | zero => intro k h1 mk1 vl1 hi q1 hk hgt hf h0; exact absurd h0 (Nat.not_lt_zero _)
        | succ k9 ih21 =>
          intro k h1 mk1 vl1 hi q1 hk hgt hf hk21
          refine g_iload_n 22 C dX0_insert_21 rfl rfl ?_
          refine g_if_le 71 25 C dX0_insert_22 rfl rfl (by omega) (fun c22 => ?_) (fun c22 => ?_)
          · skip
            have hle : ¬ k = 0 → ¬ mark < mk ((k - 1 : Nat) : Int) := fun z => absurd c22 (by omega)
            have hins : lst (gup mk1 (k : Int) mark) (gup vl1 (k : Int) value) (l.length + 1) = l.take k ++ (mark, value) :: l.drop k := by
              have e5 := lst_ins (mk := mk) (vl := vl) (mk' := gup mk1 (k : Int) mark) (vl' := gup vl1 (k : Int) value) (n := l.length) (k := k) (m := mark) (v := value) hi (fun j hj => by
                unfold gup
                by_cases z : j = k
                · rw [z, if_pos rfl, if_pos rfl, if_neg (Nat.lt_irrefl k), if_pos rfl, if_neg (Nat.lt_irrefl k), if_pos rfl]
                  exact ⟨rfl, rfl⟩
                · have z' : ¬ (j : Int) = (k : Int) := by omega
                  obtain ⟨z1, z2⟩ := hf j (by omega)
                  rw [if_neg z', if_neg z', z1, z2]
                  by_cases y : j < k
                  · have y' : ¬ k < j := by omega
                    rw [if_neg y', if_neg y', if_pos y, if_pos y]
                    exact ⟨rfl, rfl⟩
                  · have y' : k < j := by omega
                    rw [if_pos y', if_pos y', if_neg y, if_neg z, if_neg y, if_neg z]
                    exact ⟨rfl, rfl⟩)
              rw [← hl] at e5
              exact e5
            have hins4 : ins4 (mark, value) l = l.take k ++ (mark, value) :: l.drop k := by
              unfold ins4
              rw [if_pos (by omega)]
              have e7 := insr_of (x := (mark, value)) (A := l.take k) (B := l.drop k) (fun y hy => by
                obtain ⟨j, hj⟩ := List.getElem?_of_mem hy
                rw [List.getElem?_drop] at hj
                have hj2 := (List.getElem?_eq_some_iff.mp hj).1
                have hj3 := lst_get (mk := mk) (vl := vl) hj2
                rw [← hl, hj] at hj3
                have hj4 := Option.some.inj hj3
                rw [hj4]
                exact hgt (k + j) (by omega)) (fun y hy => by
                rw [List.getLast?_eq_getElem?, List.length_take, List.getElem?_take] at hy
                by_cases z : k = 0
                · rw [if_neg (by omega)] at hy
                  cases hy
                · rw [if_pos (by omega), show min k l.length - 1 = k - 1 by omega] at hy
                  have hj2 := (List.getElem?_eq_some_iff.mp hy).1
                  have hj3 := lst_get (mk := mk) (vl := vl) hj2
                  rw [← hl, hy] at hj3
                  have hj4 := Option.some.inj hj3
                  rw [hj4]
                  exact hle z)
              rw [List.take_append_drop] at e7
              exact e7
            have e6 : (ins4 (mark, value) l).length = l.length + 1 := by rw [hins4, ← hins, lst_len]
            have qa := q1.mk (gup mk1 (k : Int) mark)
            have qb := qa.vl (gup vl1 (k : Int) value)
            refine g_aload_n 72 C dX0_insert_71 rfl rfl ?_
            refine g_getf 75 C dX0_insert_72 fl_RX0_15 rfl (by omega) q1.1 rfl rfl ?_
            refine g_iload_n 76 C dX0_insert_75 rfl rfl ?_
            refine g_iload_n 77 C dX0_insert_76 rfl rfl ?_
            refine g_iast 78 C dX0_insert_77 (by omega) q1.2.2.1 (by omega) (by decide) rfl ?_
            refine g_aload_n 79 C dX0_insert_78 rfl rfl ?_
            refine g_getf 82 C dX0_insert_79 fl_RX0_18 rfl (by omega) qa.1 rfl rfl ?_
            refine g_iload_n 83 C dX0_insert_82 rfl rfl ?_
            refine g_iload_n 84 C dX0_insert_83 rfl rfl ?_
            refine g_iast 85 C dX0_insert_84 (by omega) qa.2.2.2 (by omega) (by decide) rfl ?_
            refine g_aload_n 86 C dX0_insert_85 rfl rfl ?_
            refine g_dup 87 C dX0_insert_86 rfl rfl ?_
            refine g_getf 90 C dX0_insert_87 fl_RX0_27 rfl (by omega) qb.1 rfl rfl ?_
            refine g_iconst 91 C dX0_insert_90 rfl ?_
            refine g_iadd 92 C dX0_insert_91 rfl ?_
            have qc := qb.sz ((l.length : Int) + 1)
            refine g_putf 95 C dX0_insert_92 fp_RX0_27 rfl (by omega) qb.1 rfl rfl (Nat.le_of_ble_eq_true rfl) rfl ?_
            exact g_vret C dX0_insert_95 rfl ⟨by decide, by decide⟩ (⟨rfl, rfl, rfl, ⟨gup mk1 (k : Int) mark, gup vl1 (k : Int) value, by rw [e6, hins, hins4], by rw [e6]; exact qc⟩, gKp_tr hk (gKp_tr (gKp_up (by omega)) (gKp_tr (gKp_up (by omega)) (gKp_up (by omega))))⟩)
          · skip
            have hkm : ((k : Int) - 1) = ((k - 1 : Nat) : Int) := by omega
            have hkz := (hf (k - 1) (by omega)).1
            rw [if_neg (by omega), ← hkm] at hkz
            have hv := okL_at hl hok (j := k - 1) (by omega)
            rw [← hkm] at hv
            refine g_aload_n 26 C dX0_insert_25 rfl rfl ?_
            refine g_getf 29 C dX0_insert_26 fl_RX0_15 rfl (by omega) q1.1 rfl rfl ?_
            refine g_iload_n 30 C dX0_insert_29 rfl rfl ?_
            refine g_iconst 31 C dX0_insert_30 rfl ?_
            refine g_isub 32 C dX0_insert_31 rfl ?_
            refine g_iald 33 C dX0_insert_32 (by omega) q1.2.2.1 (by omega) (by decide) rfl ?_
            refine g_iload_n 34 C dX0_insert_33 rfl rfl ?_
            refine g_icmp_le 71 37 C dX0_insert_34 rfl rfl (by rw [hkz]; omega) (by omega) (fun c34 => ?_) (fun c34 => ?_)
            · skip
              have hle : ¬ k = 0 → ¬ mark < mk ((k - 1 : Nat) : Int) := fun z => by rw [← hkm, ← hkz]; omega
              have hins : lst (gup mk1 (k : Int) mark) (gup vl1 (k : Int) value) (l.length + 1) = l.take k ++ (mark, value) :: l.drop k := by
                have e5 := lst_ins (mk := mk) (vl := vl) (mk' := gup mk1 (k : Int) mark) (vl' := gup vl1 (k : Int) value) (n := l.length) (k := k) (m := mark) (v := value) hi (fun j hj => by
                  unfold gup
                  by_cases z : j = k
                  · rw [z, if_pos rfl, if_pos rfl, if_neg (Nat.lt_irrefl k), if_pos rfl, if_neg (Nat.lt_irrefl k), if_pos rfl]
                    exact ⟨rfl, rfl⟩
                  · have z' : ¬ (j : Int) = (k : Int) := by omega
                    obtain ⟨z1, z2⟩ := hf j (by omega)
                    rw [if_neg z', if_neg z', z1, z2]
                    by_cases y : j < k
                    · have y' : ¬ k < j := by omega
                      rw [if_neg y', if_neg y', if_pos y, if_pos y]
                      exact ⟨rfl, rfl⟩
                    · have y' : k < j := by omega
                      rw [if_pos y', if_pos y', if_neg y, if_neg z, if_neg y, if_neg z]
                      exact ⟨rfl, rfl⟩)
                rw [← hl] at e5
                exact e5
              have hins4 : ins4 (mark, value) l = l.take k ++ (mark, value) :: l.drop k := by
                unfold ins4
                rw [if_pos (by omega)]
                have e7 := insr_of (x := (mark, value)) (A := l.take k) (B := l.drop k) (fun y hy => by
                  obtain ⟨j, hj⟩ := List.getElem?_of_mem hy
                  rw [List.getElem?_drop] at hj
                  have hj2 := (List.getElem?_eq_some_iff.mp hj).1
                  have hj3 := lst_get (mk := mk) (vl := vl) hj2
                  rw [← hl, hj] at hj3
                  have hj4 := Option.some.inj hj3
                  rw [hj4]
                  exact hgt (k + j) (by omega)) (fun y hy => by
                  rw [List.getLast?_eq_getElem?, List.length_take, List.getElem?_take] at hy
                  by_cases z : k = 0
                  · rw [if_neg (by omega)] at hy
                    cases hy
                  · rw [if_pos (by omega), show min k l.length - 1 = k - 1 by omega] at hy
                    have hj2 := (List.getElem?_eq_some_iff.mp hy).1
                    have hj3 := lst_get (mk := mk) (vl := vl) hj2
                    rw [← hl, hy] at hj3
                    have hj4 := Option.some.inj hj3
                    rw [hj4]
                    exact hle z)
                rw [List.take_append_drop] at e7
                exact e7
              have e6 : (ins4 (mark, value) l).length = l.length + 1 := by rw [hins4, ← hins, lst_len]
              have qa := q1.mk (gup mk1 (k : Int) mark)
              have qb := qa.vl (gup vl1 (k : Int) value)
              refine g_aload_n 72 C dX0_insert_71 rfl rfl ?_
              refine g_getf 75 C dX0_insert_72 fl_RX0_15 rfl (by omega) q1.1 rfl rfl ?_
              refine g_iload_n 76 C dX0_insert_75 rfl rfl ?_
              refine g_iload_n 77 C dX0_insert_76 rfl rfl ?_
              refine g_iast 78 C dX0_insert_77 (by omega) q1.2.2.1 (by omega) (by decide) rfl ?_
              refine g_aload_n 79 C dX0_insert_78 rfl rfl ?_
              refine g_getf 82 C dX0_insert_79 fl_RX0_18 rfl (by omega) qa.1 rfl rfl ?_
              refine g_iload_n 83 C dX0_insert_82 rfl rfl ?_
              refine g_iload_n 84 C dX0_insert_83 rfl rfl ?_
              refine g_iast 85 C dX0_insert_84 (by omega) qa.2.2.2 (by omega) (by decide) rfl ?_
              refine g_aload_n 86 C dX0_insert_85 rfl rfl ?_
              refine g_dup 87 C dX0_insert_86 rfl rfl ?_
              refine g_getf 90 C dX0_insert_87 fl_RX0_27 rfl (by omega) qb.1 rfl rfl ?_
              refine g_iconst 91 C dX0_insert_90 rfl ?_
              refine g_iadd 92 C dX0_insert_91 rfl ?_
              have qc := qb.sz ((l.length : Int) + 1)
              refine g_putf 95 C dX0_insert_92 fp_RX0_27 rfl (by omega) qb.1 rfl rfl (Nat.le_of_ble_eq_true rfl) rfl ?_
              exact g_vret C dX0_insert_95 rfl ⟨by decide, by decide⟩ (⟨rfl, rfl, rfl, ⟨gup mk1 (k : Int) mark, gup vl1 (k : Int) value, by rw [e6, hins, hins4], by rw [e6]; exact qc⟩, gKp_tr hk (gKp_tr (gKp_up (by omega)) (gKp_tr (gKp_up (by omega)) (gKp_up (by omega))))⟩)
            · skip
              rw [hkz] at c34
              have c34 : mark < mk ((k : Int) - 1) := by omega
              rw [hkm] at c34
              refine g_aload_n 38 C dX0_insert_37 rfl rfl ?_
              refine g_getf 41 C dX0_insert_38 fl_RX0_15 rfl (by omega) q1.1 rfl rfl ?_
              refine g_iload_n 42 C dX0_insert_41 rfl rfl ?_
              refine g_aload_n 43 C dX0_insert_42 rfl rfl ?_
              refine g_getf 46 C dX0_insert_43 fl_RX0_15 rfl (by omega) q1.1 rfl rfl ?_
              refine g_iload_n 47 C dX0_insert_46 rfl rfl ?_
              refine g_iconst 48 C dX0_insert_47 rfl ?_
              refine g_isub 49 C dX0_insert_48 rfl ?_
              refine g_iald 50 C dX0_insert_49 (by omega) q1.2.2.1 (by omega) (by decide) rfl ?_
              refine g_iast 51 C dX0_insert_50 (by omega) q1.2.2.1 (by omega) (by decide) rfl ?_
              have q2 := q1.mk (gup mk1 (k : Int) (mk1 ((k : Int) - 1)))
              refine g_aload_n 52 C dX0_insert_51 rfl rfl ?_
              refine g_getf 55 C dX0_insert_52 fl_RX0_18 rfl (by omega) q2.1 rfl rfl ?_
              refine g_iload_n 56 C dX0_insert_55 rfl rfl ?_
              refine g_aload_n 57 C dX0_insert_56 rfl rfl ?_
              refine g_getf 60 C dX0_insert_57 fl_RX0_18 rfl (by omega) q2.1 rfl rfl ?_
              refine g_iload_n 61 C dX0_insert_60 rfl rfl ?_
              refine g_iconst 62 C dX0_insert_61 rfl ?_
              refine g_isub 63 C dX0_insert_62 rfl ?_
              refine g_iald 64 C dX0_insert_63 (by omega) q2.2.2.2 (by omega) (by decide) rfl ?_
              refine g_iast 65 C dX0_insert_64 (by omega) q2.2.2.2 (by omega) (by decide) rfl ?_
              have q3 := q2.vl (gup vl1 (k : Int) (vl1 ((k : Int) - 1)))
              refine g_iinc 68 [(3, _), (0, _), (1, _), (2, _)] C dX0_insert_65 rfl (by decide) rfl rfl ?_
              refine g_goto 21 C dX0_insert_68 rfl ?_
              refine g_loc [(3, .int (gi ((k - 1 : Nat) : Int))), (0, _), (1, _), (2, _)] ⟨(by rw [show ((k - 1 : Nat) : Int) = (k : Int) + -1 by omega]; rfl), rfl, rfl, rfl, trivial⟩ ?_
              exact ih21 (k - 1) _ _ _ (by omega) q3 (gKp_tr hk (gKp_tr (gKp_up (by omega)) (gKp_up (by omega)))) (fun j hj => by
                by_cases z : j = k - 1
                · rw [z]
                  exact c34
                · exact hgt j (by omega)) (fun j hj => by
                unfold gup
                by_cases z : j = k
                · obtain ⟨z1, z2⟩ := hf (k - 1) (by omega)
                  have y' : ¬ k < k - 1 := by omega
                  have y2 : k - 1 < k := by omega
                  rw [if_neg y'] at z1 z2
                  rw [z, if_pos rfl, if_pos rfl, if_pos y2, if_pos y2, hkm]
                  exact ⟨z1, z2⟩
                · have z' : ¬ (j : Int) = (k : Int) := by omega
                  obtain ⟨z1, z2⟩ := hf j hj
                  rw [if_neg z', if_neg z', z1, z2]
                  by_cases y : k < j
                  · have y' : k - 1 < j := by omega
                    rw [if_pos y, if_pos y', if_pos y, if_pos y']
                    exact ⟨rfl, rfl⟩
                  · have y' : ¬ k - 1 < j := by omega
                    rw [if_neg y, if_neg y', if_neg y, if_neg y']
                    exact ⟨rfl, rfl⟩) (by omega)
      refine g_loc [(3, _), (0, _), (1, _), (2, _)] ⟨rfl, rfl, rfl, rfl, trivial⟩ ?_
      exact lp21 _ l.length h mk vl (Nat.le_refl _) q gKp_rf (fun j hj => by omega) (fun j hj => ⟨by rw [if_neg (by omega)], by rw [if_neg (by omega)]⟩) (Nat.lt_succ_self _)
    · skip
      have h4 : ¬ l.length < 4 := by omega
      exact g_vret C dX0_insert_15 rfl ⟨by decide, by decide⟩ (⟨rfl, rfl, rfl, by unfold ins4; rw [if_neg h4]; exact hC9, gKp_rf⟩)
