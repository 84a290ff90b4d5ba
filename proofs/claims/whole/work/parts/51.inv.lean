/-! the invariants stay -/
theorem dw_ge {y : Int × Int} : ∀ r : List (Int × Int), r.Pairwise (fun a b => b.1 < a.1) → ∀ a ∈ r.dropWhile (fun z => decide (y.1 < z.1)), ¬ y.1 < a.1 := by
  intro r
  induction r with
  | nil => intro _ a h; exact absurd h List.not_mem_nil
  | cons z r ih =>
    intro hp a h
    have hp' := List.pairwise_cons.mp hp
    rw [List.dropWhile_cons] at h
    by_cases e : y.1 < z.1
    · rw [decide_eq_true e, if_pos rfl] at h
      exact ih hp'.2 a h
    · rw [decide_eq_false e, if_neg (by decide)] at h
      rcases List.mem_cons.mp h with h | h
      · rw [h]; exact e
      · have := hp'.1 a h
        omega
theorem tw_lt {y : Int × Int} : ∀ r : List (Int × Int), ∀ a ∈ r.takeWhile (fun z => decide (y.1 < z.1)), y.1 < a.1 := by
  intro r
  induction r with
  | nil => intro a h; exact absurd h List.not_mem_nil
  | cons z r ih =>
    intro a h
    rw [List.takeWhile_cons] at h
    by_cases e : y.1 < z.1
    · rw [decide_eq_true e, if_pos rfl] at h
      rcases List.mem_cons.mp h with h | h
      · rw [h]; exact e
      · exact ih a h
    · rw [decide_eq_false e, if_neg (by decide)] at h
      exact absurd h List.not_mem_nil
theorem srt_insr {y : Int × Int} {l : List (Int × Int)} (h : srt l) (hy : ∀ z ∈ l, z.1 ≠ y.1) : srt (insr y l) := by
  have e := congrArg List.reverse (List.takeWhile_append_dropWhile (p := fun z : Int × Int => decide (y.1 < z.1)) (l := l.reverse))
  rw [List.reverse_append, List.reverse_reverse] at e
  have hr : l.reverse.Pairwise (fun a b => b.1 < a.1) := List.pairwise_reverse.mpr h
  have h1 := dw_ge (y := y) _ hr
  have h2 := tw_lt (y := y) l.reverse
  unfold insr
  have hs : srt ((l.reverse.dropWhile (fun z => decide (y.1 < z.1))).reverse ++ (l.reverse.takeWhile (fun z => decide (y.1 < z.1))).reverse) := by rw [e]; exact h
  have hm : ∀ a ∈ (l.reverse.dropWhile (fun z => decide (y.1 < z.1))).reverse, a ∈ l := fun a ha => by
    rw [← e]
    exact List.mem_append_left _ ha
  obtain ⟨p1, p2, p3⟩ := List.pairwise_append.mp hs
  refine List.pairwise_append.mpr ⟨p1, List.pairwise_cons.mpr ⟨fun b hb => h2 b (List.mem_reverse.mp hb), p2⟩, fun a ha b hb => ?_⟩
  have ha1 : a.1 < y.1 := by
    have z1 := h1 a (List.mem_reverse.mp ha)
    have z2 := hy a (hm a ha)
    omega
  rcases List.mem_cons.mp hb with hb | hb
  · rw [hb]; exact ha1
  · exact p3 a ha b hb
theorem srt_sub2 {l : List (Int × Int)} {q : Int × Int → Bool} (h : srt l) : srt (l.filter q) := List.Pairwise.filter q h
theorem srt_fIn : ∀ (L acc : List (Int × Int)), srt L → srt acc → (∀ y ∈ L, ∀ z ∈ acc, z.1 ≠ y.1) → srt (fIn acc L) := by
  intro L
  induction L with
  | nil => intro acc _ h _; exact h
  | cons y L ih =>
    intro acc hL ha hd
    have hL' := List.pairwise_cons.mp hL
    refine ih (insr y acc) hL'.2 (srt_insr ha (hd y List.mem_cons_self)) (fun w hw z hz => ?_)
    rcases insr_mem hz with rfl | hz
    · have := hL'.1 w hw
      omega
    · exact hd w (List.mem_cons_of_mem _ hw) z hz
theorem hasM_no {l : List (Int × Int)} {y z : Int × Int} (h : hasM l y.1 = false) (hz : z ∈ l) : z.1 ≠ y.1 := fun e => by
  rw [hasM_in.mpr ⟨z, hz, e⟩] at h
  cases h
theorem trL_srt {K : gKy} {s o : Int} (h : srt (K.2.2.2 s)) (h2 : srt (K.2.2.2 o)) : srt (trL K s o) := by
  refine srt_fIn _ _ (srt_sub2 h2) (srt_sub2 h) (fun y hy z hz => ?_)
  have hy := (List.mem_filter.mp hy).2
  have hn : hasM (K.2.2.2 s) y.1 = false := by
    have hy : isN (K.2.2.1 s) (K.2.2.2 s) y.1 = true := hy
    unfold isN at hy
    cases e : hasM (K.2.2.2 s) y.1
    · rfl
    · rw [e] at hy; cases hy
  exact hasM_no hn (List.mem_filter.mp hz).1
theorem trL_mem {K : gKy} {s o : Int} {y : Int × Int} (h : y ∈ trL K s o) : y ∈ K.2.2.2 s ∨ y ∈ K.2.2.2 o := by
  rcases fIn_mem _ _ h with h | h
  · exact Or.inl (List.mem_filter.mp h).1
  · exact Or.inr (List.mem_filter.mp h).1
theorem gIk_take {K : gKy} {s o : Int} (h : gIk K) (hs : 0 ≤ s ∧ s < 3) (ho : 0 ≤ o ∧ o < 3) (hf : pOut K s o 2 ≤ 4) : gIk (kTake K s o) := by
  have e := tk_tr (K := K) (s := s) (o := o) (h.1 o ho.1 ho.2) (by have := trL_len (K := K) (s := s) (o := o); omega)
  refine ⟨fun r r0 r3 => ?_, fun r r0 r3 y hy => ?_⟩
  · show srt (gup K.2.2.2 s _ r)
    by_cases er : r = s
    · rw [er, gup_at, e]
      exact trL_srt (h.1 s hs.1 hs.2) (h.1 o ho.1 ho.2)
    · rw [gup_ne er]
      exact h.1 r r0 r3
  · have hy : y ∈ gup K.2.2.2 s (tkL (K.2.2.1 s) (K.2.2.1 o) (K.2.2.2 s) (K.2.2.2 o)) r := hy
    show y.1 % 1000 ≤ K.1 (y.1 / 1000) ∧ cov (gup K.2.2.1 s (vmx (K.2.2.1 s) (K.2.2.1 o)) r) y.1 = true
    by_cases er : r = s
    · rw [er, gup_at, e] at hy
      rw [er, gup_at]
      rcases trL_mem hy with hy | hy
      · have z := h.2 s hs.1 hs.2 y hy
        exact ⟨z.1, (cov_vmx z.2).2⟩
      · have z := h.2 o ho.1 ho.2 y hy
        exact ⟨z.1, (cov_vmx z.2).1⟩
    · rw [gup_ne er] at hy ⊢
      exact h.2 r r0 r3 y hy
theorem gIv_set {S : gSt} {k : Int} {K' : gKy} {C' : Int → Int} (h : gIv S) (hk : gIk K') : gIv (gup S.1 k K', C') := fun r r0 r3 => by
  show gIk (gup S.1 k K' r)
  by_cases e : r = k
  · rw [e, gup_at]
    exact hk
  · rw [gup_ne e]
    exact h r r0 r3
theorem gIk_learn {K : gKy} {w s : Int} (h : gIk K) : gIk (kLearn K w s) := h
theorem gIk_unl {K : gKy} {w : Int} (h : gIk K) : gIk (kUnl K w) := h
theorem gIk_put {K : gKy} {w s v : Int} (h : gIk K) (hok : okK K) (hw : 0 ≤ w ∧ w < 5) (hs : 0 ≤ s ∧ s < 3) (h9 : K.1 w < 999) : gIk (kPut K w s v) := by
  have hWw := hok.1 w hw.1 hw.2
  have hd : (w * 1000 + (K.1 w + 1)) / 1000 = w := by omega
  have hm : (w * 1000 + (K.1 w + 1)) % 1000 = K.1 w + 1 := by omega
  refine ⟨fun r r0 r3 => ?_, fun r r0 r3 y hy => ?_⟩
  · show srt (gup K.2.2.2 s _ r)
    by_cases er : r = s
    · rw [er, gup_at]
      unfold ins4
      split
      · refine srt_insr (srt_sub2 (h.1 s hs.1 hs.2)) (fun z hz e => ?_)
        have z1 := (h.2 s hs.1 hs.2 z (List.mem_filter.mp hz).1).1
        have e : z.1 = w * 1000 + (K.1 w + 1) := e
        rw [e, hd, hm] at z1
        omega
      · exact srt_sub2 (h.1 s hs.1 hs.2)
    · rw [gup_ne er]
      exact h.1 r r0 r3
  · have hy : y ∈ gup K.2.2.2 s (ins4 (w * 1000 + (K.1 w + 1), v) ((K.2.2.2 s).filter (fun p => !(cov (K.2.1 w) p.1)))) r := hy
    show y.1 % 1000 ≤ gup K.1 w (K.1 w + 1) (y.1 / 1000) ∧ cov (gup K.2.2.1 s (vmx (K.2.2.1 s) (gup (K.2.1 w) w (K.1 w + 1))) r) y.1 = true
    have up : ∀ z : Int × Int, z.1 % 1000 ≤ K.1 (z.1 / 1000) → z.1 % 1000 ≤ gup K.1 w (K.1 w + 1) (z.1 / 1000) := fun z hz => by
      by_cases e : z.1 / 1000 = w
      · rw [e, gup_at]
        rw [e] at hz
        omega
      · rw [gup_ne e]
        exact hz
    by_cases er : r = s
    · rw [er, gup_at] at hy
      rw [er, gup_at]
      have hc : y = (w * 1000 + (K.1 w + 1), v) ∨ y ∈ K.2.2.2 s := by
        unfold ins4 at hy
        split at hy
        · rcases insr_mem hy with hy | hy
          · exact Or.inl hy
          · exact Or.inr (List.mem_filter.mp hy).1
        · exact Or.inr (List.mem_filter.mp hy).1
      rcases hc with hc | hc
      · rw [hc]
        refine ⟨?_, (cov_vmx (decide_eq_true ?_)).1⟩
        · show (w * 1000 + (K.1 w + 1)) % 1000 ≤ gup K.1 w (K.1 w + 1) ((w * 1000 + (K.1 w + 1)) / 1000)
          rw [hd, hm, gup_at]
          exact Int.le_refl _
        · show (w * 1000 + (K.1 w + 1)) % 1000 ≤ gup (K.2.1 w) w (K.1 w + 1) ((w * 1000 + (K.1 w + 1)) / 1000)
          rw [hd, hm, gup_at]
          exact Int.le_refl _
      · have z := h.2 s hs.1 hs.2 y hc
        exact ⟨up y z.1, (cov_vmx z.2).2⟩
    · rw [gup_ne er] at hy ⊢
      have z := h.2 r r0 r3 y hy
      exact ⟨up y z.1, z.2⟩
theorem gIk_erase {K : gKy} {w : Int} (h : gIk K) (h0 : hind K w = 0) : gIk (kErase K w) := by
  have hn : ∀ r : Int, 0 ≤ r → r < 3 → ∀ y ∈ K.2.2.2 r, y.1 / 1000 ≠ w := fun r r0 r3 y hy e => by
    unfold hind at h0
    have hz : rgA (fun s => hasW (K.2.2.2 s) w) 3 = true := by
      unfold rgA
      rw [List.any_eq_true]
      refine ⟨r.toNat, List.mem_range.mpr (by omega), ?_⟩
      rw [Int.toNat_of_nonneg r0]
      exact List.any_eq_true.mpr ⟨y, hy, by rw [e]; exact beq_self_eq_true _⟩
    rw [if_pos hz] at h0
    cases h0
  refine ⟨h.1, fun r r0 r3 y hy => ?_⟩
  have z := h.2 r r0 r3 y hy
  have hne := hn r r0 r3 y hy
  refine ⟨?_, decide_eq_true ?_⟩
  · show y.1 % 1000 ≤ gup K.1 w 0 (y.1 / 1000)
    rw [gup_ne hne]
    exact z.1
  · show y.1 % 1000 ≤ gup (K.2.2.1 r) w 0 (y.1 / 1000)
    rw [gup_ne hne]
    exact of_decide_eq_true z.2
