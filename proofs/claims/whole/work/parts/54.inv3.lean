/-! runAll leaves what must be; the looks leave all -/
theorem gIv_rp {S S' : gSt} {P : gPt} (h : okS S) (hI : gIv S) (hP : okP P) (e : rpS S P = some S') : gIv S' := by
  obtain ⟨h1, h2, h3, h4, h5, h6, h7⟩ := hP
  have hk := h P.2.2.2.1 h4.1 (by omega)
  have hi := hI P.2.2.2.1 h4.1 (by omega)
  unfold rpS at e
  by_cases e1 : P.2.1 = false
  · rw [if_pos e1] at e
    cases e
    exact gIv_set hI (gIk_learn hi)
  · rw [if_neg e1] at e
    by_cases e2 : (S.1 P.2.2.2.1).1 P.2.2.1 < 999 ∧ wOut (S.1 P.2.2.2.1) P.2.2.1 P.2.2.2.2.1 1 ≤ 4
    · rw [if_pos e2] at e
      cases e
      exact gIv_set hI (gIk_put hi hk (by omega) (by omega) e2.1)
    · rw [if_neg e2] at e
      cases e
theorem runL_ok : ∀ (l : List gPt) (S : gSt), okS S → gIv S → (∀ P ∈ l, okP P) → okS (runL S l).2 ∧ gIv (runL S l).2 := by
  intro l
  induction l with
  | nil => intro S h hI _; exact ⟨h, hI⟩
  | cons P l ih =>
    intro S h hI hP
    cases e : rpS S P with
    | none => rw [runL_no e]; exact ⟨h, hI⟩
    | some S' =>
      rw [runL_so e]
      exact ih S' (okS_rp h (hP P List.mem_cons_self) e) (gIv_rp h hI (hP P List.mem_cons_self) e) (fun Q hQ => hP Q (List.mem_cons_of_mem _ hQ))
theorem rsP_ok {f : Int → Int} : ∀ (d i : Nat) (P : gPt), okP P → ∀ Q ∈ rsP f P i d, okP Q := by
  intro d
  induction d with
  | zero =>
    intro i P h Q hQ
    rw [List.mem_singleton.mp hQ]
    exact h
  | succ d ih =>
    intro i P h Q hQ
    have hn : okP ((pTk P (f (i : Int))).getD P) := by
      cases e : pTk P (f (i : Int)) with
      | none => exact h
      | some P' => exact okP_tk h e
    by_cases c : f (i : Int) = 59
    · rw [rsP_y c] at hQ
      rcases List.mem_cons.mp hQ with hQ | hQ
      · rw [hQ]; exact h
      · exact ih (i + 1) _ hn Q hQ
    · rw [rsP_n c] at hQ
      exact ih (i + 1) _ hn Q hQ
theorem okA_runAll {T : gTt} (h : okA T) : okA (oRunAll T).2.2 := by
  unfold oRunAll
  split
  · obtain ⟨i1, i2⟩ := runL_ok (rsP T.2.2.2 gP0 0 T.2.2.1) T.1 h.1.1 h.2.1 (rsP_ok _ _ _ okP_0)
    obtain ⟨⟨a1, a2, a3, -, -⟩, b1, b2⟩ := okA_sv h (S := (tRun T).2) i1 i2
    exact ⟨⟨a1, a2, a3, Nat.zero_le _, fun j j0 j1 => absurd j1 (show ¬ j < ((0 : Nat) : Int) by omega)⟩, b1, b2⟩
  · exact h
theorem okA_first {T : gTt} (h : okA T) : okA (oFirst T).2.2 := h
theorem okA_sibling {T : gTt} {s k p what : Int} (h : okA T) : okA (oSibling T s k p what).2.2 := by
  unfold oSibling
  repeat' split
  all_goals exact h
theorem okA_vector {T : gTt} {s k w : Int} (h : okA T) : okA (oVector T s k w).2.2 := by
  unfold oVector
  repeat' split
  all_goals exact h
theorem okA_knows {T : gTt} {w k o : Int} (h : okA T) : okA (oKnows T w k o).2.2 := by
  unfold oKnows
  repeat' split
  all_goals exact h
theorem okA_key {T : gTt} {k what : Int} (h : okA T) : okA (oKey T k what).2.2 := by
  unfold oKey
  repeat' split
  all_goals exact h
theorem okA_count {T : gTt} {what : Int} (h : okA T) : okA (oCount T what).2.2 := by
  unfold oCount
  repeat' split
  all_goals exact h
theorem okA_ifW {T : gTt} {w k s what : Int} (h : okA T) : okA (oIfW T w k s what).2.2 := by
  unfold oIfW
  repeat' split
  all_goals exact h
theorem okA_ifP {T : gTt} {s o k what : Int} (h : okA T) : okA (oIfP T s o k what).2.2 := by
  unfold oIfP
  repeat' split
  all_goals exact h
theorem okA_why {T : gTt} {w k : Int} (h : okA T) : okA (oWhy T w k).2.2 := by
  unfold oWhy
  repeat' split
  all_goals exact h
