/-! what the calls leave is as it must be -/
theorem get_of {l : List (Int × Int)} {i : Nat} (h : i < l.length) : ∃ y, l[i]? = some y ∧ y ∈ l := ⟨l[i], List.getElem?_eq_getElem h, List.getElem_mem h⟩
theorem mxs_r {l : List (Int × Int)} : ∀ a : Int, (∀ p ∈ l, 0 ≤ p.2 ∧ p.2 ≤ 99) → 0 ≤ a ∧ a ≤ 99 → 0 ≤ mxs l a ∧ mxs l a ≤ 99 := by
  induction l with
  | nil => intro a _ h; exact h
  | cons y l ih =>
    intro a h ha
    have hy := h y List.mem_cons_self
    refine ih _ (fun p hp => h p (List.mem_cons_of_mem _ hp)) ?_
    dsimp only
    split <;> omega
theorem mns_r {l : List (Int × Int)} : ∀ a : Int, (∀ p ∈ l, 0 ≤ p.2 ∧ p.2 ≤ 99) → 0 ≤ a ∧ a ≤ 99 → 0 ≤ mns l a ∧ mns l a ≤ 99 := by
  induction l with
  | nil => intro a _ h; exact h
  | cons y l ih =>
    intro a h ha
    have hy := h y List.mem_cons_self
    refine ih _ (fun p hp => h p (List.mem_cons_of_mem _ hp)) ?_
    dsimp only
    split <;> omega
theorem jval_r {l : List (Int × Int)} {rule a : Int} (h : ∀ p ∈ l, 0 ≤ p.2 ∧ p.2 ≤ 99) (ha : 0 ≤ a ∧ a ≤ 99) : 0 ≤ jval rule a l ∧ jval rule a l ≤ 99 := by
  unfold jval
  split
  · exact mxs_r a h ha
  · split
    · exact mns_r a h ha
    · split
      · omega
      · exact ha
theorem tKey_at {S : gSt} {k : Int} {K : gKy} : (tKey S k K).1 k = K := gup_at
theorem okT_sv {T : gTt} {S : gSt} (h : okT T) (h1 : okS S) : okT (S, (tSave T).2) := by
  obtain ⟨⟨a1, a2, a3, a4, a5⟩, -⟩ := okT_save h
  exact ⟨h1, a2, a3, a4, a5⟩
theorem okT_read {T : gTt} {w k s : Int} (h : okT T) : okT (oRead T w k s).2.2 := by
  unfold oRead
  split
  · rename_i hv
    exact okT_sv h (okS_set h.1 (okK_learn (h.1 k hv.2.1.1 hv.2.1.2) hv.1 hv.2.2))
  · exact h
theorem okT_write {T : gTt} {w k s v : Int} (h : okT T) : okT (oWrite T w k s v).2.2 := by
  unfold oWrite
  split
  · rename_i hv
    split
    · rename_i hv2
      split
      · rename_i hv3
        exact okT_sv h (okS_set h.1 (okK_put (h.1 k hv.2.1.1 hv.2.1.2) hv.1 hv.2.2 hv2 hv3.1))
      · exact h
    · exact h
  · exact h
theorem okT_pull {T : gTt} {s o k : Int} (h : okT T) : okT (oPull T s o k).2.2 := by
  unfold oPull
  split
  · rename_i hv
    split
    · exact h
    · split
      · exact okT_sv h (okS_set h.1 (okK_take (h.1 k hv.2.2.1 hv.2.2.2) hv.1 hv.2.1))
      · exact h
  · exact h
theorem okT_lose {T : gTt} {w k : Int} (h : okT T) : okT (oLose T w k).2.2 := by
  unfold oLose
  split
  · rename_i hv
    exact okT_sv h (okS_set h.1 (okK_unl (h.1 k hv.2.1 hv.2.2) hv.1))
  · exact h
theorem okT_forget {T : gTt} {w k : Int} (h : okT T) : okT (oForget T w k).2.2 := by
  unfold oForget
  split
  · rename_i hv
    split
    · exact okT_sv (S := tInc (tKey T.1 k (kErase (T.1.1 k) w)) 5) h (okS_set (C' := gup T.1.2 5 (T.1.2 5 + 1)) h.1 (okK_erase (h.1 k hv.2.1 hv.2.2)))
    · exact h
  · exact h
theorem okT_join {T : gTt} {w k s rule : Int} (h : okT T) : okT (oJoin T w k s rule).2.2 := by
  unfold oJoin
  split
  · rename_i hv
    split
    · rename_i hv2
      split
      · exact h
      · rename_i hv3
        have hK := h.1 k hv.2.1.1 hv.2.1.2
        have hsl : sLen T.1 k s = (((T.1.1 k).2.2.2 s).length : Int) := rfl
        have hl := hK.2.2.2 s hv.2.2.1 hv.2.2.2
        obtain ⟨x0, hx0, hx0l⟩ := get_of (l := (T.1.1 k).2.2.2 s) (i := 0) (by omega)
        have hjv : jval rule x0.2 ((T.1.1 k).2.2.2 s) = jVal (T.1.1 k) s rule := by unfold jVal jv0; rw [hx0]; rfl
        have hjr : 0 ≤ jVal (T.1.1 k) s rule ∧ jVal (T.1.1 k) s rule ≤ 99 := by
          rw [← hjv]
          exact jval_r (fun p hp => (hl.2 p hp).2.2) (hl.2 x0 hx0l).2.2
        have e : (tKey T.1 k (kLearn (T.1.1 k) w s)).1 k = kLearn (T.1.1 k) w s := tKey_at
        have hKl := okK_learn hK hv.1 hv.2.2
        have h9 : (kLearn (T.1.1 k) w s).1 w < 999 := by show (T.1.1 k).1 w < 999; omega
        have o1 : okS (tKey T.1 k (kLearn (T.1.1 k) w s)) := okS_set h.1 hKl
        have o2 : okS (tInc (sRep (tKey T.1 k (kLearn (T.1.1 k) w s)) w k s (jVal (T.1.1 k) s rule)) 4) := okS_set (S := tKey T.1 k (kLearn (T.1.1 k) w s)) (C' := (tInc (sRep (tKey T.1 k (kLearn (T.1.1 k) w s)) w k s (jVal (T.1.1 k) s rule)) 4).2) o1 (by rw [e]; exact okK_put hKl hv.1 hv.2.2 hjr h9)
        exact okT_sv h o2
    · exact h
  · exact h
theorem bAr_ok {S : gSt} (h : okS S) : ∀ q : Nat, q ≤ 27 → ∀ U : gSt, bAr S q = some U → okS U := by
  intro q
  induction q with
  | zero =>
    intro _ U e
    cases e
    exact h
  | succ q ih =>
    intro hq U e
    cases e1 : bAr S q with
    | none =>
      have e : (bAr S q).bind _ = some U := e
      rw [e1] at e
      cases e
    | some V =>
      have i1 := ih (by omega) V e1
      have e : (bAr S q).bind _ = some U := e
      rw [e1] at e
      have e : bA1 V ((q / 9 : Nat) : Int) ((q / 3 % 3 : Nat) : Int) ((q % 3 : Nat) : Int) = some U := e
      unfold bA1 at e
      by_cases c1 : ((q / 3 % 3 : Nat) : Int) = ((q % 3 : Nat) : Int)
      · rw [if_pos c1] at e
        cases e
        exact i1
      · rw [if_neg c1] at e
        by_cases c2 : pOut (V.1 ((q / 9 : Nat) : Int)) ((q / 3 % 3 : Nat) : Int) ((q % 3 : Nat) : Int) 2 ≤ 4
        · rw [if_pos c2] at e
          cases e
          exact okS_set i1 (okK_take (i1 _ (by omega) (by omega)) (by omega) (by omega))
        · rw [if_neg c2] at e
          cases e
theorem okT_pullAll {T : gTt} (h : okT T) : okT (oPullAll T).2.2 := by
  unfold oPullAll
  cases e : bAr T.1 27 with
  | none => exact h
  | some U => exact okT_sv h (bAr_ok h.1 27 (Nat.le_refl _) U e)
theorem okT_append {T : gTt} {c : Int} (h : okT T) : okT (oAppend T c).2.2 := by
  unfold oAppend
  split
  · rename_i hc
    split
    · rename_i hb
      obtain ⟨a1, a2, a3, a4, a5⟩ := h
      refine ⟨a1, a2, a3, hb, fun j j0 j1 => ?_⟩
      have j1 : j < ((T.2.2.1 + 1 : Nat) : Int) := j1
      show 33 ≤ gup T.2.2.2 (T.2.2.1 : Int) c j ∧ gup T.2.2.2 (T.2.2.1 : Int) c j ≤ 126
      by_cases e : j = (T.2.2.1 : Int)
      · rw [e, gup_at]
        exact hc
      · rw [gup_ne e]
        exact a5 j j0 (by omega)
    · exact h
  · exact h
theorem okT_clear {T : gTt} (h : okT T) : okT (oClear T).2.2 := ⟨h.1, h.2.1, h.2.2.1, Nat.zero_le _, fun j j0 j1 => absurd j1 (show ¬ j < ((0 : Nat) : Int) by omega)⟩
theorem okT_undo {T : gTt} (h : okT T) : okT (oUndo T).2.2 := by
  unfold oUndo
  split
  · exact h
  · rename_i h0
    obtain ⟨a1, a2, a3, a4, a5⟩ := h
    refine ⟨a3 _ (by omega) (by omega), ?_, fun i i0 i6 => a3 i i0 ?_, a4, a5⟩
    · show T.2.1.1 - 1 ≤ 6
      omega
    · have i6 : i < ((T.2.1.1 - 1 : Nat) : Int) := i6
      omega
theorem runL_ok : ∀ (l : List gPt) (S : gSt), okS S → (∀ P ∈ l, okP P) → okS (runL S l).2 := by
  intro l
  induction l with
  | nil => intro S h _; exact h
  | cons P l ih =>
    intro S h hP
    cases e : rpS S P with
    | none => rw [runL_no e]; exact h
    | some S' =>
      rw [runL_so e]
      exact ih S' (okS_rp h (hP P List.mem_cons_self) e) (fun Q hQ => hP Q (List.mem_cons_of_mem _ hQ))
theorem rsP_ok {f : Int → Int} : ∀ (d i : Nat) (P : gPt), okP P → ∀ Q ∈ rsP f P i d, okP Q := by
  intro d
  induction d with
  | zero =>
    intro i P h Q hQ
    rw [List.mem_singleton.mp hQ]
    exact h
  | succ d ih =>
    intro i P h Q hQ
    have hn : okP ((pTk P (f (i : Int))).getD P) := by
      cases e : pTk P (f (i : Int)) with
      | none => exact h
      | some P' => exact okP_tk h e
    by_cases c : f (i : Int) = 59
    · rw [rsP_y c] at hQ
      rcases List.mem_cons.mp hQ with hQ | hQ
      · rw [hQ]; exact h
      · exact ih (i + 1) _ hn Q hQ
    · rw [rsP_n c] at hQ
      exact ih (i + 1) _ hn Q hQ
theorem okT_runAll {T : gTt} (h : okT T) : okT (oRunAll T).2.2 := by
  unfold oRunAll
  split
  · have i1 := runL_ok (rsP T.2.2.2 gP0 0 T.2.2.1) T.1 h.1 (rsP_ok _ _ _ okP_0)
    obtain ⟨a1, a2, a3, -, -⟩ := okT_sv h (S := (tRun T).2) i1
    exact ⟨a1, a2, a3, Nat.zero_le _, fun j j0 j1 => absurd j1 (show ¬ j < ((0 : Nat) : Int) by omega)⟩
  · exact h
