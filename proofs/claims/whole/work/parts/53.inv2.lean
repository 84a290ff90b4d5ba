/-! what each public call leaves is as it must be -/
def okA (T : gTt) : Prop := okT T ∧ gIv T.1 ∧ ∀ i : Int, 0 ≤ i → i < (T.2.1.1 : Int) → gIv (T.2.1.2 i)
theorem okA_0 : okA gT0 := ⟨okT_0, gIv_0, fun _ _ _ => gIv_0⟩
theorem okA_sv {T : gTt} {S : gSt} (h : okA T) (h1 : okS S) (h2 : gIv S) : okA (S, (tSave T).2) := by
  obtain ⟨⟨a1, a2, a3, a4, a5⟩, -⟩ := okT_save h.1
  refine ⟨⟨h1, a2, a3, a4, a5⟩, h2, fun i i0 i6 => ?_⟩
  have i6 : i < (((tDrop T.2.1).1 + 1 : Nat) : Int) := i6
  show gIv (gup (tDrop T.2.1).2 ((tDrop T.2.1).1 : Int) T.1 i)
  by_cases e : i = ((tDrop T.2.1).1 : Int)
  · rw [e, gup_at]
    exact h.2.1
  · rw [gup_ne e]
    have h6 := h.1.2.1
    unfold tDrop at e i6 ⊢
    by_cases e6 : T.2.1.1 = 6
    · rw [if_pos e6] at e i6 ⊢
      have i6 : i < ((5 + 1 : Nat) : Int) := i6
      have e : ¬ i = ((5 : Nat) : Int) := e
      exact h.2.2 (i + 1) (by omega) (by omega)
    · rw [if_neg e6] at e i6 ⊢
      exact h.2.2 i i0 (by omega)
theorem okA_read {T : gTt} {w k s : Int} (h : okA T) : okA (oRead T w k s).2.2 := by
  unfold oRead
  split
  · rename_i hv
    exact okA_sv h (okS_set h.1.1 (okK_learn (h.1.1 k hv.2.1.1 hv.2.1.2) hv.1 hv.2.2)) (gIv_set h.2.1 (gIk_learn (h.2.1 k hv.2.1.1 hv.2.1.2)))
  · exact h
theorem okA_write {T : gTt} {w k s v : Int} (h : okA T) : okA (oWrite T w k s v).2.2 := by
  unfold oWrite
  split
  · rename_i hv
    split
    · rename_i hv2
      split
      · rename_i hv3
        exact okA_sv h (okS_set h.1.1 (okK_put (h.1.1 k hv.2.1.1 hv.2.1.2) hv.1 hv.2.2 hv2 hv3.1)) (gIv_set h.2.1 (gIk_put (h.2.1 k hv.2.1.1 hv.2.1.2) (h.1.1 k hv.2.1.1 hv.2.1.2) hv.1 hv.2.2 hv3.1))
      · exact h
    · exact h
  · exact h
theorem okA_pull {T : gTt} {s o k : Int} (h : okA T) : okA (oPull T s o k).2.2 := by
  unfold oPull
  split
  · rename_i hv
    split
    · exact h
    · split
      · rename_i hv3
        exact okA_sv h (okS_set h.1.1 (okK_take (h.1.1 k hv.2.2.1 hv.2.2.2) hv.1 hv.2.1)) (gIv_set h.2.1 (gIk_take (h.2.1 k hv.2.2.1 hv.2.2.2) hv.1 hv.2.1 hv3))
      · exact h
  · exact h
theorem okA_lose {T : gTt} {w k : Int} (h : okA T) : okA (oLose T w k).2.2 := by
  unfold oLose
  split
  · rename_i hv
    exact okA_sv h (okS_set h.1.1 (okK_unl (h.1.1 k hv.2.1 hv.2.2) hv.1)) (gIv_set h.2.1 (gIk_unl (h.2.1 k hv.2.1 hv.2.2)))
  · exact h
theorem okA_forget {T : gTt} {w k : Int} (h : okA T) : okA (oForget T w k).2.2 := by
  unfold oForget
  split
  · rename_i hv
    split
    · rename_i h0
      exact okA_sv (S := tInc (tKey T.1 k (kErase (T.1.1 k) w)) 5) h (okS_set (C' := gup T.1.2 5 (T.1.2 5 + 1)) h.1.1 (okK_erase (h.1.1 k hv.2.1 hv.2.2))) (gIv_set (C' := gup T.1.2 5 (T.1.2 5 + 1)) h.2.1 (gIk_erase (h.2.1 k hv.2.1 hv.2.2) h0))
    · exact h
  · exact h
theorem okA_join {T : gTt} {w k s rule : Int} (h : okA T) : okA (oJoin T w k s rule).2.2 := by
  unfold oJoin
  split
  · rename_i hv
    split
    · rename_i hv2
      split
      · exact h
      · rename_i hv3
        have hK := h.1.1 k hv.2.1.1 hv.2.1.2
        have hI := h.2.1 k hv.2.1.1 hv.2.1.2
        have hsl : sLen T.1 k s = (((T.1.1 k).2.2.2 s).length : Int) := rfl
        have hl := hK.2.2.2 s hv.2.2.1 hv.2.2.2
        obtain ⟨x0, hx0, hx0l⟩ := get_of (l := (T.1.1 k).2.2.2 s) (i := 0) (by omega)
        have hjv : jval rule x0.2 ((T.1.1 k).2.2.2 s) = jVal (T.1.1 k) s rule := by unfold jVal jv0; rw [hx0]; rfl
        have hjr : 0 ≤ jVal (T.1.1 k) s rule ∧ jVal (T.1.1 k) s rule ≤ 99 := by
          rw [← hjv]
          exact jval_r (fun p hp => (hl.2 p hp).2.2) (hl.2 x0 hx0l).2.2
        have e : (tKey T.1 k (kLearn (T.1.1 k) w s)).1 k = kLearn (T.1.1 k) w s := tKey_at
        have hKl := okK_learn hK hv.1 hv.2.2
        have h9 : (kLearn (T.1.1 k) w s).1 w < 999 := by show (T.1.1 k).1 w < 999; omega
        have o1 : okS (tKey T.1 k (kLearn (T.1.1 k) w s)) := okS_set h.1.1 hKl
        have i1 : gIv (tKey T.1 k (kLearn (T.1.1 k) w s)) := gIv_set h.2.1 (gIk_learn hI)
        have o2 : okS (tInc (sRep (tKey T.1 k (kLearn (T.1.1 k) w s)) w k s (jVal (T.1.1 k) s rule)) 4) := okS_set (S := tKey T.1 k (kLearn (T.1.1 k) w s)) (C' := (tInc (sRep (tKey T.1 k (kLearn (T.1.1 k) w s)) w k s (jVal (T.1.1 k) s rule)) 4).2) o1 (by rw [e]; exact okK_put hKl hv.1 hv.2.2 hjr h9)
        have i2 : gIv (tInc (sRep (tKey T.1 k (kLearn (T.1.1 k) w s)) w k s (jVal (T.1.1 k) s rule)) 4) := gIv_set (S := tKey T.1 k (kLearn (T.1.1 k) w s)) (C' := (tInc (sRep (tKey T.1 k (kLearn (T.1.1 k) w s)) w k s (jVal (T.1.1 k) s rule)) 4).2) i1 (by rw [e]; exact gIk_put (gIk_learn hI) hKl hv.1 hv.2.2 h9)
        exact okA_sv h o2 i2
    · exact h
  · exact h
theorem bAr_ok {S : gSt} (h : okS S) (hI : gIv S) : ∀ q : Nat, q ≤ 27 → ∀ U : gSt, bAr S q = some U → okS U ∧ gIv U := by
  intro q
  induction q with
  | zero =>
    intro _ U e
    cases e
    exact ⟨h, hI⟩
  | succ q ih =>
    intro hq U e
    cases e1 : bAr S q with
    | none =>
      have e : (bAr S q).bind _ = some U := e
      rw [e1] at e
      cases e
    | some V =>
      obtain ⟨i1, i2⟩ := ih (by omega) V e1
      rw [bAr_q e1] at e
      unfold bA1 at e
      by_cases c1 : (q : Int) / 3 % 3 = (q : Int) % 3
      · rw [if_pos c1] at e
        cases e
        exact ⟨i1, i2⟩
      · rw [if_neg c1] at e
        by_cases c2 : pOut (V.1 ((q : Int) / 9)) ((q : Int) / 3 % 3) ((q : Int) % 3) 2 ≤ 4
        · rw [if_pos c2] at e
          cases e
          exact ⟨okS_set i1 (okK_take (i1 _ (by omega) (by omega)) (by omega) (by omega)), gIv_set i2 (gIk_take (i2 _ (by omega) (by omega)) (by omega) (by omega) c2)⟩
        · rw [if_neg c2] at e
          cases e
theorem okA_pullAll {T : gTt} (h : okA T) : okA (oPullAll T).2.2 := by
  unfold oPullAll
  cases e : bAr T.1 27 with
  | none => exact h
  | some U =>
    obtain ⟨i1, i2⟩ := bAr_ok h.1.1 h.2.1 27 (Nat.le_refl _) U e
    exact okA_sv h i1 i2
theorem okA_append {T : gTt} {c : Int} (h : okA T) : okA (oAppend T c).2.2 := by
  unfold oAppend
  split
  · rename_i hc
    split
    · rename_i hb
      obtain ⟨⟨a1, a2, a3, a4, a5⟩, i1, i2⟩ := h
      refine ⟨⟨a1, a2, a3, hb, fun j j0 j1 => ?_⟩, i1, i2⟩
      have j1 : j < ((T.2.2.1 + 1 : Nat) : Int) := j1
      show 33 ≤ gup T.2.2.2 (T.2.2.1 : Int) c j ∧ gup T.2.2.2 (T.2.2.1 : Int) c j ≤ 126
      by_cases e : j = (T.2.2.1 : Int)
      · rw [e, gup_at]
        exact hc
      · rw [gup_ne e]
        exact a5 j j0 (by omega)
    · exact h
  · exact h
theorem okA_clear {T : gTt} (h : okA T) : okA (oClear T).2.2 := ⟨⟨h.1.1, h.1.2.1, h.1.2.2.1, Nat.zero_le _, fun j j0 j1 => absurd j1 (show ¬ j < ((0 : Nat) : Int) by omega)⟩, h.2.1, h.2.2⟩
theorem okA_undo {T : gTt} (h : okA T) : okA (oUndo T).2.2 := by
  unfold oUndo
  split
  · exact h
  · rename_i h0
    obtain ⟨⟨a1, a2, a3, a4, a5⟩, i1, i2⟩ := h
    refine ⟨⟨a3 _ (by omega) (by omega), ?_, fun i i0 i6 => a3 i i0 ?_, a4, a5⟩, i2 _ (by omega) (by omega), fun i i0 i6 => i2 i i0 ?_⟩
    · show T.2.1.1 - 1 ≤ 6
      omega
    · have i6 : i < ((T.2.1.1 - 1 : Nat) : Int) := i6
      omega
    · have i6 : i < ((T.2.1.1 - 1 : Nat) : Int) := i6
      omega
