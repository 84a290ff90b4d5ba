/-! what a call that the law makes does to the saved states -/
/-- a call refused, or done and saved -/
def svo (T : gTt) (O : gOut) : Prop := (O.1 ≠ 0 ∧ O.2.2 = T) ∨ (O.1 = 0 ∧ (0 ≤ O.2.1 ∧ O.2.1 < 100000) ∧ ∃ S' : gSt, O.2.2 = (S', (tSave T).2))
def sv (T : gTt) (O : gOut) : Prop := ((O.1 < 0 ∧ -100 < O.1) ∧ O.2.2 = T) ∨ (O.1 = 0 ∧ (0 ≤ O.2.1 ∧ O.2.1 < 100000) ∧ ∃ S' : gSt, O.2.2 = (S', (tSave T).2))
theorem sv_cd {T : gTt} {p q r : Int} {O : gOut} (hp : p < 0 ∧ -100 < p) (hq : q < 0 ∧ -100 < q) (hr : r < 0 ∧ -100 < r) (h : svo T O) : sv T (cCd p q r O) := by
  rcases h with ⟨h1, h2⟩ | ⟨h1, h2, h3⟩
  · refine Or.inl ⟨?_, h2⟩
    unfold cCd
    simp only [if_neg h1]
    split
    · exact hp
    · split
      · exact hq
      · exact hr
  · refine Or.inr ⟨?_, h2, h3⟩
    unfold cCd
    simp only [if_pos h1]
theorem ct_4 {l : List (Int × Int)} (h : okL l) (p : Int × Int → Bool) : (0 : Int) ≤ ((l.countP p : Nat) : Int) ∧ ((l.countP p : Nat) : Int) ≤ 4 := by
  have h1 : l.countP p ≤ l.length := List.countP_le_length
  have h2 := h.1
  omega
theorem sv_read {T : gTt} {w k s : Int} (h : okT T) : svo T (oRead T w k s) := by
  unfold oRead
  split
  · rename_i hv
    have hl := (h.1 k hv.2.1.1 hv.2.1.2).2.2.2 s hv.2.2.1 hv.2.2.2
    refine Or.inr ⟨rfl, ?_, _, rfl⟩
    show 0 ≤ sLen T.1 k s ∧ sLen T.1 k s < 100000
    have e : sLen T.1 k s = (((T.1.1 k).2.2.2 s).length : Int) := rfl
    have h4 := hl.1
    omega
  · exact Or.inl ⟨(show (1 : Int) ≠ 0 by decide), rfl⟩
theorem sv_write {T : gTt} {w k s v : Int} (h : okT T) : svo T (oWrite T w k s v) := by
  unfold oWrite
  split
  · rename_i hv
    split
    · split
      · have hl := (h.1 k hv.2.1.1 hv.2.1.2).2.2.2 s hv.2.2.1 hv.2.2.2
        refine Or.inr ⟨rfl, ?_, _, rfl⟩
        have z := ct_4 hl (fun p => cov ((T.1.1 k).2.1 w) p.1)
        show 0 ≤ wDrop (T.1.1 k) w s ∧ wDrop (T.1.1 k) w s < 100000
        unfold wDrop
        omega
      · exact Or.inl ⟨(show (3 : Int) ≠ 0 by decide), rfl⟩
    · exact Or.inl ⟨(show (2 : Int) ≠ 0 by decide), rfl⟩
  · exact Or.inl ⟨(show (1 : Int) ≠ 0 by decide), rfl⟩
theorem sv_pull {T : gTt} {s o k : Int} (h : okT T) : svo T (oPull T s o k) := by
  unfold oPull
  split
  · rename_i hv
    split
    · exact Or.inl ⟨(show (2 : Int) ≠ 0 by decide), rfl⟩
    · split
      · have hl := (h.1 k hv.2.2.1 hv.2.2.2).2.2.2 s hv.1.1 hv.1.2
        refine Or.inr ⟨rfl, ?_, _, rfl⟩
        have z := ct_4 hl (fun p => drp ((T.1.1 k).2.2.1 o) ((T.1.1 k).2.2.2 o) p.1)
        show 0 ≤ pLost (T.1.1 k) s o ∧ pLost (T.1.1 k) s o < 100000
        unfold pLost
        omega
      · exact Or.inl ⟨(show (3 : Int) ≠ 0 by decide), rfl⟩
  · exact Or.inl ⟨(show (1 : Int) ≠ 0 by decide), rfl⟩
theorem sv_join {T : gTt} {w k s rule : Int} (h : okT T) : svo T (oJoin T w k s rule) := by
  unfold oJoin
  split
  · rename_i hv
    split
    · split
      · exact Or.inl ⟨(show (3 : Int) ≠ 0 by decide), rfl⟩
      · rename_i hv3
        have hK := h.1 k hv.2.1.1 hv.2.1.2
        have hsl : sLen T.1 k s = (((T.1.1 k).2.2.2 s).length : Int) := rfl
        have hl := hK.2.2.2 s hv.2.2.1 hv.2.2.2
        obtain ⟨x0, hx0, hx0l⟩ := get_of (l := (T.1.1 k).2.2.2 s) (i := 0) (by omega)
        have hjv : jval rule x0.2 ((T.1.1 k).2.2.2 s) = jVal (T.1.1 k) s rule := by unfold jVal jv0; rw [hx0]; rfl
        have hjr : 0 ≤ jVal (T.1.1 k) s rule ∧ jVal (T.1.1 k) s rule ≤ 99 := by
          rw [← hjv]
          exact jval_r (fun p hp => (hl.2 p hp).2.2) (hl.2 x0 hx0l).2.2
        refine Or.inr ⟨rfl, ?_, _, rfl⟩
        show 0 ≤ jVal (T.1.1 k) s rule ∧ jVal (T.1.1 k) s rule < 100000
        omega
    · exact Or.inl ⟨(show (2 : Int) ≠ 0 by decide), rfl⟩
  · exact Or.inl ⟨(show (1 : Int) ≠ 0 by decide), rfl⟩
theorem sumN_r {f : Int → Int} {b : Int} (hb : 0 ≤ b) : ∀ i : Nat, (∀ j : Nat, j < i → 0 ≤ f (j : Int) ∧ f (j : Int) ≤ b) → 0 ≤ sumN f i ∧ sumN f i ≤ b * (i : Int) := by
  intro i
  induction i with
  | zero => intro _; exact ⟨Int.le_refl _, by simp [sumN]⟩
  | succ i ih =>
    intro hf
    have h1 := ih (fun j hj => hf j (by omega))
    have h2 := hf i (by omega)
    have e : b * ((i + 1 : Nat) : Int) = b * (i : Int) + b := by rw [Int.natCast_add, Int.mul_add]; simp
    show 0 ≤ sumN f i + f (i : Int) ∧ sumN f i + f (i : Int) ≤ _
    rw [e]
    omega
theorem unlS_r {K : gKy} {w : Int} (h : okK K) (hw : 0 ≤ w ∧ w < 5) : 0 ≤ kUnlS K w ∧ kUnlS K w < 100000 := by
  have z := sumN_r (f := fun o => if o = w then 0 else K.2.1 w o) (b := 1000) (by decide) 5 (fun j hj => by
    have a := h.2.1 w hw.1 hw.2 (j : Int) (by omega) (by omega)
    split <;> omega)
  unfold kUnlS
  omega
theorem sv_lose {T : gTt} {w k : Int} (h : okT T) : svo T (oLose T w k) := by
  unfold oLose
  split
  · rename_i hv
    exact Or.inr ⟨rfl, unlS_r (h.1 k hv.2.1 hv.2.2) hv.1, _, rfl⟩
  · exact Or.inl ⟨(show (1 : Int) ≠ 0 by decide), rfl⟩
theorem sv_forget {T : gTt} {w k : Int} (h : okT T) : svo T (oForget T w k) := by
  unfold oForget
  split
  · rename_i hv
    split
    · have z := (h.1 k hv.2.1 hv.2.2).1 w hv.1.1 hv.1.2
      refine Or.inr ⟨rfl, ?_, _, rfl⟩
      show 0 ≤ (T.1.1 k).1 w ∧ (T.1.1 k).1 w < 100000
      omega
    · exact Or.inl ⟨(show (2 : Int) ≠ 0 by decide), rfl⟩
  · exact Or.inl ⟨(show (1 : Int) ≠ 0 by decide), rfl⟩
theorem bAr_n {S : gSt} (h : okS S) : ∀ q : Nat, q ≤ 27 → ∀ U : gSt, bAr S q = some U → S.2 3 ≤ U.2 3 ∧ U.2 3 ≤ S.2 3 + 4 * (q : Int) := by
  intro q
  induction q with
  | zero =>
    intro _ U e
    cases e
    exact ⟨Int.le_refl _, by omega⟩
  | succ q ih =>
    intro hq U e
    cases e1 : bAr S q with
    | none =>
      have e : (bAr S q).bind _ = some U := e
      rw [e1] at e
      cases e
    | some V =>
      have i1 := ih (by omega) V e1
      have i2 := bAr_ok h q (by omega) V e1
      have e : (bAr S q).bind _ = some U := e
      rw [e1] at e
      have e : bA1 V ((q / 9 : Nat) : Int) ((q / 3 % 3 : Nat) : Int) ((q % 3 : Nat) : Int) = some U := e
      unfold bA1 at e
      by_cases c1 : ((q / 3 % 3 : Nat) : Int) = ((q % 3 : Nat) : Int)
      · rw [if_pos c1] at e
        cases e
        omega
      · rw [if_neg c1] at e
        by_cases c2 : pOut (V.1 ((q / 9 : Nat) : Int)) ((q / 3 % 3 : Nat) : Int) ((q % 3 : Nat) : Int) 2 ≤ 4
        · rw [if_pos c2] at e
          cases e
          have hl := (i2 ((q / 9 : Nat) : Int) (by omega) (by omega)).2.2.2 ((q / 3 % 3 : Nat) : Int) (by omega) (by omega)
          have z := ct_4 hl (fun p => drp ((V.1 ((q / 9 : Nat) : Int)).2.2.1 ((q % 3 : Nat) : Int)) ((V.1 ((q / 9 : Nat) : Int)).2.2.2 ((q % 3 : Nat) : Int)) p.1)
          show S.2 3 ≤ gup V.2 3 (V.2 3 + pLost (V.1 ((q / 9 : Nat) : Int)) ((q / 3 % 3 : Nat) : Int) ((q % 3 : Nat) : Int)) 3 ∧ gup V.2 3 (V.2 3 + pLost (V.1 ((q / 9 : Nat) : Int)) ((q / 3 % 3 : Nat) : Int) ((q % 3 : Nat) : Int)) 3 ≤ _
          rw [gup_at]
          unfold pLost
          omega
        · rw [if_neg c2] at e
          cases e
theorem sv_pullAll {T : gTt} (h : okT T) : svo T (oPullAll T) := by
  unfold oPullAll
  cases e : bAr T.1 27 with
  | none => exact Or.inl ⟨(show (1 : Int) ≠ 0 by decide), rfl⟩
  | some U =>
    have z := bAr_n h.1 27 (Nat.le_refl _) U e
    refine Or.inr ⟨rfl, ?_, _, rfl⟩
    show 0 ≤ U.2 3 - T.1.2 3 ∧ U.2 3 - T.1.2 3 < 100000
    omega
/-- the states that were: now is the A-th, c of those before it are saved -/
def gLs (St : Nat → gSt) (T : gTt) (A c : Nat) : Prop := T.1 = St A ∧ T.2.1.1 = c ∧ c ≤ 6 ∧ c ≤ A ∧ ∀ i : Nat, i < c → T.2.1.2 (i : Int) = St (A - c + i)
def sUp (St : Nat → gSt) (A : Nat) (S : gSt) : Nat → gSt := fun j => if j ≤ A then St j else S
theorem gLs_save {St : Nat → gSt} {T : gTt} {A c : Nat} {S' : gSt} (h : gLs St T A c) : gLs (sUp St A S') (S', (tSave T).2) (A + 1) (cUp c) := by
  obtain ⟨h1, h2, h3, h4, h5⟩ := h
  have e : (tSave T).2 = ((cUp c, fUp T.1 c T.2.1.2), T.2.2) := by
    have z := tSave_e T.1 T.2.1.1 T.2.1.2 T.2.2
    rw [h2] at z
    have e9 : T = (T.1, (c, T.2.1.2), T.2.2) := by rw [← h2]
    rw [← e9] at z
    exact z
  rw [e]
  refine ⟨?_, rfl, ?_, ?_, fun i hi => ?_⟩
  · show S' = sUp St A S' (A + 1)
    unfold sUp
    rw [if_neg (by omega)]
  · unfold cUp; split <;> omega
  · unfold cUp; split <;> omega
  · have hi : i < cUp c := hi
    show fUp T.1 c T.2.1.2 (i : Int) = sUp St A S' (A + 1 - cUp c + i)
    unfold fUp tDrop sUp
    unfold cUp at hi ⊢
    by_cases e6 : c = 6
    · subst e6
      simp only [if_true] at hi ⊢
      rw [if_pos (by omega)]
      by_cases ei : i = 5
      · subst ei
        rw [show ((5 : Nat) : Int) = ((5 : Nat) : Int) from rfl, gup_at, h1]
        congr 1
        omega
      · rw [gup_ne (by omega)]
        have z := h5 (i + 1) (by omega)
        rw [show ((i : Int) + 1) = ((i + 1 : Nat) : Int) by omega, z]
        congr 1
        omega
    · simp only [if_neg e6] at hi ⊢
      rw [if_pos (by omega)]
      by_cases ei : i = c
      · subst ei
        rw [gup_at, h1]
        congr 1
        omega
      · rw [gup_ne (by omega), h5 i (by omega)]
        congr 1
        omega
theorem gLs_undo {St : Nat → gSt} {T : gTt} {A c : Nat} (h : gLs St T A (c + 1)) : 1 ≤ A ∧ oUndo T = (0, (c : Int), St (A - 1), (c, T.2.1.2), T.2.2) ∧ gLs St (St (A - 1), (c, T.2.1.2), T.2.2) (A - 1) c := by
  obtain ⟨h1, h2, h3, h4, h5⟩ := h
  have z := h5 c (by omega)
  rw [show A - (c + 1) + c = A - 1 by omega] at z
  refine ⟨by omega, ?_, rfl, rfl, by omega, by omega, fun i hi => ?_⟩
  · unfold oUndo
    rw [if_neg (by omega), h2, show (((c + 1 : Nat) : Int) - 1) = (c : Int) by omega, z, Nat.add_sub_cancel]
  · show T.2.1.2 (i : Int) = _
    rw [h5 i (by omega)]
    congr 1
    omega
theorem undo_0 {T : gTt} (h : T.2.1.1 = 0) : oUndo T = (1, 0, T) := by
  unfold oUndo
  exact if_pos h
theorem tDig_e {S : gSt} {c : Nat} {f g : Int → gSt} {bu : Nat × (Int → Int)} : tDig (S, (c, f), bu) = tDig (S, (c, g), bu) := rfl
theorem tO_0 {O : gOut} (h : O.1 = 0) : tO O = O.2.1 := if_pos h
theorem tO_1 {O : gOut} (h : O.1 ≠ 0) : tO O = O.1 := if_neg h
theorem okT_sv2 {T : gTt} {O : gOut} (h : okT T) (h2 : okT O.2.2) : okT O.2.2 := h2
