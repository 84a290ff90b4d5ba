/-! the calls on an object, where its state is known: checks, and rows over them -/
def r3 : List Int := [0, 1, 2]
def r5 : List Int := [0, 1, 2, 3, 4]
theorem r3_in {k : Int} (h0 : 0 ≤ k) (h1 : k < 3) : k ∈ r3 := by
  rcases (show k = 0 ∨ k = 1 ∨ k = 2 by omega) with rfl | rfl | rfl <;> decide
theorem r5_in {k : Int} (h0 : 0 ≤ k) (h1 : k < 5) : k ∈ r5 := by
  rcases (show k = 0 ∨ k = 1 ∨ k = 2 ∨ k = 3 ∨ k = 4 by omega) with rfl | rfl | rfl | rfl | rfl <;> decide
def eqK (K K' : gKy) : Bool := r5.all (fun i => K.1 i == K'.1 i) && (r5.all (fun w => r5.all (fun i => K.2.1 w i == K'.2.1 w i)) && (r3.all (fun s => r5.all (fun i => K.2.2.1 s i == K'.2.2.1 s i)) && r3.all (fun s => decide (K.2.2.2 s = K'.2.2.2 s))))
def eqS (S S' : gSt) : Bool := r3.all (fun k => eqK (S.1 k) (S'.1 k)) && ([1, 2, 3, 4, 5] : List Int).all (fun j => S.2 j == S'.2 j)
theorem eqK_at {K K' : gKy} (h : eqK K K' = true) : (∀ i : Int, 0 ≤ i → i < 5 → K.1 i = K'.1 i) ∧ (∀ w : Int, 0 ≤ w → w < 5 → ∀ i : Int, 0 ≤ i → i < 5 → K.2.1 w i = K'.2.1 w i) ∧ (∀ s : Int, 0 ≤ s → s < 3 → ∀ i : Int, 0 ≤ i → i < 5 → K.2.2.1 s i = K'.2.2.1 s i) ∧ (∀ s : Int, 0 ≤ s → s < 3 → K.2.2.2 s = K'.2.2.2 s) := by
  unfold eqK at h
  obtain ⟨h1, h⟩ := (Bool.and_eq_true_iff.mp h)
  obtain ⟨h2, h⟩ := (Bool.and_eq_true_iff.mp h)
  obtain ⟨h3, h4⟩ := (Bool.and_eq_true_iff.mp h)
  refine ⟨fun i i0 i5 => ?_, fun w w0 w5 i i0 i5 => ?_, fun s s0 s3 i i0 i5 => ?_, fun s s0 s3 => ?_⟩
  · exact eq_of_beq (List.all_eq_true.mp h1 i (r5_in i0 i5))
  · exact eq_of_beq (List.all_eq_true.mp (List.all_eq_true.mp h2 w (r5_in w0 w5)) i (r5_in i0 i5))
  · exact eq_of_beq (List.all_eq_true.mp (List.all_eq_true.mp h3 s (r3_in s0 s3)) i (r5_in i0 i5))
  · exact of_decide_eq_true (List.all_eq_true.mp h4 s (r3_in s0 s3))
theorem isK_eq {E : gEnv} {h : gH} {a : Nat} {K K' : gKy} (e : eqK K K' = true) (x : isK E h a K) : isK E h a K' := by
  obtain ⟨e1, e2, e3, e4⟩ := eqK_at e
  exact x.ext e1 e2 e3 e4
theorem okV_eq {f g : Int → Int} (e : ∀ i : Int, 0 ≤ i → i < 5 → f i = g i) (h : okV f) : okV g := fun i i0 i5 => by rw [← e i i0 i5]; exact h i i0 i5
theorem okK_eq {K K' : gKy} (e : eqK K K' = true) (h : okK K) : okK K' := by
  obtain ⟨e1, e2, e3, e4⟩ := eqK_at e
  exact ⟨okV_eq e1 h.1, fun w w0 w5 => okV_eq (e2 w w0 w5) (h.2.1 w w0 w5), fun s s0 s3 => okV_eq (e3 s s0 s3) (h.2.2.1 s s0 s3), fun s s0 s3 => by rw [← e4 s s0 s3]; exact h.2.2.2 s s0 s3⟩
theorem eqS_at {S S' : gSt} (h : eqS S S' = true) : (∀ k : Int, 0 ≤ k → k < 3 → eqK (S.1 k) (S'.1 k) = true) ∧ S.2 1 = S'.2 1 ∧ S.2 2 = S'.2 2 ∧ S.2 3 = S'.2 3 ∧ S.2 4 = S'.2 4 ∧ S.2 5 = S'.2 5 := by
  unfold eqS at h
  obtain ⟨h1, h2⟩ := (Bool.and_eq_true_iff.mp h)
  have a := List.all_eq_true.mp h2
  exact ⟨fun k k0 k3 => List.all_eq_true.mp h1 k (r3_in k0 k3), eq_of_beq (a 1 (by decide)), eq_of_beq (a 2 (by decide)), eq_of_beq (a 3 (by decide)), eq_of_beq (a 4 (by decide)), eq_of_beq (a 5 (by decide))⟩
theorem isS_eq {E : gEnv} {h : gH} {a : Nat} {S S' : gSt} (e : eqS S S' = true) (x : isS E h a S) : isS E h a S' := by
  obtain ⟨e1, e2, e3, e4, e5, e6⟩ := eqS_at e
  obtain ⟨x1, x2, x3⟩ := x
  refine ⟨?_, x2, fun k k0 k3 => isK_eq (e1 k k0 k3) (x3 k k0 k3)⟩
  rw [← e2, ← e3, ← e4, ← e5, ← e6]
  exact x1
theorem okS_eq {S S' : gSt} (e : eqS S S' = true) (h : okS S) : okS S' := fun k k0 k3 => okK_eq ((eqS_at e).1 k k0 k3) (h k k0 k3)
theorem isJ_eq {E : gEnv} {h : gH} {x : Nat} {S S' : gSt} {d : Nat × (Int → gSt)} {bu : Nat × (Int → Int)} (e : eqS S S' = true) (y : isJ E h x (S, d, bu)) : isJ E h x (S', d, bu) := by
  obtain ⟨y1, y2, y3, y4, y5, y6⟩ := y
  exact ⟨y1, isS_eq e y2, y3, y4, y5, y6⟩
theorem okT_eq {S S' : gSt} {d : Nat × (Int → gSt)} {bu : Nat × (Int → Int)} (e : eqS S S' = true) (h : okT (S, d, bu)) : okT (S', d, bu) := ⟨okS_eq e h.1, h.2⟩
/-- how many are saved after one more -/
def cUp (c : Nat) : Nat := if c = 6 then 6 else c + 1
def fUp (S : gSt) (c : Nat) (f : Int → gSt) : Int → gSt := gup (tDrop (c, f)).2 ((tDrop (c, f)).1 : Int) S
theorem tSave_e (S : gSt) (c : Nat) (f : Int → gSt) (bu : Nat × (Int → Int)) : (tSave (S, (c, f), bu)).2 = ((cUp c, fUp S c f), bu) := by
  unfold tSave fUp cUp tDrop
  by_cases h : c = 6
  · simp only [if_pos h]
  · simp only [if_neg h]
theorem fUp_at (S : gSt) (c : Nat) (f : Int → gSt) : fUp S c f ((cUp c : Nat) - 1 : Int) = S := by
  unfold fUp cUp tDrop
  by_cases h : c = 6
  · simp only [if_pos h]
    exact gup_at
  · simp only [if_neg h]
    rw [show (((c + 1 : Nat) : Int) - 1) = (c : Int) by omega]
    exact gup_at
def ckRead (S S' : gSt) (w k s a : Int) : Bool := decide (WKS w k s) && (decide (sLen S k s = a) && eqS (tKey S k (kLearn (S.1 k) w s)) S')
def ckWrite (S S' : gSt) (w k s v a : Int) : Bool := decide (WKS w k s) && (decide (0 ≤ v ∧ v ≤ 99) && (decide ((S.1 k).1 w < 999 ∧ wOut (S.1 k) w s 1 ≤ 4) && (decide (wDrop (S.1 k) w s = a) && eqS (sRep S w k s v) S')))
def ckPull (S S' : gSt) (s o k a : Int) : Bool := decide (SOK s o k) && (decide (¬ s = o) && (decide (pOut (S.1 k) s o 2 ≤ 4) && (decide (pLost (S.1 k) s o = a) && eqS (sBri S s o k) S')))
def ckJoin (S S' : gSt) (w k s rule a : Int) : Bool := decide (WKS w k s) && (decide (0 ≤ rule ∧ rule ≤ 3) && (decide (¬ (sLen S k s = 0 ∨ 999 ≤ (S.1 k).1 w)) && (decide (jVal (S.1 k) s rule = a) && eqS (tInc (sRep (tKey S k (kLearn (S.1 k) w s)) w k s (jVal (S.1 k) s rule)) 4) S')))
def ckLose (S S' : gSt) (w k a : Int) : Bool := decide (WK w k) && (decide (kUnlS (S.1 k) w = a) && eqS (tKey S k (kUnl (S.1 k) w)) S')
def ckForget (S S' : gSt) (w k a : Int) : Bool := decide (WK w k) && (decide (hind (S.1 k) w = 0) && (decide ((S.1 k).1 w = a) && eqS (tInc (tKey S k (kErase (S.1 k) w)) 5) S'))
def ckPullAll (S S' : gSt) (a : Int) : Bool := match bAr S 27 with
  | none => false
  | some U => decide (U.2 3 - S.2 3 = a) && eqS U S'
def ckVec (S : gSt) (s k w a : Int) : Bool := decide (WKS w k s) && decide ((S.1 k).2.2.1 s w = a)
def ckKno (S : gSt) (w k o a : Int) : Bool := decide ((0 ≤ w ∧ w < 5) ∧ (0 ≤ k ∧ k < 3) ∧ (0 ≤ o ∧ o < 5)) && decide ((S.1 k).2.1 w o = a)
def ckKey (S : gSt) (k what a : Int) : Bool := decide (0 ≤ k ∧ k < 3) && (decide (0 ≤ what ∧ what ≤ 7) && decide (keyF (S.1 k) what = a))
def ckSib (S : gSt) (s k p what a : Int) : Bool := decide ((0 ≤ s ∧ s < 3) ∧ (0 ≤ k ∧ k < 3)) && (decide ((0 ≤ p ∧ p ≤ 3) ∧ (0 ≤ what ∧ what ≤ 4)) && decide (sibF (S.1 k) s p what = a))
def ckCnt (S : gSt) (what a : Int) : Bool := decide (0 ≤ what ∧ what < 7) && decide (sTal S what = a)
def ckIfW (S : gSt) (w k s what a : Int) : Bool := decide (WKS w k s) && (decide (0 ≤ what ∧ what ≤ 1) && decide (wOut (S.1 k) w s what = a))
def ckIfP (S : gSt) (s o k what a : Int) : Bool := decide (SOK s o k) && (decide (s ≠ o ∧ (0 ≤ what ∧ what ≤ 2)) && decide (pOut (S.1 k) s o what = a))
def ckWhy (S : gSt) (w k a : Int) : Bool := decide (WK w k) && decide (hind (S.1 k) w = a)
theorem ba {a b : Bool} (h : (a && b) = true) : a = true ∧ b = true := Bool.and_eq_true_iff.mp h
section CKS
variable {S S' : gSt} {c : Nat} {f : Int → gSt} {bu : Nat × (Int → Int)} {w k s o v a p rule what : Int}
theorem ckRead_o (h : ckRead S S' w k s a = true) : oRead (S, (c, f), bu) w k s = (0, a, tKey S k (kLearn (S.1 k) w s), (cUp c, fUp S c f), bu) ∧ eqS (tKey S k (kLearn (S.1 k) w s)) S' = true ∧ WKS w k s := by
  obtain ⟨h1, h⟩ := ba h
  obtain ⟨h2, h3⟩ := ba h
  have h1 := of_decide_eq_true h1
  refine ⟨?_, h3, h1⟩
  unfold oRead
  dsimp only
  rw [if_pos h1, tSave_e, ← of_decide_eq_true h2]
theorem ckWrite_o (h : ckWrite S S' w k s v a = true) : oWrite (S, (c, f), bu) w k s v = (0, a, sRep S w k s v, (cUp c, fUp S c f), bu) ∧ eqS (sRep S w k s v) S' = true ∧ WKS w k s ∧ 0 ≤ v ∧ v ≤ 99 := by
  obtain ⟨h1, h⟩ := ba h
  obtain ⟨h2, h⟩ := ba h
  obtain ⟨h3, h⟩ := ba h
  obtain ⟨h4, h5⟩ := ba h
  have h1 := of_decide_eq_true h1
  have h2 := of_decide_eq_true h2
  have h3 := of_decide_eq_true h3
  refine ⟨?_, h5, h1, h2⟩
  unfold oWrite
  dsimp only
  rw [if_pos h1, if_pos h2, if_pos h3, tSave_e, ← of_decide_eq_true h4]
theorem ckPull_o (h : ckPull S S' s o k a = true) : oPull (S, (c, f), bu) s o k = (0, a, sBri S s o k, (cUp c, fUp S c f), bu) ∧ eqS (sBri S s o k) S' = true ∧ SOK s o k := by
  obtain ⟨h1, h⟩ := ba h
  obtain ⟨h2, h⟩ := ba h
  obtain ⟨h3, h⟩ := ba h
  obtain ⟨h4, h5⟩ := ba h
  have h1 := of_decide_eq_true h1
  have h2 := of_decide_eq_true h2
  have h3 := of_decide_eq_true h3
  refine ⟨?_, h5, h1⟩
  unfold oPull
  dsimp only
  rw [if_pos h1, if_neg h2, if_pos h3, tSave_e, ← of_decide_eq_true h4]
theorem ckJoin_o (h : ckJoin S S' w k s rule a = true) : oJoin (S, (c, f), bu) w k s rule = (0, a, tInc (sRep (tKey S k (kLearn (S.1 k) w s)) w k s (jVal (S.1 k) s rule)) 4, (cUp c, fUp S c f), bu) ∧ eqS (tInc (sRep (tKey S k (kLearn (S.1 k) w s)) w k s (jVal (S.1 k) s rule)) 4) S' = true ∧ WKS w k s ∧ 0 ≤ rule ∧ rule ≤ 3 := by
  obtain ⟨h1, h⟩ := ba h
  obtain ⟨h2, h⟩ := ba h
  obtain ⟨h3, h⟩ := ba h
  obtain ⟨h4, h5⟩ := ba h
  have h1 := of_decide_eq_true h1
  have h2 := of_decide_eq_true h2
  have h3 := of_decide_eq_true h3
  refine ⟨?_, h5, h1, h2⟩
  unfold oJoin
  dsimp only
  rw [if_pos h1, if_pos h2, if_neg h3, tSave_e, ← of_decide_eq_true h4]
theorem ckLose_o (h : ckLose S S' w k a = true) : oLose (S, (c, f), bu) w k = (0, a, tKey S k (kUnl (S.1 k) w), (cUp c, fUp S c f), bu) ∧ eqS (tKey S k (kUnl (S.1 k) w)) S' = true ∧ WK w k := by
  obtain ⟨h1, h⟩ := ba h
  obtain ⟨h2, h3⟩ := ba h
  have h1 := of_decide_eq_true h1
  refine ⟨?_, h3, h1⟩
  unfold oLose
  dsimp only
  rw [if_pos h1, tSave_e, ← of_decide_eq_true h2]
theorem ckForget_o (h : ckForget S S' w k a = true) : oForget (S, (c, f), bu) w k = (0, a, tInc (tKey S k (kErase (S.1 k) w)) 5, (cUp c, fUp S c f), bu) ∧ eqS (tInc (tKey S k (kErase (S.1 k) w)) 5) S' = true ∧ WK w k := by
  obtain ⟨h1, h⟩ := ba h
  obtain ⟨h2, h⟩ := ba h
  obtain ⟨h3, h4⟩ := ba h
  have h1 := of_decide_eq_true h1
  have h2 := of_decide_eq_true h2
  refine ⟨?_, h4, h1⟩
  unfold oForget
  dsimp only
  rw [if_pos h1, if_pos h2, tSave_e, ← of_decide_eq_true h3]
theorem ckPullAll_o (h : ckPullAll S S' a = true) : ∃ U : gSt, oPullAll (S, (c, f), bu) = (0, a, U, (cUp c, fUp S c f), bu) ∧ eqS U S' = true := by
  unfold ckPullAll at h
  cases e : bAr S 27 with
  | none => rw [e] at h; cases h
  | some U =>
    rw [e] at h
    obtain ⟨h1, h2⟩ := ba h
    refine ⟨U, ?_, h2⟩
    unfold oPullAll
    have e : bAr ((S, (c, f), bu) : gTt).1 27 = some U := e
    rw [e, tSave_e, ← of_decide_eq_true h1]
theorem ckVec_o (h : ckVec S s k w a = true) : oVector (S, (c, f), bu) s k w = (0, a, S, (c, f), bu) ∧ WKS w k s := by
  obtain ⟨h1, h2⟩ := ba h
  have h1 := of_decide_eq_true h1
  refine ⟨?_, h1⟩
  unfold oVector
  dsimp only
  rw [if_pos h1, ← of_decide_eq_true h2]
theorem ckKno_o (h : ckKno S w k o a = true) : oKnows (S, (c, f), bu) w k o = (0, a, S, (c, f), bu) ∧ ((0 ≤ w ∧ w < 5) ∧ (0 ≤ k ∧ k < 3) ∧ (0 ≤ o ∧ o < 5)) := by
  obtain ⟨h1, h2⟩ := ba h
  have h1 := of_decide_eq_true h1
  refine ⟨?_, h1⟩
  unfold oKnows
  dsimp only
  rw [if_pos h1, ← of_decide_eq_true h2]
theorem ckKey_o (h : ckKey S k what a = true) : oKey (S, (c, f), bu) k what = (0, a, S, (c, f), bu) ∧ (0 ≤ k ∧ k < 3) ∧ (0 ≤ what ∧ what ≤ 7) := by
  obtain ⟨h1, h⟩ := ba h
  obtain ⟨h2, h3⟩ := ba h
  have h1 := of_decide_eq_true h1
  have h2 := of_decide_eq_true h2
  refine ⟨?_, h1, h2⟩
  unfold oKey
  dsimp only
  rw [if_pos h1, if_pos h2, ← of_decide_eq_true h3]
theorem ckSib_o (h : ckSib S s k p what a = true) : oSibling (S, (c, f), bu) s k p what = (0, a, S, (c, f), bu) ∧ ((0 ≤ s ∧ s < 3) ∧ (0 ≤ k ∧ k < 3)) ∧ ((0 ≤ p ∧ p ≤ 3) ∧ (0 ≤ what ∧ what ≤ 4)) := by
  obtain ⟨h1, h⟩ := ba h
  obtain ⟨h2, h3⟩ := ba h
  have h1 := of_decide_eq_true h1
  have h2 := of_decide_eq_true h2
  refine ⟨?_, h1, h2⟩
  unfold oSibling
  dsimp only
  rw [if_pos h1, if_pos h2, ← of_decide_eq_true h3]
theorem ckCnt_o (h : ckCnt S what a = true) : oCount (S, (c, f), bu) what = (0, a, S, (c, f), bu) ∧ (0 ≤ what ∧ what < 7) := by
  obtain ⟨h1, h2⟩ := ba h
  have h1 := of_decide_eq_true h1
  refine ⟨?_, h1⟩
  rw [oCount_at _ _ h1, ← of_decide_eq_true h2]
theorem ckIfW_o (h : ckIfW S w k s what a = true) : oIfW (S, (c, f), bu) w k s what = (0, a, S, (c, f), bu) ∧ WKS w k s ∧ 0 ≤ what ∧ what ≤ 1 := by
  obtain ⟨h1, h⟩ := ba h
  obtain ⟨h2, h3⟩ := ba h
  have h1 := of_decide_eq_true h1
  have h2 := of_decide_eq_true h2
  refine ⟨?_, h1, h2⟩
  unfold oIfW
  dsimp only
  rw [if_pos h1, if_pos h2, ← of_decide_eq_true h3]
theorem ckIfP_o (h : ckIfP S s o k what a = true) : oIfP (S, (c, f), bu) s o k what = (0, a, S, (c, f), bu) ∧ SOK s o k ∧ 0 ≤ what ∧ what ≤ 2 := by
  obtain ⟨h1, h⟩ := ba h
  obtain ⟨h2, h3⟩ := ba h
  have h1 := of_decide_eq_true h1
  have h2 := of_decide_eq_true h2
  refine ⟨?_, h1, h2.2⟩
  unfold oIfP
  dsimp only
  rw [if_pos h1, if_pos h2, ← of_decide_eq_true h3]
theorem ckWhy_o (h : ckWhy S w k a = true) : oWhy (S, (c, f), bu) w k = (0, a, S, (c, f), bu) ∧ WK w k := by
  obtain ⟨h1, h2⟩ := ba h
  have h1 := of_decide_eq_true h1
  refine ⟨?_, h1⟩
  unfold oWhy
  dsimp only
  rw [if_pos h1, ← of_decide_eq_true h2]
end CKS
