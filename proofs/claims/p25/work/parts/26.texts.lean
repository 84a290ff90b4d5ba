/-! SiblingJoins: texts -/
def peq (P Q : gPt) : Prop := P.1 = Q.1 ∧ (1 ≤ P.1 → P.2.1 = Q.2.1) ∧ (2 ≤ P.1 → P.2.2.1 = Q.2.2.1) ∧ (4 ≤ P.1 → P.2.2.2.1 = Q.2.2.2.1) ∧ (6 ≤ P.1 → P.2.2.2.2.1 = Q.2.2.2.2.1) ∧ (8 ≤ P.1 → P.2.2.2.2.2 = Q.2.2.2.2.2)
theorem peq_rf {P : gPt} : peq P P := ⟨rfl, fun _ => rfl, fun _ => rfl, fun _ => rfl, fun _ => rfl, fun _ => rfl⟩
def gP0 : gPt := (0, false, 0, 0, 0, 0)
theorem okP_0 : okP gP0 := by unfold okP gP0; decide
theorem okP_rs {P : gPt} (h : okP P) : okP (0, P.2) := ⟨Nat.zero_le _, fun _ => Nat.zero_le _, h.2.2.1, h.2.2.2.1, h.2.2.2.2.1, h.2.2.2.2.2.1, fun z => by cases z⟩
theorem tk0 {b : Bool} {w k s v c : Int} : pTk (0, b, w, k, s, v) c = if c = 114 ∨ c = 119 then some (1, decide (c = 119), w, k, s, v) else none := rfl
theorem tkd {p : Nat} {b : Bool} {w k s v c m : Int} (h0 : ¬ p = 0) (h1 : ¬ pLen b ≤ (p : Int)) (h2 : gChr (pSh b) p = m) (h3 : 48 ≤ m ∧ m ≤ 57) : pTk (p, b, w, k, s, v) c = if 48 ≤ c ∧ c ≤ m then some (pDig (p, b, w, k, s, v) (c - 48)) else none := by
  subst h2
  unfold pTk
  rw [if_neg h0, if_neg h1]
  exact if_pos h3
theorem tkc {p : Nat} {b : Bool} {w k s v c m : Int} (h0 : ¬ p = 0) (h1 : ¬ pLen b ≤ (p : Int)) (h2 : gChr (pSh b) p = m) (h3 : ¬ (48 ≤ m ∧ m ≤ 57)) : pTk (p, b, w, k, s, v) c = if c = m then some (p + 1, b, w, k, s, v) else none := by
  subst h2
  unfold pTk
  rw [if_neg h0, if_neg h1]
  exact if_neg h3
theorem tke {p : Nat} {b : Bool} {w k s v c : Int} (h0 : ¬ p = 0) (h1 : pLen b ≤ (p : Int)) : pTk (p, b, w, k, s, v) c = pEnd (p, b, w, k, s, v) c := by
  unfold pTk
  rw [if_neg h0]
  exact if_pos h1
theorem tk1 {b : Bool} {w k s v c : Int} : pTk (1, b, w, k, s, v) c = if 48 ≤ c ∧ c ≤ 52 then some (2, b, c - 48, k, s, v) else none := by cases b <;> exact tkd (by decide) (by decide) (by decide) (by decide)
theorem tk2 {b : Bool} {w k s v c : Int} : pTk (2, b, w, k, s, v) c = if c = 107 then some (3, b, w, k, s, v) else none := by cases b <;> exact tkc (by decide) (by decide) (by decide) (by decide)
theorem tk3 {b : Bool} {w k s v c : Int} : pTk (3, b, w, k, s, v) c = if 48 ≤ c ∧ c ≤ 50 then some (4, b, w, c - 48, s, v) else none := by cases b <;> exact tkd (by decide) (by decide) (by decide) (by decide)
theorem tk4 {b : Bool} {w k s v c : Int} : pTk (4, b, w, k, s, v) c = if c = 115 then some (5, b, w, k, s, v) else none := by cases b <;> exact tkc (by decide) (by decide) (by decide) (by decide)
theorem tk5 {b : Bool} {w k s v c : Int} : pTk (5, b, w, k, s, v) c = if 48 ≤ c ∧ c ≤ 50 then some (6, b, w, k, c - 48, v) else none := by cases b <;> exact tkd (by decide) (by decide) (by decide) (by decide)
theorem tk6t {w k s v c : Int} : pTk (6, true, w, k, s, v) c = if c = 61 then some (7, true, w, k, s, v) else none := tkc (by decide) (by decide) (by decide) (by decide)
theorem tk6f {w k s v c : Int} : pTk (6, false, w, k, s, v) c = if c = 59 then some (0, false, w, k, s, v) else none := by
  rw [tke (by decide) (by decide)]
  unfold pEnd
  by_cases e : c = 59
  · rw [if_pos e, if_pos e]
  · rw [if_neg e, if_neg e, if_neg (fun z => by cases z.1.1)]
theorem tk7 {w k s v c : Int} : pTk (7, true, w, k, s, v) c = if 48 ≤ c ∧ c ≤ 57 then some (8, true, w, k, s, c - 48) else none := tkd (by decide) (by decide) (by decide) (by decide)
theorem tk8 {w k s v c : Int} : pTk (8, true, w, k, s, v) c = if c = 59 then some (0, true, w, k, s, v) else if 0 < v ∧ 48 ≤ c ∧ c ≤ 57 then some (9, true, w, k, s, 10 * v + c - 48) else none := by
  rw [tke (by decide) (by decide)]
  unfold pEnd
  by_cases e : c = 59
  · rw [if_pos e, if_pos e]
  · rw [if_neg e, if_neg e]
    by_cases e2 : 0 < v ∧ 48 ≤ c ∧ c ≤ 57
    · rw [if_pos e2, if_pos ⟨⟨rfl, rfl, e2.1⟩, e2.2⟩]
    · rw [if_neg e2, if_neg (fun z => e2 ⟨z.1.2.2, z.2⟩)]
theorem tk9 {w k s v c : Int} : pTk (9, true, w, k, s, v) c = if c = 59 then some (0, true, w, k, s, v) else none := by
  rw [tke (by decide) (by decide)]
  unfold pEnd
  by_cases e : c = 59
  · rw [if_pos e, if_pos e]
  · rw [if_neg e, if_neg e, if_neg (fun z => by have z1 := z.1.2.1; cases z1)]
theorem okP_mk {p : Nat} {b : Bool} {w k s v : Int} (h1 : p ≤ 9) (h2 : b = false → p ≤ 6) (h3 : 0 ≤ w ∧ w ≤ 4) (h4 : 0 ≤ k ∧ k ≤ 2) (h5 : 0 ≤ s ∧ s ≤ 2) (h6 : 0 ≤ v ∧ v ≤ 99) (h7 : p = 8 → v ≤ 9) : okP (p, b, w, k, s, v) := ⟨h1, h2, h3, h4, h5, h6, h7⟩
theorem go_if {q : Prop} [Decidable q] {R P' : gPt} (z : (if q then some R else none) = some P') : q ∧ R = P' := by
  by_cases y : q
  · rw [if_pos y] at z
    exact ⟨y, Option.some.inj z⟩
  · rw [if_neg y] at z
    cases z
theorem pl_cases {p : Nat} {b : Bool} (h1 : p ≤ 9) (h2 : b = false → p ≤ 6) : p = 0 ∨ p = 1 ∨ p = 2 ∨ p = 3 ∨ p = 4 ∨ p = 5 ∨ (p = 6 ∧ b = true) ∨ (p = 6 ∧ b = false) ∨ (p = 7 ∧ b = true) ∨ (p = 8 ∧ b = true) ∨ (p = 9 ∧ b = true) := by
  cases b
  · have := h2 rfl
    simp
    omega
  · simp
    omega
theorem okP_tk {P P' : gPt} {c : Int} (h : okP P) (e : pTk P c = some P') : okP P' := by
  obtain ⟨p, b, w, k, s, v⟩ := P
  obtain ⟨h1, h2, h3, h4, h5, h6, h7⟩ := h
  dsimp only at h1 h2 h3 h4 h5 h6 h7
  rcases pl_cases h1 h2 with rfl | rfl | rfl | rfl | rfl | rfl | ⟨rfl, rfl⟩ | ⟨rfl, rfl⟩ | ⟨rfl, rfl⟩ | ⟨rfl, rfl⟩ | ⟨rfl, rfl⟩
  · rw [tk0] at e
    obtain ⟨z, rfl⟩ := go_if e
    exact okP_mk (by decide) (fun _ => by decide) h3 h4 h5 h6 (fun z => by cases z)
  · rw [tk1] at e
    obtain ⟨z, rfl⟩ := go_if e
    exact okP_mk (by decide) (fun _ => by decide) (by omega) h4 h5 h6 (fun z => by cases z)
  · rw [tk2] at e
    obtain ⟨z, rfl⟩ := go_if e
    exact okP_mk (by decide) (fun _ => by decide) h3 h4 h5 h6 (fun z => by cases z)
  · rw [tk3] at e
    obtain ⟨z, rfl⟩ := go_if e
    exact okP_mk (by decide) (fun _ => by decide) h3 (by omega) h5 h6 (fun z => by cases z)
  · rw [tk4] at e
    obtain ⟨z, rfl⟩ := go_if e
    exact okP_mk (by decide) (fun _ => by decide) h3 h4 h5 h6 (fun z => by cases z)
  · rw [tk5] at e
    obtain ⟨z, rfl⟩ := go_if e
    exact okP_mk (by decide) (fun _ => by decide) h3 h4 (by omega) h6 (fun z => by cases z)
  · rw [tk6t] at e
    obtain ⟨z, rfl⟩ := go_if e
    exact okP_mk (by decide) (fun z => by cases z) h3 h4 h5 h6 (fun z => by cases z)
  · rw [tk6f] at e
    obtain ⟨z, rfl⟩ := go_if e
    exact okP_mk (by decide) (fun _ => by decide) h3 h4 h5 h6 (fun z => by cases z)
  · rw [tk7] at e
    obtain ⟨z, rfl⟩ := go_if e
    exact okP_mk (by decide) (fun z => by cases z) h3 h4 h5 (by omega) (fun _ => by omega)
  · rw [tk8] at e
    by_cases e1 : c = 59
    · rw [if_pos e1] at e
      cases e
      exact okP_mk (by decide) (fun _ => by decide) h3 h4 h5 h6 (fun z => by cases z)
    · rw [if_neg e1] at e
      obtain ⟨z, rfl⟩ := go_if e
      have h79 := h7 rfl
      exact okP_mk (by decide) (fun z => by cases z) h3 h4 h5 (by omega) (fun z => by cases z)
  · rw [tk9] at e
    obtain ⟨z, rfl⟩ := go_if e
    exact okP_mk (by decide) (fun _ => by decide) h3 h4 h5 h6 (fun z => by cases z)
/-- what two parts that are alike take, and what they are then -/
def oeq : Option gPt → Option gPt → Prop
  | some P, some Q => peq P Q
  | none, none => True
  | _, _ => False
theorem oeq_if {q : Prop} [Decidable q] {R S : gPt} (h : q → peq R S) : oeq (if q then some R else none) (if q then some S else none) := by
  by_cases y : q
  · rw [if_pos y, if_pos y]
    exact h y
  · rw [if_neg y, if_neg y]
    trivial
theorem peq_mk {p : Nat} {b b' : Bool} {w k s v w' k' s' v' : Int} (h1 : 1 ≤ p → b = b') (h2 : 2 ≤ p → w = w') (h3 : 4 ≤ p → k = k') (h4 : 6 ≤ p → s = s') (h5 : 8 ≤ p → v = v') : peq (p, b, w, k, s, v) (p, b', w', k', s', v') := ⟨rfl, h1, h2, h3, h4, h5⟩
theorem peq_tk {P Q : gPt} {c : Int} (h : peq P Q) (hP : okP P) : oeq (pTk P c) (pTk Q c) := by
  obtain ⟨p, b, w, k, s, v⟩ := P
  obtain ⟨p', b', w', k', s', v'⟩ := Q
  obtain ⟨e1, e2, e3, e4, e5, e6⟩ := h
  obtain ⟨h1, h2, -⟩ := hP
  dsimp only at h1 h2 e1 e2 e3 e4 e5 e6
  subst e1
  rcases pl_cases h1 h2 with rfl | rfl | rfl | rfl | rfl | rfl | ⟨rfl, rfl⟩ | ⟨rfl, rfl⟩ | ⟨rfl, rfl⟩ | ⟨rfl, rfl⟩ | ⟨rfl, rfl⟩
  · rw [tk0, tk0]
    exact oeq_if fun _ => peq_mk (fun _ => rfl) (fun z => absurd z (by decide)) (fun z => absurd z (by decide)) (fun z => absurd z (by decide)) (fun z => absurd z (by decide))
  · cases e2 (by decide)
    rw [tk1, tk1]
    exact oeq_if fun _ => peq_mk (fun _ => rfl) (fun _ => rfl) (fun z => absurd z (by decide)) (fun z => absurd z (by decide)) (fun z => absurd z (by decide))
  · cases e2 (by decide)
    cases e3 (by decide)
    rw [tk2, tk2]
    exact oeq_if fun _ => peq_mk (fun _ => rfl) (fun _ => rfl) (fun z => absurd z (by decide)) (fun z => absurd z (by decide)) (fun z => absurd z (by decide))
  · cases e2 (by decide)
    cases e3 (by decide)
    rw [tk3, tk3]
    exact oeq_if fun _ => peq_mk (fun _ => rfl) (fun _ => rfl) (fun _ => rfl) (fun z => absurd z (by decide)) (fun z => absurd z (by decide))
  · cases e2 (by decide)
    cases e3 (by decide)
    cases e4 (by decide)
    rw [tk4, tk4]
    exact oeq_if fun _ => peq_mk (fun _ => rfl) (fun _ => rfl) (fun _ => rfl) (fun z => absurd z (by decide)) (fun z => absurd z (by decide))
  · cases e2 (by decide)
    cases e3 (by decide)
    cases e4 (by decide)
    rw [tk5, tk5]
    exact oeq_if fun _ => peq_mk (fun _ => rfl) (fun _ => rfl) (fun _ => rfl) (fun _ => rfl) (fun z => absurd z (by decide))
  · cases e2 (by decide)
    cases e3 (by decide)
    cases e4 (by decide)
    cases e5 (by decide)
    rw [tk6t, tk6t]
    exact oeq_if fun _ => peq_mk (fun _ => rfl) (fun _ => rfl) (fun _ => rfl) (fun _ => rfl) (fun z => absurd z (by decide))
  · cases e2 (by decide)
    cases e3 (by decide)
    cases e4 (by decide)
    cases e5 (by decide)
    rw [tk6f, tk6f]
    exact oeq_if fun _ => peq_mk (fun z => absurd z (by decide)) (fun z => absurd z (by decide)) (fun z => absurd z (by decide)) (fun z => absurd z (by decide)) (fun z => absurd z (by decide))
  · cases e2 (by decide)
    cases e3 (by decide)
    cases e4 (by decide)
    cases e5 (by decide)
    rw [tk7, tk7]
    exact oeq_if fun _ => peq_mk (fun _ => rfl) (fun _ => rfl) (fun _ => rfl) (fun _ => rfl) (fun _ => rfl)
  · cases e2 (by decide)
    cases e3 (by decide)
    cases e4 (by decide)
    cases e5 (by decide)
    cases e6 (by decide)
    rw [tk8]
    by_cases e1 : c = 59
    · rw [if_pos e1]
      exact peq_rf
    · rw [if_neg e1]
      exact oeq_if fun _ => peq_rf
  · cases e2 (by decide)
    cases e3 (by decide)
    cases e4 (by decide)
    cases e5 (by decide)
    cases e6 (by decide)
    rw [tk9]
    exact oeq_if fun _ => peq_rf
/-- what has been taken after i characters -/
def scP (f : Int → Int) : Nat → Option gPt
  | 0 => some gP0
  | i + 1 => (scP f i).bind (fun P => pTk P (f (i : Int)))
/-- how many are taken -/
def scE (f : Int → Int) : Nat → Nat
  | 0 => 0
  | i + 1 => if (scP f (i + 1)).isSome then i + 1 else scE f i
theorem scP_no {f : Int → Int} {i : Nat} (h : scP f i = none) : ∀ d : Nat, scP f (i + d) = none := by
  intro d
  induction d with
  | zero => exact h
  | succ d ih =>
    show (scP f (i + d)).bind _ = none
    rw [ih]
    rfl
theorem scE_of {f : Int → Int} {i : Nat} (h : (scP f i).isSome) : scE f i = i := by
  cases i with
  | zero => rfl
  | succ i => exact if_pos h
theorem scE_no {f : Int → Int} {i : Nat} (h : (scP f i).isSome) (h2 : scP f (i + 1) = none) : ∀ d : Nat, scE f (i + d) = i := by
  intro d
  induction d with
  | zero => exact scE_of h
  | succ d ih =>
    show (if (scP f (i + d + 1)).isSome then i + d + 1 else scE f (i + d)) = i
    have e := scP_no h2 d
    rw [show i + 1 + d = i + d + 1 by omega] at e
    rw [e]
    exact ih
theorem scP_pk {f : Int → Int} : ∀ {i : Nat} {P : gPt}, scP f i = some P → okP P := by
  intro i
  induction i with
  | zero =>
    intro P h
    cases h
    exact okP_0
  | succ i ih =>
    intro P h
    have h : (scP f i).bind (fun P => pTk P (f (i : Int))) = some P := h
    cases e : scP f i with
    | none => rw [e] at h; cases h
    | some P0 =>
      rw [e] at h
      exact okP_tk (ih e) h
theorem scP_st {f : Int → Int} {i : Nat} {P : gPt} (h : scP f i = some P) : scP f (i + 1) = pTk P (f (i : Int)) := by
  show (scP f i).bind _ = _
  rw [h]
  rfl
def rpS (S : gSt) (P : gPt) : Option gSt := if P.2.1 = false then some (gup S.1 P.2.2.2.1 (kLearn (S.1 P.2.2.2.1) P.2.2.1 P.2.2.2.2.1), S.2) else if (S.1 P.2.2.2.1).1 P.2.2.1 < 999 ∧ wOut (S.1 P.2.2.2.1) P.2.2.1 P.2.2.2.2.1 1 ≤ 4 then some (sRep S P.2.2.1 P.2.2.2.1 P.2.2.2.2.1 P.2.2.2.2.2) else none
theorem okS_rp {S S' : gSt} {P : gPt} (h : okS S) (hP : okP P) (e : rpS S P = some S') : okS S' := by
  obtain ⟨h1, h2, h3, h4, h5, h6, h7⟩ := hP
  have hk := h P.2.2.2.1 h4.1 (by omega)
  unfold rpS at e
  by_cases e1 : P.2.1 = false
  · rw [if_pos e1] at e
    cases e
    exact okS_set h (okK_learn hk (by omega) (by omega))
  · rw [if_neg e1] at e
    by_cases e2 : (S.1 P.2.2.2.1).1 P.2.2.1 < 999 ∧ wOut (S.1 P.2.2.2.1) P.2.2.1 P.2.2.2.2.1 1 ≤ 4
    · rw [if_pos e2] at e
      cases e
      exact okS_set h (okK_put hk (by omega) (by omega) (by omega) e2.1)
    · rw [if_neg e2] at e
      cases e
/-- the parts from the i-th character on, d characters more -/
def rsP (f : Int → Int) (P : gPt) (i : Nat) : Nat → List gPt
  | 0 => [P]
  | d + 1 => if f (i : Int) = 59 then P :: rsP f ((pTk P (f (i : Int))).getD P) (i + 1) d else rsP f ((pTk P (f (i : Int))).getD P) (i + 1) d
/-- parts done, one by one, until one can't be -/
def runL (S : gSt) : List gPt → Nat × gSt
  | [] => (0, S)
  | P :: l => match rpS S P with
    | none => (0, S)
    | some S' => ((runL S' l).1 + 1, (runL S' l).2)
theorem runL_no {S : gSt} {P : gPt} {l : List gPt} (h : rpS S P = none) : runL S (P :: l) = (0, S) := by
  unfold runL
  rw [h]
theorem runL_so {S S' : gSt} {P : gPt} {l : List gPt} (h : rpS S P = some S') : runL S (P :: l) = ((runL S' l).1 + 1, (runL S' l).2) := by
  conv => lhs; unfold runL
  rw [h]
theorem rsP_y {f : Int → Int} {P : gPt} {i d : Nat} (h : f (i : Int) = 59) : rsP f P i (d + 1) = P :: rsP f ((pTk P (f (i : Int))).getD P) (i + 1) d := if_pos h
theorem rsP_n {f : Int → Int} {P : gPt} {i d : Nat} (h : ¬ f (i : Int) = 59) : rsP f P i (d + 1) = rsP f ((pTk P (f (i : Int))).getD P) (i + 1) d := if_neg h
theorem peq_0 {X Y : Bool × Int × Int × Int × Int} : peq (0, X) (0, Y) := ⟨rfl, fun z => absurd z (show ¬ 1 ≤ 0 by decide), fun z => absurd z (show ¬ 2 ≤ 0 by decide), fun z => absurd z (show ¬ 4 ≤ 0 by decide), fun z => absurd z (show ¬ 6 ≤ 0 by decide), fun z => absurd z (show ¬ 8 ≤ 0 by decide)⟩

set_option maxRecDepth 100000 in
set_option maxHeartbeats 4000000 in
theorem c_X4_scanBuffer {E : gEnv} {n : Nat} {σ : Option Nat} {h : gH} (x : Nat) (T : gTt) (hxb : gB E ≤ x ∧ x + 524 ≤ gB E + n) (hJ : isJ E h x T) (hok : okT T)  : gM E mX4_scanBuffer [.ref x] n σ h (gD (some (.int (gi (scE T.2.2.2 T.2.2.1 : Nat)))) n σ (fun h9 => gKp (x + 133) (x + 134) h h9 ∧ ∃ P : gPt, isP h9 (x + 133) P ∧ okP P ∧ (scE T.2.2.2 T.2.2.1 = T.2.2.1 → ∃ Pc : gPt, scP T.2.2.2 T.2.2.1 = some Pc ∧ peq P Pc))) (gNo) := by
  have hok9 := hok
  have hJ9 := hJ
  obtain ⟨j1, j2, j3, j4, j5, j6⟩ := hJ
  obtain ⟨o1, o2, o3, o4, o5⟩ := hok
  unfold isJo at j1
  obtain ⟨b, jb, jbe⟩ := j5
  obtain ⟨P0, jP, jPo⟩ := j6
  have jP9 := jP
  unfold isP at jP
  refine gM_of (by decide) (Nat.le_of_ble_eq_true rfl) (fun F C => ?_)
  refine g_aload_n 1 C dX4_scanBuffer_0 rfl rfl ?_
  refine g_getf 4 C dX4_scanBuffer_1 fl_RX4_30 rfl (by omega) j1 rfl rfl ?_
  refine g_V0v 7 0 0 C dX4_scanBuffer_4 rfl lk_RX4_211 gi_X2_restart gv_X2_restart ⟨_, _, rfl⟩ (by omega) jP ⟨⟨by decide, by decide⟩, by decide, by decide⟩ (Nat.le_of_ble_eq_true rfl) rfl rfl rfl (c_X2_restart (x + 133) P0 (by omega) jP9) g_no (fun h2 e4 => ?_)
  obtain ⟨hP2, hk2⟩ := e4
  refine g_iconst 8 C dX4_scanBuffer_7 rfl ?_
  refine g_istore_n 9 [(1, _), (0, _)] C dX4_scanBuffer_8 (by decide) rfl rfl ?_
  have lp9 : ∀ (k9 : Nat) (i : Nat) (h1 : gH) (P1 Pc : gPt), (i ≤ T.2.2.1) → (gKp (x + 133) (x + 134) h h1) → (isP h1 (x + 133) P1) → (okP P1) → (scP T.2.2.2 i = some Pc) → (peq P1 Pc) → T.2.2.1 - i < k9 → G E F mX4_scanBuffer (gQ E F mX4_scanBuffer n (gD (some (.int (gi (scE T.2.2.2 T.2.2.1 : Nat)))) n σ (fun h9 => gKp (x + 133) (x + 134) h h9 ∧ ∃ P : gPt, isP h9 (x + 133) P ∧ okP P ∧ (scE T.2.2.2 T.2.2.1 = T.2.2.1 → ∃ Pc : gPt, scP T.2.2.2 T.2.2.1 = some Pc ∧ peq P Pc))) (gNo)) n σ h1 0 0 9 [(1, .int (gi (i : Int))), (0, .ref x)] [] := by
    intro k9
    induction k9 with
    | zero => intro i h1 P1 Pc hi hk hP1 ho1 hs1 he1 h0; exact absurd h0 (Nat.not_lt_zero _)
    | succ k9 ih9 =>
      intro i h1 P1 Pc hi hk hP1 ho1 hs1 he1 hk9
      have l1 := (hk x (by omega)).trans j1
      have lb := (hk (x + 132) (by omega)).trans jb
      have lP := hP1
      unfold isP at lP
      refine g_iload_n 10 C dX4_scanBuffer_9 rfl rfl ?_
      refine g_aload_n 11 C dX4_scanBuffer_10 rfl rfl ?_
      refine g_getf 14 C dX4_scanBuffer_11 fl_RX4_137 rfl (by omega) l1 rfl rfl ?_
      refine g_icmp_ge 41 17 C dX4_scanBuffer_14 rfl rfl (by omega) (by omega) (fun c14 => ?_) (fun c14 => ?_)
      · skip
        refine g_aload_n 42 C dX4_scanBuffer_41 rfl rfl ?_
        refine g_getf 45 C dX4_scanBuffer_42 fl_RX4_137 rfl (by omega) l1 rfl rfl ?_
        exact g_iret C dX4_scanBuffer_45 rfl ⟨by decide, by decide⟩ (by rw [scE_of (i := T.2.2.1) (f := T.2.2.2) (by rw [show T.2.2.1 = i by omega, hs1]; rfl)]; exact ⟨rfl, rfl, rfl, hk, P1, hP1, ho1, fun _ => ⟨Pc, by rw [show T.2.2.1 = i by omega]; exact hs1, he1⟩⟩)
      · skip
        refine g_aload_n 18 C dX4_scanBuffer_17 rfl rfl ?_
        refine g_getf 21 C dX4_scanBuffer_18 fl_RX4_30 rfl (by omega) l1 rfl rfl ?_
        refine g_aload_n 22 C dX4_scanBuffer_21 rfl rfl ?_
        refine g_getf 25 C dX4_scanBuffer_22 fl_RX4_23 rfl (by omega) l1 rfl rfl ?_
        refine g_iload_n 26 C dX4_scanBuffer_25 rfl rfl ?_
        refine g_iald 27 C dX4_scanBuffer_26 (by omega) lb (by omega) (by decide) rfl ?_
        rw [jbe (i : Int) (by omega) (by omega)]
        have hbf := o5 (i : Int) (by omega) (by omega)
        have hq := peq_tk (c := T.2.2.2 (i : Int)) he1 ho1
        have hst := scP_st hs1
        refine g_V1r 30 0 0 C dX4_scanBuffer_27 rfl lk_RX4_214 gi_X2_takes gv_X2_takes ⟨_, _, rfl⟩ (by omega) lP ⟨⟨by decide, by decide⟩, by decide, by decide⟩ (Nat.le_of_ble_eq_true rfl) rfl rfl rfl (c_X2_takes (x + 133) P1 (T.2.2.2 (i : Int)) (by omega) hP1 (by omega) ho1) g_no (fun h3 e27 => ?_)
        obtain ⟨hP3, hk3⟩ := e27
        refine g_if_ne 35 33 C dX4_scanBuffer_30 rfl rfl (gbi_r _) (fun c30 => ?_) (fun c30 => ?_)
        · skip
          obtain ⟨P8, hP8e⟩ := Option.isSome_iff_exists.mp (gbi_1 c30)
          rw [hP8e] at hP3 hq
          obtain ⟨Q8, hQ8e⟩ : ∃ Q8, pTk Pc (T.2.2.2 (i : Int)) = some Q8 := by
            cases e : pTk Pc (T.2.2.2 (i : Int)) with
            | none => rw [e] at hq; exact hq.elim
            | some Q8 => exact ⟨Q8, rfl⟩
          rw [hQ8e] at hq hst
          have hP8 : isP h3 (x + 133) P8 := hP3
          have ho8 := okP_tk ho1 hP8e
          have hs8 := hst
          have he8 : peq P8 Q8 := hq
          have hk8 := gKp_tr hk hk3
          refine g_iinc 38 [(1, _), (0, _)] C dX4_scanBuffer_35 rfl (by decide) rfl rfl ?_
          refine g_goto 9 C dX4_scanBuffer_38 rfl ?_
          refine g_loc [(1, _), (0, _)] ⟨rfl, rfl, trivial⟩ ?_
          exact ih9 (i + 1) _ _ _ (by omega) hk8 hP8 ho8 hs8 he8 (by omega)
        · skip
          have hno : pTk P1 (T.2.2.2 (i : Int)) = none := by
            cases e : pTk P1 (T.2.2.2 (i : Int)) with
            | none => rfl
            | some Q8 => have z := gbi_0 c30; rw [e] at z; cases z
          rw [hno] at hP3 hq
          have hno2 : pTk Pc (T.2.2.2 (i : Int)) = none := by
            cases e : pTk Pc (T.2.2.2 (i : Int)) with
            | none => rfl
            | some Q8 => rw [e] at hq; exact hq.elim
          rw [hno2] at hst
          have hE := scE_no (by rw [hs1]; rfl) hst (T.2.2.1 - i)
          rw [show i + (T.2.2.1 - i) = T.2.2.1 by omega] at hE
          refine g_iload_n 34 C dX4_scanBuffer_33 rfl rfl ?_
          exact g_iret C dX4_scanBuffer_34 rfl ⟨by decide, by decide⟩ (by rw [hE]; exact ⟨rfl, rfl, rfl, gKp_tr hk hk3, P1, hP3, ho1, fun z => absurd z (by omega)⟩)
  refine g_loc [(1, _), (0, _)] ⟨rfl, rfl, trivial⟩ ?_
  exact lp9 _ 0 h2 (0, P0.2) gP0 (Nat.zero_le _) hk2 hP2 (okP_rs jPo) rfl peq_0 (Nat.lt_succ_self _)
set_option maxRecDepth 100000 in
set_option maxHeartbeats 4000000 in
theorem c_X4_runPart {E : gEnv} {n : Nat} {σ : Option Nat} {h : gH} (x : Nat) (T : gTt) (P : gPt) (hxb : gB E ≤ x ∧ x + 524 ≤ gB E + n) (hJ : isJ E h x T) (hok : okT T) (hP : isP h (x + 133) P) (hPo : okP P)  : gM E mX4_runPart [.ref x] n σ h (gD (some (.int (gi (gbi (rpS T.1 P).isSome)))) n σ (fun h9 => isJ E h9 x ((rpS T.1 P).getD T.1, T.2) ∧ gKp (x + 1) (x + 66) h h9)) (gNo) := by
  have hJ9 := hJ
  obtain ⟨j1, j2, j3, j4, j5, j6⟩ := hJ
  obtain ⟨o1, o2, o3, o4, o5⟩ := hok
  unfold isJo at j1
  have j29 := j2
  obtain ⟨-, ⟨jkk, jk, jkf⟩, jK⟩ := j2
  have j2 := j29
  unfold isP at hP
  obtain ⟨p1, p2, p3, p4, p5, p6, p7⟩ := hPo
  have jP := hP
  have hKk := jK P.2.2.2.1 (by omega) (by omega)
  have hoK := o1 P.2.2.2.1 (by omega) (by omega)
  refine gM_of (by decide) (Nat.le_of_ble_eq_true rfl) (fun F C => ?_)
  refine g_aload_n 1 C dX4_runPart_0 rfl rfl ?_
  refine g_getf 4 C dX4_runPart_1 fl_RX4_10 rfl (by omega) j1 rfl rfl ?_
  refine g_getf 7 C dX4_runPart_4 fl_RX4_41 rfl (by omega) j2.1 rfl rfl ?_
  refine g_aload_n 8 C dX4_runPart_7 rfl rfl ?_
  refine g_getf 11 C dX4_runPart_8 fl_RX4_30 rfl (by omega) j1 rfl rfl ?_
  refine g_getf 14 C dX4_runPart_11 fl_RX4_221 rfl (by omega) jP rfl rfl ?_
  refine g_aald 15 C dX4_runPart_14 (by omega) jk rfl rfl (by omega) (by decide) (jkf (P.2.2.2.1) (by omega) (by omega)) rfl ?_
  refine g_astore_n 16 [(1, _), (0, _)] C dX4_runPart_15 (by decide) rfl rfl ?_
  refine g_aload_n 17 C dX4_runPart_16 rfl rfl ?_
  refine g_getf 20 C dX4_runPart_17 fl_RX4_30 rfl (by omega) j1 rfl rfl ?_
  refine g_getf 23 C dX4_runPart_20 fl_RX4_224 rfl (by omega) jP rfl rfl ?_
  refine g_if_ne 46 26 C dX4_runPart_23 rfl rfl (gbi_r _) (fun c23 => ?_) (fun c23 => ?_)
  · skip
    have hw := gbi_1 c23
    refine g_aload_n 47 C dX4_runPart_46 rfl rfl ?_
    refine g_aload_n 48 C dX4_runPart_47 rfl rfl ?_
    refine g_getf 51 C dX4_runPart_48 fl_RX4_30 rfl (by omega) j1 rfl rfl ?_
    refine g_getf 54 C dX4_runPart_51 fl_RX4_228 rfl (by omega) jP rfl rfl ?_
    refine g_aload_n 55 C dX4_runPart_54 rfl rfl ?_
    refine g_getf 58 C dX4_runPart_55 fl_RX4_30 rfl (by omega) j1 rfl rfl ?_
    refine g_getf 61 C dX4_runPart_58 fl_RX4_231 rfl (by omega) jP rfl rfl ?_
    refine g_V2r 64 0 0 C dX4_runPart_61 rfl lk_RX4_64 gi_X1_mayWrite gv_X1_mayWrite ⟨_, _, rfl⟩ (by omega) (jK (P.2.2.2.1) (by omega) (by omega)).1 ⟨⟨by decide, by decide⟩, by decide, by decide⟩ (Nat.le_of_ble_eq_true rfl) rfl rfl rfl (c_X1_mayWrite (x + 1 + 2 + 21 * (P.2.2.2.1 : Int).toNat) (T.1.1 P.2.2.2.1) P.2.2.1 P.2.2.2.2.1 (by omega) hKk hoK (by omega) (by omega)) g_no (fun h9 e61 => ?_)
    subst e61
    refine g_if_ne 69 67 C dX4_runPart_64 rfl rfl (gbi_r _) (fun c64 => ?_) (fun c64 => ?_)
    · skip
      have hm := of_decide_eq_true (gbi_1 c64)
      have er : rpS T.1 P = some (sRep T.1 P.2.2.1 P.2.2.2.1 P.2.2.2.2.1 P.2.2.2.2.2) := by unfold rpS; rw [if_neg (show ¬ P.2.1 = false by rw [hw]; decide), if_pos hm]
      refine g_aload_n 70 C dX4_runPart_69 rfl rfl ?_
      refine g_getf 73 C dX4_runPart_70 fl_RX4_10 rfl (by omega) j1 rfl rfl ?_
      refine g_aload_n 74 C dX4_runPart_73 rfl rfl ?_
      refine g_getf 77 C dX4_runPart_74 fl_RX4_30 rfl (by omega) j1 rfl rfl ?_
      refine g_getf 80 C dX4_runPart_77 fl_RX4_228 rfl (by omega) jP rfl rfl ?_
      refine g_aload_n 81 C dX4_runPart_80 rfl rfl ?_
      refine g_getf 84 C dX4_runPart_81 fl_RX4_30 rfl (by omega) j1 rfl rfl ?_
      refine g_getf 87 C dX4_runPart_84 fl_RX4_221 rfl (by omega) jP rfl rfl ?_
      refine g_aload_n 88 C dX4_runPart_87 rfl rfl ?_
      refine g_getf 91 C dX4_runPart_88 fl_RX4_30 rfl (by omega) j1 rfl rfl ?_
      refine g_getf 94 C dX4_runPart_91 fl_RX4_231 rfl (by omega) jP rfl rfl ?_
      refine g_aload_n 95 C dX4_runPart_94 rfl rfl ?_
      refine g_getf 98 C dX4_runPart_95 fl_RX4_30 rfl (by omega) j1 rfl rfl ?_
      refine g_getf 101 C dX4_runPart_98 fl_RX4_234 rfl (by omega) jP rfl rfl ?_
      refine g_V4r 104 0 0 C dX4_runPart_101 rfl lk_RX4_75 gi_X3_replace gv_X3_replace ⟨_, _, rfl⟩ (by omega) j2.1 ⟨⟨by decide, by decide⟩, by decide, by decide⟩ (Nat.le_of_ble_eq_true rfl) rfl rfl rfl (c_X3_replace (x + 1) T.1 P.2.2.1 P.2.2.2.1 P.2.2.2.2.1 P.2.2.2.2.2 (by omega) j2 o1 (by omega) (by omega) (by omega) hm.1) g_no (fun h2 e101 => ?_)
      obtain ⟨hS2, hk2⟩ := e101
      refine g_pop 105 C dX4_runPart_104 rfl rfl ?_
      refine g_iconst 106 C dX4_runPart_105 rfl ?_
      exact g_zret C dX4_runPart_106 rfl rfl ⟨by decide, by decide⟩ (by rw [er]; exact ⟨rfl, rfl, rfl, hJ9.setS hS2 (gKp_wd hk2 (by omega) (by omega)), gKp_wd hk2 (by omega) (by omega)⟩)
    · skip
      have hm := of_decide_eq_false (gbi_0 c64)
      have er : rpS T.1 P = none := by unfold rpS; rw [if_neg (show ¬ P.2.1 = false by rw [hw]; decide), if_neg hm]
      refine g_iconst 68 C dX4_runPart_67 rfl ?_
      exact g_zret C dX4_runPart_68 rfl rfl ⟨by decide, by decide⟩ (by rw [er]; exact ⟨rfl, rfl, rfl, hJ9, gKp_rf⟩)
  · skip
    have hw := gbi_0 c23
    refine g_aload_n 27 C dX4_runPart_26 rfl rfl ?_
    refine g_aload_n 28 C dX4_runPart_27 rfl rfl ?_
    refine g_getf 31 C dX4_runPart_28 fl_RX4_30 rfl (by omega) j1 rfl rfl ?_
    refine g_getf 34 C dX4_runPart_31 fl_RX4_228 rfl (by omega) jP rfl rfl ?_
    refine g_aload_n 35 C dX4_runPart_34 rfl rfl ?_
    refine g_getf 38 C dX4_runPart_35 fl_RX4_30 rfl (by omega) j1 rfl rfl ?_
    refine g_getf 41 C dX4_runPart_38 fl_RX4_231 rfl (by omega) jP rfl rfl ?_
    refine g_V2v 44 0 0 C dX4_runPart_41 rfl lk_RX4_45 gi_X1_learn gv_X1_learn ⟨_, _, rfl⟩ (by omega) (jK (P.2.2.2.1) (by omega) (by omega)).1 ⟨⟨by decide, by decide⟩, by decide, by decide⟩ (Nat.le_of_ble_eq_true rfl) rfl rfl rfl (c_X1_learn (x + 1 + 2 + 21 * (P.2.2.2.1 : Int).toNat) (T.1.1 P.2.2.2.1) P.2.2.1 P.2.2.2.2.1 (by omega) hKk hoK (by omega) (by omega)) g_no (fun h2 e41 => ?_)
    obtain ⟨hc2, hk2⟩ := e41
    have hS2 := j2.setK (k := P.2.2.2.1) (by omega) (by omega) hc2 hk2
    have er : rpS T.1 P = some (gup T.1.1 P.2.2.2.1 (kLearn (T.1.1 P.2.2.2.1) P.2.2.1 P.2.2.2.2.1), T.1.2) := if_pos hw
    refine g_iconst 45 C dX4_runPart_44 rfl ?_
    exact g_zret C dX4_runPart_45 rfl rfl ⟨by decide, by decide⟩ (by rw [er]; exact ⟨rfl, rfl, rfl, hJ9.setS hS2 (gKp_wd hk2 (by omega) (by omega)), gKp_wd hk2 (by omega) (by omega)⟩)
set_option maxRecDepth 100000 in
set_option maxHeartbeats 4000000 in
theorem c_X4_runParts {E : gEnv} {n : Nat} {σ : Option Nat} {h : gH} (x : Nat) (T : gTt) (P : gPt) (hxb : gB E ≤ x ∧ x + 524 ≤ gB E + n) (hJ : isJ E h x T) (hok : okT T) (hP : isP h (x + 133) P) (hPo : okP P)  : gM E mX4_runParts [.ref x] n σ h (gD (some (.int (gi ((runL T.1 (rsP T.2.2.2 (0, P.2) 0 T.2.2.1)).1 : Nat)))) n σ (fun h9 => isJ E h9 x ((runL T.1 (rsP T.2.2.2 (0, P.2) 0 T.2.2.1)).2, T.2) ∧ okS (runL T.1 (rsP T.2.2.2 (0, P.2) 0 T.2.2.1)).2 ∧ gKp x (x + 524) h h9)) (gNo) := by
  have hJ9 := hJ
  obtain ⟨j1, j2, j3, j4, j5, j6⟩ := hJ
  obtain ⟨o1, o2, o3, o4, o5⟩ := hok
  unfold isJo at j1
  obtain ⟨b, jb, jbe⟩ := j5
  have jP := hP
  unfold isP at jP
  refine gM_of (by decide) (Nat.le_of_ble_eq_true rfl) (fun F C => ?_)
  refine g_aload_n 1 C dX4_runParts_0 rfl rfl ?_
  refine g_getf 4 C dX4_runParts_1 fl_RX4_30 rfl (by omega) j1 rfl rfl ?_
  refine g_V0v 7 0 0 C dX4_runParts_4 rfl lk_RX4_211 gi_X2_restart gv_X2_restart ⟨_, _, rfl⟩ (by omega) jP ⟨⟨by decide, by decide⟩, by decide, by decide⟩ (Nat.le_of_ble_eq_true rfl) rfl rfl rfl (c_X2_restart (x + 133) P (by omega) hP) g_no (fun h2 e4 => ?_)
  obtain ⟨hP2, hk2⟩ := e4
  refine g_iconst 8 C dX4_runParts_7 rfl ?_
  refine g_istore_n 9 [(1, _), (0, _)] C dX4_runParts_8 (by decide) rfl rfl ?_
  refine g_iconst 10 C dX4_runParts_9 rfl ?_
  refine g_istore_n 11 [(2, _), (1, _), (0, _)] C dX4_runParts_10 (by decide) rfl rfl ?_
  have lp11 : ∀ (k9 : Nat) (i d : Nat) (h1 : gH) (P1 : gPt) (S1 : gSt), (i ≤ T.2.2.1) → ((runL T.1 (rsP T.2.2.2 (0, P.2) 0 T.2.2.1)) = (d + (runL S1 (rsP T.2.2.2 P1 i (T.2.2.1 - i))).1, (runL S1 (rsP T.2.2.2 P1 i (T.2.2.1 - i))).2)) → (gKp x (x + 524) h h1) → (isP h1 (x + 133) P1) → (okP P1) → (isJ E h1 x (S1, T.2)) → (okS S1) → T.2.2.1 - i < k9 → G E F mX4_runParts (gQ E F mX4_runParts n (gD (some (.int (gi ((runL T.1 (rsP T.2.2.2 (0, P.2) 0 T.2.2.1)).1 : Nat)))) n σ (fun h9 => isJ E h9 x ((runL T.1 (rsP T.2.2.2 (0, P.2) 0 T.2.2.1)).2, T.2) ∧ okS (runL T.1 (rsP T.2.2.2 (0, P.2) 0 T.2.2.1)).2 ∧ gKp x (x + 524) h h9)) (gNo)) n σ h1 0 0 11 [(2, .int (gi (i : Int))), (1, .int (gi (d : Int))), (0, .ref x)] [] := by
    intro k9
    induction k9 with
    | zero => intro i d h1 P1 S1 hi hd hk hP1 ho1 hJ1 hoS h0; exact absurd h0 (Nat.not_lt_zero _)
    | succ k9 ih11 =>
      intro i d h1 P1 S1 hi hd hk hP1 ho1 hJ1 hoS hk11
      have hJ19 := hJ1
      obtain ⟨l1, l2, l3, l4, l5, l6⟩ := hJ1
      obtain ⟨b1, lb, lbe⟩ := l5
      dsimp only at l1 lbe
      unfold isJo at l1
      have lP := hP1
      unfold isP at lP
      have hoT : okT (S1, T.2) := ⟨hoS, o2, o3, o4, o5⟩
      refine g_iload_n 12 C dX4_runParts_11 rfl rfl ?_
      refine g_aload_n 13 C dX4_runParts_12 rfl rfl ?_
      refine g_getf 16 C dX4_runParts_13 fl_RX4_137 rfl (by omega) l1 rfl rfl ?_
      refine g_icmp_ge 62 19 C dX4_runParts_16 rfl rfl (by omega) (by omega) (fun c16 => ?_) (fun c16 => ?_)
      · skip
        have hib : T.2.2.1 - i = 0 := by omega
        rw [hib] at hd
        refine g_aload_n 63 C dX4_runParts_62 rfl rfl ?_
        refine g_V0r 66 0 0 C dX4_runParts_63 rfl lk_RX4_218 gi_X4_runPart gv_X4_runPart ⟨_, _, rfl⟩ (by omega) l1 ⟨⟨by decide, by decide⟩, by decide, by decide⟩ (Nat.le_of_ble_eq_true rfl) rfl rfl rfl (c_X4_runPart x (S1, T.2) P1 hxb hJ19 hoT hP1 ho1) g_no (fun h3 e63 => ?_)
        obtain ⟨hJ3, hk3⟩ := e63
        dsimp only at hJ3
        refine g_if_eq 75 69 C dX4_runParts_66 rfl rfl (gbi_r _) (fun c66 => ?_) (fun c66 => ?_)
        · skip
          have hno : rpS S1 P1 = none := by
            cases e : rpS S1 P1 with
            | none => rfl
            | some Q8 => have z := gbi_0 c66; rw [show (rpS (S1, T.2).1 P1) = some Q8 from e] at z; cases z
          rw [show rsP T.2.2.2 P1 i 0 = [P1] from rfl, runL_no hno] at hd
          rw [hno] at hJ3
          have hoS2 := hoS
          refine g_iload_n 76 C dX4_runParts_75 rfl rfl ?_
          exact g_iret C dX4_runParts_76 rfl ⟨by decide, by decide⟩ (by rw [hd]; exact ⟨rfl, rfl, rfl, hJ3, hoS2, gKp_tr hk (gKp_wd hk3 (by omega) (by omega))⟩)
        · skip
          obtain ⟨S2, hS2e⟩ := Option.isSome_iff_exists.mp (gbi_1 c66)
          rw [show rsP T.2.2.2 P1 i 0 = [P1] from rfl, runL_so hS2e] at hd
          rw [hS2e] at hJ3
          have hoS2 := okS_rp hoS ho1 hS2e
          refine g_iload_n 70 C dX4_runParts_69 rfl rfl ?_
          refine g_iconst 71 C dX4_runParts_70 rfl ?_
          refine g_iadd 72 C dX4_runParts_71 rfl ?_
          refine g_goto 76 C dX4_runParts_72 rfl ?_
          exact g_iret C dX4_runParts_76 rfl ⟨by decide, by decide⟩ (by rw [hd]; exact ⟨rfl, rfl, rfl, hJ3, hoS2, gKp_tr hk (gKp_wd hk3 (by omega) (by omega))⟩)
      · skip
        have hib : T.2.2.1 - i = (T.2.2.1 - (i + 1)) + 1 := by omega
        rw [hib] at hd
        have hbf := o5 (i : Int) (by omega) (by omega)
        refine g_aload_n 20 C dX4_runParts_19 rfl rfl ?_
        refine g_getf 23 C dX4_runParts_20 fl_RX4_23 rfl (by omega) l1 rfl rfl ?_
        refine g_iload_n 24 C dX4_runParts_23 rfl rfl ?_
        refine g_iald 25 C dX4_runParts_24 (by omega) lb (by omega) (by decide) rfl ?_
        rw [lbe (i : Int) (by omega) (by omega)]
        refine g_bipush 27 C dX4_runParts_25 (by decide) rfl ?_
        refine g_icmp_ne 42 30 C dX4_runParts_27 rfl rfl (by omega) (by omega) (fun c27 => ?_) (fun c27 => ?_)
        · skip
          rw [rsP_n c27] at hd
          have hJ2 := hJ19
          have hP2 := hP1
          have hoS2 := hoS
          have hk2 := hk
          have m1 := l1
          have mb := lb
          have mP := lP
          obtain ⟨d8, hd89, hd8⟩ : ∃ d8 : Nat, some (Value.int (gi (d : Int))) = some (.int (gi (d8 : Int))) ∧ (runL T.1 (rsP T.2.2.2 (0, P.2) 0 T.2.2.1)) = (d8 + (runL S1 (rsP T.2.2.2 ((pTk P1 (T.2.2.2 (i : Int))).getD P1) (i + 1) (T.2.2.1 - (i + 1)))).1, (runL S1 (rsP T.2.2.2 ((pTk P1 (T.2.2.2 (i : Int))).getD P1) (i + 1) (T.2.2.1 - (i + 1)))).2) := ⟨d, rfl, hd⟩
          refine g_aload_n 43 C dX4_runParts_42 rfl rfl ?_
          refine g_getf 46 C dX4_runParts_43 fl_RX4_30 rfl (by omega) m1 rfl rfl ?_
          refine g_aload_n 47 C dX4_runParts_46 rfl rfl ?_
          refine g_getf 50 C dX4_runParts_47 fl_RX4_23 rfl (by omega) m1 rfl rfl ?_
          refine g_iload_n 51 C dX4_runParts_50 rfl rfl ?_
          refine g_iald 52 C dX4_runParts_51 (by omega) mb (by omega) (by decide) rfl ?_
          rw [lbe (i : Int) (by omega) (by omega)]
          refine g_V1r 55 0 0 C dX4_runParts_52 rfl lk_RX4_214 gi_X2_takes gv_X2_takes ⟨_, _, rfl⟩ (by omega) mP ⟨⟨by decide, by decide⟩, by decide, by decide⟩ (Nat.le_of_ble_eq_true rfl) rfl rfl rfl (c_X2_takes (x + 133) P1 (T.2.2.2 (i : Int)) (by omega) hP2 (by omega) ho1) g_no (fun h4 e52 => ?_)
          obtain ⟨hP8, hk4⟩ := e52
          have ho8 : okP ((pTk P1 (T.2.2.2 (i : Int))).getD P1) := by
            cases e : pTk P1 (T.2.2.2 (i : Int)) with
            | none => exact ho1
            | some Q => exact okP_tk ho1 e
          have hJ8 := hJ2.setP hP8 ho8 hk4
          have hoS8 := hoS2
          have hk8 := gKp_tr hk2 (gKp_wd hk4 (by omega) (by omega))
          refine g_pop 56 C dX4_runParts_55 rfl rfl ?_
          refine g_iinc 59 [(2, _), (1, _), (0, _)] C dX4_runParts_56 rfl (by decide) rfl rfl ?_
          refine g_goto 11 C dX4_runParts_59 rfl ?_
          refine g_loc [(2, _), (1, .int (gi (d8 : Int))), (0, _)] ⟨rfl, hd89, rfl, trivial⟩ ?_
          exact ih11 (i + 1) d8 _ _ _ (by omega) hd8 hk8 hP8 ho8 hJ8 hoS8 (by omega)
        · skip
          rw [rsP_y c27] at hd
          refine g_aload_n 31 C dX4_runParts_30 rfl rfl ?_
          refine g_V0r 34 0 0 C dX4_runParts_31 rfl lk_RX4_218 gi_X4_runPart gv_X4_runPart ⟨_, _, rfl⟩ (by omega) l1 ⟨⟨by decide, by decide⟩, by decide, by decide⟩ (Nat.le_of_ble_eq_true rfl) rfl rfl rfl (c_X4_runPart x (S1, T.2) P1 hxb hJ19 hoT hP1 ho1) g_no (fun h3 e31 => ?_)
          obtain ⟨hJ3, hk3⟩ := e31
          dsimp only at hJ3
          refine g_if_ne 39 37 C dX4_runParts_34 rfl rfl (gbi_r _) (fun c34 => ?_) (fun c34 => ?_)
          · skip
            obtain ⟨S2, hS2e⟩ := Option.isSome_iff_exists.mp (gbi_1 c34)
            rw [runL_so hS2e] at hd
            rw [hS2e] at hJ3
            have hJ2 : isJ E h3 x (S2, T.2) := hJ3
            have hP2 : isP h3 (x + 133) P1 := (hk3 _ (by omega)).trans hP1
            have hoS2 := okS_rp hoS ho1 hS2e
            have hk2 := gKp_tr hk (gKp_wd hk3 (by omega) (by omega))
            have m1 := (hk3 x (by omega)).trans l1
            have mb := (hk3 (x + 132) (by omega)).trans lb
            have mP := (hk3 _ (by omega)).trans lP
            obtain ⟨d8, hd89, hd8⟩ : ∃ d8 : Nat, some (Value.int (gi ((d : Int) + 1))) = some (.int (gi (d8 : Int))) ∧ (runL T.1 (rsP T.2.2.2 (0, P.2) 0 T.2.2.1)) = (d8 + (runL S2 (rsP T.2.2.2 ((pTk P1 (T.2.2.2 (i : Int))).getD P1) (i + 1) (T.2.2.1 - (i + 1)))).1, (runL S2 (rsP T.2.2.2 ((pTk P1 (T.2.2.2 (i : Int))).getD P1) (i + 1) (T.2.2.1 - (i + 1)))).2) := ⟨d + 1, rfl, by rw [hd]; dsimp only; congr 1; omega⟩
            refine g_iinc 42 [(1, _), (2, _), (0, _)] C dX4_runParts_39 rfl (by decide) rfl rfl ?_
            refine g_aload_n 43 C dX4_runParts_42 rfl rfl ?_
            refine g_getf 46 C dX4_runParts_43 fl_RX4_30 rfl (by omega) m1 rfl rfl ?_
            refine g_aload_n 47 C dX4_runParts_46 rfl rfl ?_
            refine g_getf 50 C dX4_runParts_47 fl_RX4_23 rfl (by omega) m1 rfl rfl ?_
            refine g_iload_n 51 C dX4_runParts_50 rfl rfl ?_
            refine g_iald 52 C dX4_runParts_51 (by omega) mb (by omega) (by decide) rfl ?_
            rw [lbe (i : Int) (by omega) (by omega)]
            refine g_V1r 55 0 0 C dX4_runParts_52 rfl lk_RX4_214 gi_X2_takes gv_X2_takes ⟨_, _, rfl⟩ (by omega) mP ⟨⟨by decide, by decide⟩, by decide, by decide⟩ (Nat.le_of_ble_eq_true rfl) rfl rfl rfl (c_X2_takes (x + 133) P1 (T.2.2.2 (i : Int)) (by omega) hP2 (by omega) ho1) g_no (fun h4 e52 => ?_)
            obtain ⟨hP8, hk4⟩ := e52
            have ho8 : okP ((pTk P1 (T.2.2.2 (i : Int))).getD P1) := by
              cases e : pTk P1 (T.2.2.2 (i : Int)) with
              | none => exact ho1
              | some Q => exact okP_tk ho1 e
            have hJ8 := hJ2.setP hP8 ho8 hk4
            have hoS8 := hoS2
            have hk8 := gKp_tr hk2 (gKp_wd hk4 (by omega) (by omega))
            refine g_pop 56 C dX4_runParts_55 rfl rfl ?_
            refine g_iinc 59 [(2, _), (1, _), (0, _)] C dX4_runParts_56 rfl (by decide) rfl rfl ?_
            refine g_goto 11 C dX4_runParts_59 rfl ?_
            refine g_loc [(2, _), (1, .int (gi (d8 : Int))), (0, _)] ⟨rfl, hd89, rfl, trivial⟩ ?_
            exact ih11 (i + 1) d8 _ _ _ (by omega) hd8 hk8 hP8 ho8 hJ8 hoS8 (by omega)
          · skip
            have hno : rpS S1 P1 = none := by
              cases e : rpS S1 P1 with
              | none => rfl
              | some Q8 => have z := gbi_0 c34; rw [show (rpS (S1, T.2).1 P1) = some Q8 from e] at z; cases z
            rw [runL_no hno] at hd
            rw [hno] at hJ3
            refine g_iload_n 38 C dX4_runParts_37 rfl rfl ?_
            exact g_iret C dX4_runParts_38 rfl ⟨by decide, by decide⟩ (by rw [hd]; exact ⟨rfl, rfl, rfl, hJ3, hoS, gKp_tr hk (gKp_wd hk3 (by omega) (by omega))⟩)
  refine g_loc [(2, _), (1, _), (0, _)] ⟨rfl, rfl, rfl, trivial⟩ ?_
  exact lp11 _ 0 0 h2 (0, P.2) T.1 (Nat.zero_le _) (by rw [Nat.sub_zero, Nat.zero_add]) (gKp_wd hk2 (by omega) (by omega)) hP2 (okP_rs hPo) (hJ9.setP hP2 (okP_rs hPo) hk2) o1 (Nat.lt_succ_self _)
