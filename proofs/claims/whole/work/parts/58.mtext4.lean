/-! SiblingJoinsModel: one part of a text is taken -/
/-- from the i-th character on, d characters at most: as far as the part goes -/
def wk (f : Int → Int) : Nat → Nat → gPt → Nat × gPt
  | 0, i, P => (i, P)
  | d + 1, i, P => if f (i : Int) = 59 then (i, P) else match pTk P (f (i : Int)) with
    | none => (i, P)
    | some P' => wk f d (i + 1) P'
/-- whether a part is whole -/
def wh (R : Nat × gPt) : Bool := decide (pLen R.2.2.1 ≤ (R.2.1 : Int))
theorem wk_y {f : Int → Int} {N i : Nat} {P P' : gPt} (hi : i < N) (h1 : f (i : Int) ≠ 59) (h2 : pTk P (f (i : Int)) = some P') : wk f (N - i) i P = wk f (N - (i + 1)) (i + 1) P' := by
  rw [show N - i = (N - (i + 1)) + 1 by omega]
  conv => lhs; unfold wk
  rw [if_neg h1, h2]
theorem wk_n {f : Int → Int} {N i : Nat} {P : gPt} (h : i < N → f (i : Int) = 59 ∨ pTk P (f (i : Int)) = none) : wk f (N - i) i P = (i, P) := by
  by_cases hi : i < N
  · rw [show N - i = (N - (i + 1)) + 1 by omega]
    unfold wk
    rcases h hi with z | z
    · rw [if_pos z]
    · by_cases y : f (i : Int) = 59
      · rw [if_pos y]
      · rw [if_neg y, z]
  · rw [show N - i = 0 by omega]
    rfl
/-- the model in the midst of a part, at the j-th character -/
def tSt (E : gEnv) (h0 : gH) (m : Nat) (g0 : Int → Int) (hs : Int64) (ft fo0 : Int → Int) (N p i0 : Nat) (Q0 : gPt) (h : gH) (g fo : Int → Int) (j : Nat) (P : gPt) : Prop :=
  isMo h m g hs ∧ h (m + 6) = gI E 60 fo ∧ (∀ x9 : Nat, x9 ≠ m → x9 ≠ m + 6 → h x9 = h0 x9) ∧ (∀ j9 : Int, j9 ≠ 11 → j9 ≠ 12 → g j9 = g0 j9) ∧ g 11 = (j : Int) ∧ j ≤ N ∧ wk ft (N - i0) i0 Q0 = wk ft (N - j) j P ∧ fKp (5 * (p : Int)) 5 fo0 fo
def tFin (E : gEnv) (h0 : gH) (m : Nat) (g0 : Int → Int) (hs : Int64) (fo0 : Int → Int) (N p : Nat) (R : Nat × gPt) (h9 : gH) : Prop :=
  ∃ g9 fo9 : Int → Int, isMo h9 m g9 hs ∧ h9 (m + 6) = gI E 60 fo9 ∧ (∀ x9 : Nat, x9 ≠ m → x9 ≠ m + 6 → h9 x9 = h0 x9) ∧ (∀ j9 : Int, j9 ≠ 11 → j9 ≠ 12 → g9 j9 = g0 j9) ∧ g9 11 = (R.1 : Int) ∧ R.1 ≤ N ∧ fKp (5 * (p : Int)) 5 fo0 fo9 ∧ (wh R = true → isTd fo9 p R.2) ∧ (wh R = false → g9 12 = gbi (decide (R.1 < N)))
section
variable {E : gEnv} {h0 h h9 : gH} {m N p i0 j : Nat} {g0 g ft fo0 fo : Int → Int} {hs : Int64} {Q0 P P' : gPt}
theorem tSt.tx (S : tSt E h0 m g0 hs ft fo0 N p i0 Q0 h g fo j P) (x : h0 (m + 4) = gI E 60 ft) : h (m + 4) = gI E 60 ft := (S.2.2.1 _ (by omega) (by omega)).trans x
theorem tSt.g5 (S : tSt E h0 m g0 hs ft fo0 N p i0 Q0 h g fo j P) (hN : g0 5 = (N : Int)) : g 5 = (N : Int) := (S.2.2.2.1 5 (by decide) (by decide)).trans hN
theorem tSt.g14 (S : tSt E h0 m g0 hs ft fo0 N p i0 Q0 h g fo j P) (hp : g0 14 = (p : Int)) : g 14 = (p : Int) := (S.2.2.2.1 14 (by decide) (by decide)).trans hp
theorem tSt.G (S : tSt E h0 m g0 hs ft fo0 N p i0 Q0 h g fo j P) (hN : g0 5 = (N : Int)) (hG : okG g0 ft) : okG g ft := by
  obtain ⟨-, -, b3, b4⟩ := hG
  rw [hN] at b3 b4
  refine ⟨?_, ?_, ?_, ?_⟩
  · rw [S.2.2.2.2.1]; omega
  · rw [S.2.2.2.2.1, S.g5 hN]; have z := S.2.2.2.2.2.1; omega
  · rw [S.g5 hN]; exact b3
  · rw [S.g5 hN]; exact b4
theorem tSt.at1 (S : tSt E h0 m g0 hs ft fo0 N p i0 Q0 h g fo j P) (hN : g0 5 = (N : Int)) {a b : Int} (e : isAtB g ft a b = true) : j < N ∧ a ≤ ft (j : Int) ∧ ft (j : Int) ≤ b := by
  have z := of_decide_eq_true e
  rw [S.2.2.2.2.1, S.g5 hN] at z
  omega
theorem tSt.at0 (S : tSt E h0 m g0 hs ft fo0 N p i0 Q0 h g fo j P) (hN : g0 5 = (N : Int)) {a b : Int} (e : isAtB g ft a b = false) (hj : j < N) : ¬ (a ≤ ft (j : Int) ∧ ft (j : Int) ≤ b) := by
  have z := of_decide_eq_false e
  rw [S.2.2.2.2.1, S.g5 hN] at z
  omega
theorem tSt.yes (S : tSt E h0 m g0 hs ft fo0 N p i0 Q0 h g fo j P) {b : Bool} (e : isMo h9 m (gup g 11 (g 11 + gbi b)) hs ∧ gKp m (m + 1) h h9) (eb : b = true) (hj : j < N) (h1 : ft (j : Int) ≠ 59) (h2 : pTk P (ft (j : Int)) = some P') : ∃ g9 : Int → Int, tSt E h0 m g0 hs ft fo0 N p i0 Q0 h9 g9 fo (j + 1) P' := by
  obtain ⟨s1, s2, s3, s4, s5, s6, s7, s8⟩ := S
  subst eb
  refine ⟨_, e.1, (e.2 _ (by omega)).trans s2, fun x9 z1 z2 => (e.2 _ (by omega)).trans (s3 x9 z1 z2), fun j9 z1 z2 => (gup_ne z1).trans (s4 j9 z1 z2), ?_, hj, s7.trans (wk_y hj h1 h2), s8⟩
  rw [gup_at, s5]
  show (j : Int) + 1 = ((j + 1 : Nat) : Int)
  omega
theorem tSt.no (S : tSt E h0 m g0 hs ft fo0 N p i0 Q0 h g fo j P) {b : Bool} (e : isMo h9 m (gup g 11 (g 11 + gbi b)) hs ∧ gKp m (m + 1) h h9) (eb : b = false) : ∃ g9 : Int → Int, tSt E h0 m g0 hs ft fo0 N p i0 Q0 h9 g9 fo j P := by
  obtain ⟨s1, s2, s3, s4, s5, s6, s7, s8⟩ := S
  subst eb
  refine ⟨_, e.1, (e.2 _ (by omega)).trans s2, fun x9 z1 z2 => (e.2 _ (by omega)).trans (s3 x9 z1 z2), fun j9 z1 z2 => (gup_ne z1).trans (s4 j9 z1 z2), ?_, s6, s7, s8⟩
  rw [gup_at, s5]
  show (j : Int) + 0 = (j : Int)
  omega
theorem tSt.part (S : tSt E h0 m g0 hs ft fo0 N p i0 Q0 h g fo j P) (hp : g0 14 = (p : Int)) {part : Int} (hpr : 0 ≤ part ∧ part < 5) {c : Prop} [Decidable c] {Z : Prop} (e : if c then (isMo h9 m (gup g 11 (g 11 + 1)) hs ∧ h9 (m + 6) = gI E 60 (gup fo (5 * g 14 + part) (ft (g 11) - 48)) ∧ ∀ x9 : Nat, x9 ≠ m → x9 ≠ m + 6 → h9 x9 = h x9) else Z) (ec : c) (hj : j < N) (h1 : ft (j : Int) ≠ 59) (h2 : pTk P (ft (j : Int)) = some P') : ∃ g9 : Int → Int, tSt E h0 m g0 hs ft fo0 N p i0 Q0 h9 g9 (gup fo (5 * (p : Int) + part) (ft (j : Int) - 48)) (j + 1) P' := by
  have e14 := S.g14 hp
  obtain ⟨s1, s2, s3, s4, s5, s6, s7, s8⟩ := S
  rw [if_pos ec] at e
  obtain ⟨e1, e2, e3⟩ := e
  rw [e14, s5] at e2
  refine ⟨_, e1, e2, fun x9 z1 z2 => (e3 _ z1 z2).trans (s3 x9 z1 z2), fun j9 z1 z2 => (gup_ne z1).trans (s4 j9 z1 z2), ?_, hj, s7.trans (wk_y hj h1 h2), fKp_tr s8 (fKp_up (by omega))⟩
  rw [gup_at, s5]
  show (j : Int) + 1 = ((j + 1 : Nat) : Int)
  omega
theorem tSt.put (S : tSt E h0 m g0 hs ft fo0 N p i0 Q0 h g fo j P) {q v : Int} (hq : 5 * (p : Int) ≤ q ∧ q < 5 * (p : Int) + 5) : tSt E h0 m g0 hs ft fo0 N p i0 Q0 (va_up h (m + 6) (gI E 60 (gup fo q v))) g (gup fo q v) j P := by
  obtain ⟨s1, s2, s3, s4, s5, s6, s7, s8⟩ := S
  exact ⟨(up_n (by omega)).trans s1, up_s, fun x9 z1 z2 => (up_n z2).trans (s3 x9 z1 z2), s4, s5, s6, s7, fKp_tr s8 (fKp_up hq)⟩
theorem tSt.stop (S : tSt E h0 m g0 hs ft fo0 N p i0 Q0 h g fo j P) (hN : g0 5 = (N : Int)) (e : isMo h9 m (gup g 12 (gbi (decide (g 11 < g 5)))) hs ∧ gKp m (m + 1) h h9) (hn : j < N → ft (j : Int) = 59 ∨ pTk P (ft (j : Int)) = none) (hw : wh (j, P) = false) : wh (wk ft (N - i0) i0 Q0) = false ∧ tFin E h0 m g0 hs fo0 N p (wk ft (N - i0) i0 Q0) h9 := by
  have g5 := S.g5 hN
  obtain ⟨s1, s2, s3, s4, s5, s6, s7, s8⟩ := S
  rw [s7, wk_n hn]
  refine ⟨hw, _, _, e.1, (e.2 _ (by omega)).trans s2, fun x9 z1 z2 => (e.2 _ (by omega)).trans (s3 x9 z1 z2), fun j9 z1 z2 => (gup_ne z2).trans (s4 j9 z1 z2), (gup_ne (by decide)).trans s5, s6, s8, fun z => ?_, fun _ => ?_⟩
  · rw [hw] at z
    cases z
  · rw [gup_at, s5, g5]
    show gbi _ = gbi _
    congr 1
    apply decide_eq_decide.mpr
    show (j : Int) < (N : Int) ↔ j < N
    omega
theorem tSt.stopP (S : tSt E h0 m g0 hs ft fo0 N p i0 Q0 h g fo j P) (hN : g0 5 = (N : Int)) {c : Prop} [Decidable c] {Z : Prop} (e : if c then Z else (isMo h9 m (gup g 12 (gbi (decide (g 11 < g 5)))) hs ∧ gKp m (m + 1) h h9)) (ec : ¬ c) (hn : j < N → ft (j : Int) = 59 ∨ pTk P (ft (j : Int)) = none) (hw : wh (j, P) = false) : wh (wk ft (N - i0) i0 Q0) = false ∧ tFin E h0 m g0 hs fo0 N p (wk ft (N - i0) i0 Q0) h9 := by
  rw [if_neg ec] at e
  exact S.stop hN e hn hw
theorem tSt.done (S : tSt E h0 m g0 hs ft fo0 N p i0 Q0 h g fo j P) (hn : j < N → ft (j : Int) = 59 ∨ pTk P (ft (j : Int)) = none) (hw : wh (j, P) = true) (hT : isTd fo p P) : wh (wk ft (N - i0) i0 Q0) = true ∧ tFin E h0 m g0 hs fo0 N p (wk ft (N - i0) i0 Q0) h := by
  obtain ⟨s1, s2, s3, s4, s5, s6, s7, s8⟩ := S
  rw [s7, wk_n hn]
  refine ⟨hw, _, _, s1, s2, s3, s4, s5, s6, s8, fun _ => hT, fun z => ?_⟩
  rw [hw] at z
  cases z
end
theorem isTd_r {fo : Int → Int} {p w k s : Int} {P : gPt} (e1 : P.2.1 = false) (e2 : P.2.2.1 = w) (e3 : P.2.2.2.1 = k) (e4 : P.2.2.2.2.1 = s) : isTd (gup (gup (gup (gup fo (5 * p) 0) (5 * p + 1) w) (5 * p + 2) k) (5 * p + 3) s) p P := by
  unfold isTd
  rw [e1, e2, e3, e4]
  refine ⟨(gup_ne (by omega)).trans ((gup_ne (by omega)).trans ((gup_ne (by omega)).trans gup_at)), (gup_ne (by omega)).trans ((gup_ne (by omega)).trans gup_at), (gup_ne (by omega)).trans gup_at, gup_at, fun z => by cases z⟩
theorem isTd_w {fo : Int → Int} {p w k s v : Int} {P : gPt} (e1 : P.2.1 = true) (e2 : P.2.2.1 = w) (e3 : P.2.2.2.1 = k) (e4 : P.2.2.2.2.1 = s) (e5 : P.2.2.2.2.2 = v) : isTd (gup (gup (gup (gup (gup fo (5 * p) 1) (5 * p + 1) w) (5 * p + 2) k) (5 * p + 3) s) (5 * p + 4) v) p P := by
  unfold isTd
  rw [e1, e2, e3, e4, e5]
  refine ⟨(gup_ne (by omega)).trans ((gup_ne (by omega)).trans ((gup_ne (by omega)).trans ((gup_ne (by omega)).trans gup_at))), (gup_ne (by omega)).trans ((gup_ne (by omega)).trans ((gup_ne (by omega)).trans gup_at)), (gup_ne (by omega)).trans ((gup_ne (by omega)).trans gup_at), (gup_ne (by omega)).trans gup_at, fun _ => gup_at⟩
theorem tSt.val {E : gEnv} {h0 h h9 : gH} {m N p i0 j : Nat} {g0 g ft fo0 fo : Int → Int} {hs : Int64} {Q0 : gPt} {w k s v : Int} (S : tSt E h0 m g0 hs ft fo0 N p i0 Q0 h g (gup (gup (gup (gup fo (5 * (p : Int)) 1) (5 * (p : Int) + 1) w) (5 * (p : Int) + 2) k) (5 * (p : Int) + 3) s) j (7, true, w, k, s, v)) (hp : g0 14 = (p : Int)) (hN : g0 5 = (N : Int)) {Z : Prop} (e : if isAtB g ft 48 57 = true then (isMo h9 m (gup g 11 (vAt g ft)) hs ∧ h9 (m + 6) = gI E 60 (gup (gup (gup (gup (gup fo (5 * (p : Int)) 1) (5 * (p : Int) + 1) w) (5 * (p : Int) + 2) k) (5 * (p : Int) + 3) s) (5 * g 14 + 4) (vVal g ft)) ∧ ∀ x9 : Nat, x9 ≠ m → x9 ≠ m + 6 → h9 x9 = h x9) else Z) (ec : isAtB g ft 48 57 = true) : wh (wk ft (N - i0) i0 Q0) = true ∧ tFin E h0 m g0 hs fo0 N p (wk ft (N - i0) i0 Q0) h9 := by
  have e14 := S.g14 hp
  have e5 := S.g5 hN
  have z1 := S.at1 hN ec
  obtain ⟨s1, s2, s3, s4, s5, s6, s7, s8⟩ := S
  rw [if_pos ec] at e
  obtain ⟨e1, e2, e3⟩ := e
  have t1 : pTk (7, true, w, k, s, v) (ft (j : Int)) = some (8, true, w, k, s, ft (j : Int) - 48) := tk7.trans (if_pos (by omega))
  have k1 := s7.trans (wk_y z1.1 (by omega) t1)
  have tw : vTwo g ft = decide (0 < ft (j : Int) - 48 ∧ (j + 1 : Nat) < N ∧ 48 ≤ ft ((j + 1 : Nat) : Int) ∧ ft ((j + 1 : Nat) : Int) ≤ 57) := by
    unfold vTwo isAtB
    rw [s5, gup_at, gup_ne (show (5 : Int) ≠ 11 by decide), e5, ← Bool.decide_and]
    apply decide_eq_decide.mpr
    rw [show (j : Int) + 1 = ((j + 1 : Nat) : Int) by omega]
    omega
  have fin : ∀ (j9 : Nat) (v9 : Int) (P9 : gPt), vAt g ft = (j9 : Int) → vVal g ft = v9 → j9 ≤ N → P9.2 = (true, w, k, s, v9) → 8 ≤ P9.1 → wk ft (N - i0) i0 Q0 = wk ft (N - j9) j9 P9 → (j9 < N → ft (j9 : Int) = 59 ∨ pTk P9 (ft (j9 : Int)) = none) → wh (wk ft (N - i0) i0 Q0) = true ∧ tFin E h0 m g0 hs fo0 N p (wk ft (N - i0) i0 Q0) h9 := by
    intro j9 v9 P9 f1 f2 f3 f4 f5 f6 f7
    rw [f1] at e1
    rw [f2, e14] at e2
    have S9 : tSt E h0 m g0 hs ft fo0 N p i0 Q0 h9 (gup g 11 (j9 : Int)) (gup (gup (gup (gup (gup fo (5 * (p : Int)) 1) (5 * (p : Int) + 1) w) (5 * (p : Int) + 2) k) (5 * (p : Int) + 3) s) (5 * (p : Int) + 4) v9) j9 P9 := ⟨e1, e2, fun x9 y1 y2 => (e3 x9 y1 y2).trans (s3 x9 y1 y2), fun j8 y1 y2 => (gup_ne y1).trans (s4 j8 y1 y2), gup_at, f3, f6, fKp_tr s8 (fKp_up (by omega))⟩
    refine S9.done f7 ?_ (isTd_w (by rw [f4]) (by rw [f4]) (by rw [f4]) (by rw [f4]) (by rw [f4]))
    unfold wh
    rw [f4]
    exact decide_eq_true (show (8 : Int) ≤ (P9.1 : Int) by omega)
  by_cases y : 0 < ft (j : Int) - 48 ∧ (j + 1 : Nat) < N ∧ 48 ≤ ft ((j + 1 : Nat) : Int) ∧ ft ((j + 1 : Nat) : Int) ≤ 57
  · have tw := tw.trans (decide_eq_true y)
    have a1 : vAt g ft = ((j + 1 + 1 : Nat) : Int) := (if_pos tw).trans (by rw [s5]; omega)
    have a2 : vVal g ft = 10 * (ft (j : Int) - 48) + ft ((j + 1 : Nat) : Int) - 48 := (if_pos tw).trans (by rw [s5, show (j : Int) + 1 = ((j + 1 : Nat) : Int) by omega])
    have t2 : pTk (8, true, w, k, s, ft (j : Int) - 48) (ft ((j + 1 : Nat) : Int)) = some (9, true, w, k, s, 10 * (ft (j : Int) - 48) + ft ((j + 1 : Nat) : Int) - 48) := tk8.trans ((if_neg (by omega)).trans (if_pos (by omega)))
    refine fin (j + 1 + 1) _ (9, true, w, k, s, _) a1 a2 (by omega) rfl (Nat.le_of_ble_eq_true rfl) (k1.trans (wk_y y.2.1 (by omega) t2)) (fun _ => ?_)
    by_cases y9 : ft ((j + 1 + 1 : Nat) : Int) = 59
    · exact Or.inl y9
    · exact Or.inr (tk9.trans (if_neg y9))
  · have tw := tw.trans (decide_eq_false y)
    have a1 : vAt g ft = ((j + 1 : Nat) : Int) := (if_neg (by rw [tw]; decide)).trans (by rw [s5]; omega)
    have a2 : vVal g ft = ft (j : Int) - 48 := (if_neg (by rw [tw]; decide)).trans (by rw [s5])
    refine fin (j + 1) _ (8, true, w, k, s, _) a1 a2 (by omega) rfl (Nat.le_of_ble_eq_true rfl) k1 (fun y8 => ?_)
    by_cases y9 : ft ((j + 1 : Nat) : Int) = 59
    · exact Or.inl y9
    · exact Or.inr (tk8.trans ((if_neg y9).trans (if_neg (by omega))))
set_option maxRecDepth 100000 in
set_option maxHeartbeats 4000000 in
theorem c_X5_takesOne {E : gEnv} {n : Nat} {σ : Option Nat} {h : gH} (m : Nat) (g : Int → Int) (hs : Int64) (ft : Int → Int) (fo : Int → Int) (N p i : Nat) (Q : gPt) (hmb : gB E ≤ m ∧ m + 7 ≤ gB E + n) (hm : isMo h m g hs) (htx : h (m + 4) = gI E 60 ft) (hG : okG g ft) (htl : h (m + 6) = gI E 60 fo) (hN : g 5 = (N : Int)) (hp : g 14 = (p : Int)) (hp11 : p < 11) (hi : g 11 = (i : Int)) (hQ : Q.1 = 0)  : gM E mX5_takesOne [.ref m] n σ h (gD (some (.int (gi (gbi (wh (wk ft (N - i) i Q)))))) n σ (fun h9 => tFin E h m g hs fo N p (wk ft (N - i) i Q) h9)) (gNo) := by
  have hG9 := hG
  obtain ⟨a1, a2, a3, a4⟩ := hG
  obtain ⟨q0, b, w0, k0, s0, v0⟩ := Q
  dsimp only at hQ
  subst hQ
  have S0 : tSt E h m g hs ft fo N p i (0, b, w0, k0, s0, v0) h g fo i (0, b, w0, k0, s0, v0) := ⟨hm, htl, fun _ _ _ => rfl, fun _ _ _ => rfl, hi, by omega, rfl, fKp_rf⟩
  have mS0 := S0.1
  unfold isMo at mS0
  refine gM_of (by decide) (Nat.le_of_ble_eq_true rfl) (fun F C => ?_)
  refine g_aload_n 1 C dX5_takesOne_0 rfl rfl ?_
  refine g_bipush 3 C dX5_takesOne_1 (by decide) rfl ?_
  refine g_V1r 6 0 0 C dX5_takesOne_3 rfl lk_RX5_155 gi_X5_takes gv_X5_takes ⟨_, _, rfl⟩ (by omega) mS0 ⟨⟨by decide, by decide⟩, by decide, by decide⟩ (Nat.le_of_ble_eq_true rfl) rfl rfl rfl (c_X5_takes m g hs ft 119 hmb S0.1 (S0.tx htx) (S0.G hN hG9) (by decide)) g_no (fun h1 e3 => ?_)
  skip
  refine g_istore_n 7 [(1, _), (0, _)] C dX5_takesOne_6 (by decide) rfl rfl ?_
  refine g_iload_n 8 C dX5_takesOne_7 rfl rfl ?_
  refine g_if_ne 25 11 C dX5_takesOne_8 rfl rfl (gbi_r _) (fun c8 => ?_) (fun c8 => ?_)
  · skip
    have eb := gbi_1 c8
    have z := S0.at1 hN eb
    obtain ⟨g1, S1⟩ := S0.yes e3 eb z.1 (by omega) (P' := (1, true, w0, k0, s0, v0)) (tk0.trans (by rw [show ft (i : Int) = 119 by omega]; rfl))
    have mS1 := S1.1
    unfold isMo at mS1
    refine g_aload_n 26 C dX5_takesOne_25 rfl rfl ?_
    refine g_getf 29 C dX5_takesOne_26 fl_RX5_25 rfl (by omega) mS1 rfl rfl ?_
    refine g_iconst 30 C dX5_takesOne_29 rfl ?_
    refine g_aload_n 31 C dX5_takesOne_30 rfl rfl ?_
    refine g_getf 34 C dX5_takesOne_31 fl_RX5_152 rfl (by omega) mS1 rfl rfl ?_
    rw [S1.g14 hp]
    refine g_imul 35 C dX5_takesOne_34 rfl ?_
    refine g_iload_n 36 C dX5_takesOne_35 rfl rfl ?_
    refine g_if_eq 43 39 C dX5_takesOne_36 rfl rfl (gbi_r _) (fun c36 => ?_) (fun c36 => ?_)
    · skip
      rw [eb] at c36; cases c36
    · skip
      refine g_iconst 40 C dX5_takesOne_39 rfl ?_
      refine g_goto 44 C dX5_takesOne_40 rfl ?_
      refine g_iast 45 C dX5_takesOne_44 (by omega) S1.2.1 (by omega) (by decide) rfl ?_
      refine g_ab (fun z => tSt E h m g hs ft fo N p i (0, b, w0, k0, s0, v0) z g1 (gup fo (5 * (p : Int)) 1) (i + 1) (1, true, w0, k0, s0, v0)) (S1.put (by omega)) (fun h4 S4 => ?_)
      have mS4 := S4.1
      unfold isMo at mS4
      refine g_aload_n 46 C dX5_takesOne_45 rfl rfl ?_
      refine g_iconst 47 C dX5_takesOne_46 rfl ?_
      refine g_bipush 49 C dX5_takesOne_47 (by decide) rfl ?_
      refine g_V2r 52 0 0 C dX5_takesOne_49 rfl lk_RX5_158 gi_X5_takesPart gv_X5_takesPart ⟨_, _, rfl⟩ (by omega) mS4 ⟨⟨by decide, by decide⟩, by decide, by decide⟩ (Nat.le_of_ble_eq_true rfl) rfl rfl rfl (c_X5_takesPart m g1 hs ft (gup fo (5 * (p : Int)) 1) 1 52 hmb S4.1 (S4.tx htx) (S4.G hN hG9) S4.2.1 (by decide) (by rw [S4.g14 hp]; omega) (by decide)) g_no (fun h5 e49 => ?_)
      skip
      refine g_if_ne 57 55 C dX5_takesOne_52 rfl rfl (gbi_r _) (fun c52 => ?_) (fun c52 => ?_)
      · skip
        have eb5 := gbi_1 c52
        have z5 := S4.at1 hN eb5
        obtain ⟨g5, S5⟩ := S4.part hp (by decide) e49 eb5 z5.1 (by omega) (P' := (2, true, (ft ((i + 1 : Nat) : Int) - 48), k0, s0, v0)) (tk1.trans (if_pos z5.2))
        have mS5 := S5.1
        unfold isMo at mS5
        refine g_aload_n 58 C dX5_takesOne_57 rfl rfl ?_
        refine g_bipush 60 C dX5_takesOne_58 (by decide) rfl ?_
        refine g_V1r 63 0 0 C dX5_takesOne_60 rfl lk_RX5_155 gi_X5_takes gv_X5_takes ⟨_, _, rfl⟩ (by omega) mS5 ⟨⟨by decide, by decide⟩, by decide, by decide⟩ (Nat.le_of_ble_eq_true rfl) rfl rfl rfl (c_X5_takes m g5 hs ft 107 hmb S5.1 (S5.tx htx) (S5.G hN hG9) (by decide)) g_no (fun h6 e60 => ?_)
        skip
        refine g_if_ne 71 66 C dX5_takesOne_63 rfl rfl (gbi_r _) (fun c63 => ?_) (fun c63 => ?_)
        · skip
          have eb6 := gbi_1 c63
          have z6 := S5.at1 hN eb6
          obtain ⟨g6, S6⟩ := S5.yes e60 eb6 z6.1 (by omega) (P' := (3, true, (ft ((i + 1 : Nat) : Int) - 48), k0, s0, v0)) (tk2.trans (if_pos (by omega)))
          have mS6 := S6.1
          unfold isMo at mS6
          refine g_aload_n 72 C dX5_takesOne_71 rfl rfl ?_
          refine g_iconst 73 C dX5_takesOne_72 rfl ?_
          refine g_bipush 75 C dX5_takesOne_73 (by decide) rfl ?_
          refine g_V2r 78 0 0 C dX5_takesOne_75 rfl lk_RX5_158 gi_X5_takesPart gv_X5_takesPart ⟨_, _, rfl⟩ (by omega) mS6 ⟨⟨by decide, by decide⟩, by decide, by decide⟩ (Nat.le_of_ble_eq_true rfl) rfl rfl rfl (c_X5_takesPart m g6 hs ft (gup (gup fo (5 * (p : Int)) 1) (5 * (p : Int) + 1) (ft ((i + 1 : Nat) : Int) - 48)) 2 50 hmb S6.1 (S6.tx htx) (S6.G hN hG9) S6.2.1 (by decide) (by rw [S6.g14 hp]; omega) (by decide)) g_no (fun h8 e75 => ?_)
          skip
          refine g_if_ne 83 81 C dX5_takesOne_78 rfl rfl (gbi_r _) (fun c78 => ?_) (fun c78 => ?_)
          · skip
            have eb8 := gbi_1 c78
            have z8 := S6.at1 hN eb8
            obtain ⟨g8, S8⟩ := S6.part hp (by decide) e75 eb8 z8.1 (by omega) (P' := (4, true, (ft ((i + 1 : Nat) : Int) - 48), (ft ((i + 1 + 1 + 1 : Nat) : Int) - 48), s0, v0)) (tk3.trans (if_pos z8.2))
            have mS8 := S8.1
            unfold isMo at mS8
            refine g_aload_n 84 C dX5_takesOne_83 rfl rfl ?_
            refine g_bipush 86 C dX5_takesOne_84 (by decide) rfl ?_
            refine g_V1r 89 0 0 C dX5_takesOne_86 rfl lk_RX5_155 gi_X5_takes gv_X5_takes ⟨_, _, rfl⟩ (by omega) mS8 ⟨⟨by decide, by decide⟩, by decide, by decide⟩ (Nat.le_of_ble_eq_true rfl) rfl rfl rfl (c_X5_takes m g8 hs ft 115 hmb S8.1 (S8.tx htx) (S8.G hN hG9) (by decide)) g_no (fun h9_ e86 => ?_)
            skip
            refine g_if_ne 97 92 C dX5_takesOne_89 rfl rfl (gbi_r _) (fun c89 => ?_) (fun c89 => ?_)
            · skip
              have eb9 := gbi_1 c89
              have z9 := S8.at1 hN eb9
              obtain ⟨g9, S9⟩ := S8.yes e86 eb9 z9.1 (by omega) (P' := (5, true, (ft ((i + 1 : Nat) : Int) - 48), (ft ((i + 1 + 1 + 1 : Nat) : Int) - 48), s0, v0)) (tk4.trans (if_pos (by omega)))
              have mS9 := S9.1
              unfold isMo at mS9
              refine g_aload_n 98 C dX5_takesOne_97 rfl rfl ?_
              refine g_iconst 99 C dX5_takesOne_98 rfl ?_
              refine g_bipush 101 C dX5_takesOne_99 (by decide) rfl ?_
              refine g_V2r 104 0 0 C dX5_takesOne_101 rfl lk_RX5_158 gi_X5_takesPart gv_X5_takesPart ⟨_, _, rfl⟩ (by omega) mS9 ⟨⟨by decide, by decide⟩, by decide, by decide⟩ (Nat.le_of_ble_eq_true rfl) rfl rfl rfl (c_X5_takesPart m g9 hs ft (gup (gup (gup fo (5 * (p : Int)) 1) (5 * (p : Int) + 1) (ft ((i + 1 : Nat) : Int) - 48)) (5 * (p : Int) + 2) (ft ((i + 1 + 1 + 1 : Nat) : Int) - 48)) 3 50 hmb S9.1 (S9.tx htx) (S9.G hN hG9) S9.2.1 (by decide) (by rw [S9.g14 hp]; omega) (by decide)) g_no (fun h11 e101 => ?_)
              skip
              refine g_if_ne 109 107 C dX5_takesOne_104 rfl rfl (gbi_r _) (fun c104 => ?_) (fun c104 => ?_)
              · skip
                have eb11 := gbi_1 c104
                have z11 := S9.at1 hN eb11
                obtain ⟨g11, S11⟩ := S9.part hp (by decide) e101 eb11 z11.1 (by omega) (P' := (6, true, (ft ((i + 1 : Nat) : Int) - 48), (ft ((i + 1 + 1 + 1 : Nat) : Int) - 48), (ft ((i + 1 + 1 + 1 + 1 + 1 : Nat) : Int) - 48), v0)) (tk5.trans (if_pos z11.2))
                have mS11 := S11.1
                unfold isMo at mS11
                refine g_iload_n 110 C dX5_takesOne_109 rfl rfl ?_
                refine g_if_ne 115 113 C dX5_takesOne_110 rfl rfl (gbi_r _) (fun c110 => ?_) (fun c110 => ?_)
                · skip
                  refine g_aload_n 116 C dX5_takesOne_115 rfl rfl ?_
                  refine g_bipush 118 C dX5_takesOne_116 (by decide) rfl ?_
                  refine g_V1r 121 0 0 C dX5_takesOne_118 rfl lk_RX5_155 gi_X5_takes gv_X5_takes ⟨_, _, rfl⟩ (by omega) mS11 ⟨⟨by decide, by decide⟩, by decide, by decide⟩ (Nat.le_of_ble_eq_true rfl) rfl rfl rfl (c_X5_takes m g11 hs ft 61 hmb S11.1 (S11.tx htx) (S11.G hN hG9) (by decide)) g_no (fun h12 e118 => ?_)
                  skip
                  refine g_if_eq 131 124 C dX5_takesOne_121 rfl rfl (gbi_r _) (fun c121 => ?_) (fun c121 => ?_)
                  · skip
                    have eb12 := gbi_0 c121
                    have z12 := S11.at0 hN eb12
                    obtain ⟨g12, S12⟩ := S11.no e118 eb12
                    have mS12 := S12.1
                    unfold isMo at mS12
                    refine g_aload_n 132 C dX5_takesOne_131 rfl rfl ?_
                    refine g_V0r 135 0 0 C dX5_takesOne_132 rfl lk_RX5_148 gi_X5_stops gv_X5_stops ⟨_, _, rfl⟩ (by omega) mS12 ⟨⟨by decide, by decide⟩, by decide, by decide⟩ (Nat.le_of_ble_eq_true rfl) rfl rfl rfl (c_X5_stops m g12 hs ft hmb S12.1 (S12.tx htx) (S12.G hN hG9)) g_no (fun h13 e132 => ?_)
                    skip
                    exact g_zret C dX5_takesOne_135 rfl rfl ⟨by decide, by decide⟩ (by obtain ⟨y1, y2⟩ := S12.stop hN e132 (fun hj => Or.inr (tk6t.trans (if_neg (by have := z12 hj; omega)))) (by unfold wh; rfl); rw [y1]; exact ⟨rfl, rfl, rfl, y2⟩)
                  · skip
                    have eb12 := gbi_1 c121
                    have z12 := S11.at1 hN eb12
                    obtain ⟨g12, S12⟩ := S11.yes e118 eb12 z12.1 (by omega) (P' := (7, true, (ft ((i + 1 : Nat) : Int) - 48), (ft ((i + 1 + 1 + 1 : Nat) : Int) - 48), (ft ((i + 1 + 1 + 1 + 1 + 1 : Nat) : Int) - 48), v0)) (tk6t.trans (if_pos (by omega)))
                    have mS12 := S12.1
                    unfold isMo at mS12
                    refine g_aload_n 125 C dX5_takesOne_124 rfl rfl ?_
                    refine g_V0r 128 0 0 C dX5_takesOne_125 rfl lk_RX5_161 gi_X5_takesValue gv_X5_takesValue ⟨_, _, rfl⟩ (by omega) mS12 ⟨⟨by decide, by decide⟩, by decide, by decide⟩ (Nat.le_of_ble_eq_true rfl) rfl rfl rfl (c_X5_takesValue m g12 hs ft (gup (gup (gup (gup fo (5 * (p : Int)) 1) (5 * (p : Int) + 1) (ft ((i + 1 : Nat) : Int) - 48)) (5 * (p : Int) + 2) (ft ((i + 1 + 1 + 1 : Nat) : Int) - 48)) (5 * (p : Int) + 3) (ft ((i + 1 + 1 + 1 + 1 + 1 : Nat) : Int) - 48)) hmb S12.1 (S12.tx htx) (S12.G hN hG9) S12.2.1 (by rw [S12.g14 hp]; omega)) g_no (fun h13 e125 => ?_)
                    have eb13 : isAtB g12 ft 48 57 = true ∨ isAtB g12 ft 48 57 = false := by cases isAtB g12 ft 48 57 <;> simp
                    refine g_goto 135 C dX5_takesOne_128 rfl ?_
                    exact g_zret C dX5_takesOne_135 rfl (gbi_z _) ⟨by decide, by decide⟩ (by
                          rcases eb13 with y | y
                          · obtain ⟨y1, y2⟩ := S12.val hp hN e125 y
                            rw [y, y1]
                            exact ⟨rfl, rfl, rfl, y2⟩
                          · have z13 := S12.at0 hN y
                            obtain ⟨y1, y2⟩ := S12.stopP hN e125 (by rw [y]; decide) (fun hj => Or.inr (tk7.trans (if_neg (z13 hj)))) (by unfold wh; rfl)
                            rw [y, y1]
                            exact ⟨rfl, rfl, rfl, y2⟩)
                · skip
                  rw [eb] at c110; cases c110
              · skip
                have eb11 := gbi_0 c104
                have z11 := S9.at0 hN eb11
                refine g_iconst 108 C dX5_takesOne_107 rfl ?_
                exact g_zret C dX5_takesOne_108 rfl rfl ⟨by decide, by decide⟩ (by obtain ⟨y1, y2⟩ := S9.stopP hN e101 (by rw [eb11]; decide) (fun hj => Or.inr (tk5.trans (if_neg (z11 hj)))) (by unfold wh; rfl); rw [y1]; exact ⟨rfl, rfl, rfl, y2⟩)
            · skip
              have eb9 := gbi_0 c89
              have z9 := S8.at0 hN eb9
              obtain ⟨g9, S9⟩ := S8.no e86 eb9
              have mS9 := S9.1
              unfold isMo at mS9
              refine g_aload_n 93 C dX5_takesOne_92 rfl rfl ?_
              refine g_V0r 96 0 0 C dX5_takesOne_93 rfl lk_RX5_148 gi_X5_stops gv_X5_stops ⟨_, _, rfl⟩ (by omega) mS9 ⟨⟨by decide, by decide⟩, by decide, by decide⟩ (Nat.le_of_ble_eq_true rfl) rfl rfl rfl (c_X5_stops m g9 hs ft hmb S9.1 (S9.tx htx) (S9.G hN hG9)) g_no (fun h10 e93 => ?_)
              skip
              exact g_zret C dX5_takesOne_96 rfl rfl ⟨by decide, by decide⟩ (by obtain ⟨y1, y2⟩ := S9.stop hN e93 (fun hj => Or.inr (tk4.trans (if_neg (by have := z9 hj; omega)))) (by unfold wh; rfl); rw [y1]; exact ⟨rfl, rfl, rfl, y2⟩)
          · skip
            have eb8 := gbi_0 c78
            have z8 := S6.at0 hN eb8
            refine g_iconst 82 C dX5_takesOne_81 rfl ?_
            exact g_zret C dX5_takesOne_82 rfl rfl ⟨by decide, by decide⟩ (by obtain ⟨y1, y2⟩ := S6.stopP hN e75 (by rw [eb8]; decide) (fun hj => Or.inr (tk3.trans (if_neg (z8 hj)))) (by unfold wh; rfl); rw [y1]; exact ⟨rfl, rfl, rfl, y2⟩)
        · skip
          have eb6 := gbi_0 c63
          have z6 := S5.at0 hN eb6
          obtain ⟨g6, S6⟩ := S5.no e60 eb6
          have mS6 := S6.1
          unfold isMo at mS6
          refine g_aload_n 67 C dX5_takesOne_66 rfl rfl ?_
          refine g_V0r 70 0 0 C dX5_takesOne_67 rfl lk_RX5_148 gi_X5_stops gv_X5_stops ⟨_, _, rfl⟩ (by omega) mS6 ⟨⟨by decide, by decide⟩, by decide, by decide⟩ (Nat.le_of_ble_eq_true rfl) rfl rfl rfl (c_X5_stops m g6 hs ft hmb S6.1 (S6.tx htx) (S6.G hN hG9)) g_no (fun h7 e67 => ?_)
          skip
          exact g_zret C dX5_takesOne_70 rfl rfl ⟨by decide, by decide⟩ (by obtain ⟨y1, y2⟩ := S6.stop hN e67 (fun hj => Or.inr (tk2.trans (if_neg (by have := z6 hj; omega)))) (by unfold wh; rfl); rw [y1]; exact ⟨rfl, rfl, rfl, y2⟩)
      · skip
        have eb5 := gbi_0 c52
        have z5 := S4.at0 hN eb5
        refine g_iconst 56 C dX5_takesOne_55 rfl ?_
        exact g_zret C dX5_takesOne_56 rfl rfl ⟨by decide, by decide⟩ (by obtain ⟨y1, y2⟩ := S4.stopP hN e49 (by rw [eb5]; decide) (fun hj => Or.inr (tk1.trans (if_neg (z5 hj)))) (by unfold wh; rfl); rw [y1]; exact ⟨rfl, rfl, rfl, y2⟩)
  · skip
    have eb := gbi_0 c8
    have z := S0.at0 hN eb
    obtain ⟨g1, S1⟩ := S0.no e3 eb
    have mS1 := S1.1
    unfold isMo at mS1
    refine g_aload_n 12 C dX5_takesOne_11 rfl rfl ?_
    refine g_bipush 14 C dX5_takesOne_12 (by decide) rfl ?_
    refine g_V1r 17 0 0 C dX5_takesOne_14 rfl lk_RX5_155 gi_X5_takes gv_X5_takes ⟨_, _, rfl⟩ (by omega) mS1 ⟨⟨by decide, by decide⟩, by decide, by decide⟩ (Nat.le_of_ble_eq_true rfl) rfl rfl rfl (c_X5_takes m g1 hs ft 114 hmb S1.1 (S1.tx htx) (S1.G hN hG9) (by decide)) g_no (fun h2 e14 => ?_)
    skip
    refine g_if_ne 25 20 C dX5_takesOne_17 rfl rfl (gbi_r _) (fun c17 => ?_) (fun c17 => ?_)
    · skip
      have eb2 := gbi_1 c17
      have z2 := S1.at1 hN eb2
      obtain ⟨g2, S2⟩ := S1.yes e14 eb2 z2.1 (by omega) (P' := (1, false, w0, k0, s0, v0)) (tk0.trans (by rw [show ft (i : Int) = 114 by omega]; rfl))
      have mS2 := S2.1
      unfold isMo at mS2
      refine g_aload_n 26 C dX5_takesOne_25 rfl rfl ?_
      refine g_getf 29 C dX5_takesOne_26 fl_RX5_25 rfl (by omega) mS2 rfl rfl ?_
      refine g_iconst 30 C dX5_takesOne_29 rfl ?_
      refine g_aload_n 31 C dX5_takesOne_30 rfl rfl ?_
      refine g_getf 34 C dX5_takesOne_31 fl_RX5_152 rfl (by omega) mS2 rfl rfl ?_
      rw [S2.g14 hp]
      refine g_imul 35 C dX5_takesOne_34 rfl ?_
      refine g_iload_n 36 C dX5_takesOne_35 rfl rfl ?_
      refine g_if_eq 43 39 C dX5_takesOne_36 rfl rfl (gbi_r _) (fun c36 => ?_) (fun c36 => ?_)
      · skip
        refine g_iconst 44 C dX5_takesOne_43 rfl ?_
        refine g_iast 45 C dX5_takesOne_44 (by omega) S2.2.1 (by omega) (by decide) rfl ?_
        refine g_ab (fun z => tSt E h m g hs ft fo N p i (0, b, w0, k0, s0, v0) z g2 (gup fo (5 * (p : Int)) 0) (i + 1) (1, false, w0, k0, s0, v0)) (S2.put (by omega)) (fun h4 S4 => ?_)
        have mS4 := S4.1
        unfold isMo at mS4
        refine g_aload_n 46 C dX5_takesOne_45 rfl rfl ?_
        refine g_iconst 47 C dX5_takesOne_46 rfl ?_
        refine g_bipush 49 C dX5_takesOne_47 (by decide) rfl ?_
        refine g_V2r 52 0 0 C dX5_takesOne_49 rfl lk_RX5_158 gi_X5_takesPart gv_X5_takesPart ⟨_, _, rfl⟩ (by omega) mS4 ⟨⟨by decide, by decide⟩, by decide, by decide⟩ (Nat.le_of_ble_eq_true rfl) rfl rfl rfl (c_X5_takesPart m g2 hs ft (gup fo (5 * (p : Int)) 0) 1 52 hmb S4.1 (S4.tx htx) (S4.G hN hG9) S4.2.1 (by decide) (by rw [S4.g14 hp]; omega) (by decide)) g_no (fun h5 e49 => ?_)
        skip
        refine g_if_ne 57 55 C dX5_takesOne_52 rfl rfl (gbi_r _) (fun c52 => ?_) (fun c52 => ?_)
        · skip
          have eb5 := gbi_1 c52
          have z5 := S4.at1 hN eb5
          obtain ⟨g5, S5⟩ := S4.part hp (by decide) e49 eb5 z5.1 (by omega) (P' := (2, false, (ft ((i + 1 : Nat) : Int) - 48), k0, s0, v0)) (tk1.trans (if_pos z5.2))
          have mS5 := S5.1
          unfold isMo at mS5
          refine g_aload_n 58 C dX5_takesOne_57 rfl rfl ?_
          refine g_bipush 60 C dX5_takesOne_58 (by decide) rfl ?_
          refine g_V1r 63 0 0 C dX5_takesOne_60 rfl lk_RX5_155 gi_X5_takes gv_X5_takes ⟨_, _, rfl⟩ (by omega) mS5 ⟨⟨by decide, by decide⟩, by decide, by decide⟩ (Nat.le_of_ble_eq_true rfl) rfl rfl rfl (c_X5_takes m g5 hs ft 107 hmb S5.1 (S5.tx htx) (S5.G hN hG9) (by decide)) g_no (fun h6 e60 => ?_)
          skip
          refine g_if_ne 71 66 C dX5_takesOne_63 rfl rfl (gbi_r _) (fun c63 => ?_) (fun c63 => ?_)
          · skip
            have eb6 := gbi_1 c63
            have z6 := S5.at1 hN eb6
            obtain ⟨g6, S6⟩ := S5.yes e60 eb6 z6.1 (by omega) (P' := (3, false, (ft ((i + 1 : Nat) : Int) - 48), k0, s0, v0)) (tk2.trans (if_pos (by omega)))
            have mS6 := S6.1
            unfold isMo at mS6
            refine g_aload_n 72 C dX5_takesOne_71 rfl rfl ?_
            refine g_iconst 73 C dX5_takesOne_72 rfl ?_
            refine g_bipush 75 C dX5_takesOne_73 (by decide) rfl ?_
            refine g_V2r 78 0 0 C dX5_takesOne_75 rfl lk_RX5_158 gi_X5_takesPart gv_X5_takesPart ⟨_, _, rfl⟩ (by omega) mS6 ⟨⟨by decide, by decide⟩, by decide, by decide⟩ (Nat.le_of_ble_eq_true rfl) rfl rfl rfl (c_X5_takesPart m g6 hs ft (gup (gup fo (5 * (p : Int)) 0) (5 * (p : Int) + 1) (ft ((i + 1 : Nat) : Int) - 48)) 2 50 hmb S6.1 (S6.tx htx) (S6.G hN hG9) S6.2.1 (by decide) (by rw [S6.g14 hp]; omega) (by decide)) g_no (fun h8 e75 => ?_)
            skip
            refine g_if_ne 83 81 C dX5_takesOne_78 rfl rfl (gbi_r _) (fun c78 => ?_) (fun c78 => ?_)
            · skip
              have eb8 := gbi_1 c78
              have z8 := S6.at1 hN eb8
              obtain ⟨g8, S8⟩ := S6.part hp (by decide) e75 eb8 z8.1 (by omega) (P' := (4, false, (ft ((i + 1 : Nat) : Int) - 48), (ft ((i + 1 + 1 + 1 : Nat) : Int) - 48), s0, v0)) (tk3.trans (if_pos z8.2))
              have mS8 := S8.1
              unfold isMo at mS8
              refine g_aload_n 84 C dX5_takesOne_83 rfl rfl ?_
              refine g_bipush 86 C dX5_takesOne_84 (by decide) rfl ?_
              refine g_V1r 89 0 0 C dX5_takesOne_86 rfl lk_RX5_155 gi_X5_takes gv_X5_takes ⟨_, _, rfl⟩ (by omega) mS8 ⟨⟨by decide, by decide⟩, by decide, by decide⟩ (Nat.le_of_ble_eq_true rfl) rfl rfl rfl (c_X5_takes m g8 hs ft 115 hmb S8.1 (S8.tx htx) (S8.G hN hG9) (by decide)) g_no (fun h9_ e86 => ?_)
              skip
              refine g_if_ne 97 92 C dX5_takesOne_89 rfl rfl (gbi_r _) (fun c89 => ?_) (fun c89 => ?_)
              · skip
                have eb9 := gbi_1 c89
                have z9 := S8.at1 hN eb9
                obtain ⟨g9, S9⟩ := S8.yes e86 eb9 z9.1 (by omega) (P' := (5, false, (ft ((i + 1 : Nat) : Int) - 48), (ft ((i + 1 + 1 + 1 : Nat) : Int) - 48), s0, v0)) (tk4.trans (if_pos (by omega)))
                have mS9 := S9.1
                unfold isMo at mS9
                refine g_aload_n 98 C dX5_takesOne_97 rfl rfl ?_
                refine g_iconst 99 C dX5_takesOne_98 rfl ?_
                refine g_bipush 101 C dX5_takesOne_99 (by decide) rfl ?_
                refine g_V2r 104 0 0 C dX5_takesOne_101 rfl lk_RX5_158 gi_X5_takesPart gv_X5_takesPart ⟨_, _, rfl⟩ (by omega) mS9 ⟨⟨by decide, by decide⟩, by decide, by decide⟩ (Nat.le_of_ble_eq_true rfl) rfl rfl rfl (c_X5_takesPart m g9 hs ft (gup (gup (gup fo (5 * (p : Int)) 0) (5 * (p : Int) + 1) (ft ((i + 1 : Nat) : Int) - 48)) (5 * (p : Int) + 2) (ft ((i + 1 + 1 + 1 : Nat) : Int) - 48)) 3 50 hmb S9.1 (S9.tx htx) (S9.G hN hG9) S9.2.1 (by decide) (by rw [S9.g14 hp]; omega) (by decide)) g_no (fun h11 e101 => ?_)
                skip
                refine g_if_ne 109 107 C dX5_takesOne_104 rfl rfl (gbi_r _) (fun c104 => ?_) (fun c104 => ?_)
                · skip
                  have eb11 := gbi_1 c104
                  have z11 := S9.at1 hN eb11
                  obtain ⟨g11, S11⟩ := S9.part hp (by decide) e101 eb11 z11.1 (by omega) (P' := (6, false, (ft ((i + 1 : Nat) : Int) - 48), (ft ((i + 1 + 1 + 1 : Nat) : Int) - 48), (ft ((i + 1 + 1 + 1 + 1 + 1 : Nat) : Int) - 48), v0)) (tk5.trans (if_pos z11.2))
                  have mS11 := S11.1
                  unfold isMo at mS11
                  refine g_iload_n 110 C dX5_takesOne_109 rfl rfl ?_
                  refine g_if_ne 115 113 C dX5_takesOne_110 rfl rfl (gbi_r _) (fun c110 => ?_) (fun c110 => ?_)
                  · skip
                    rw [eb] at c110; exact absurd rfl c110
                  · skip
                    refine g_iconst 114 C dX5_takesOne_113 rfl ?_
                    have hn6 : i + 1 + 1 + 1 + 1 + 1 + 1 < N → ft ((i + 1 + 1 + 1 + 1 + 1 + 1 : Nat) : Int) = 59 ∨ pTk (6, false, (ft ((i + 1 : Nat) : Int) - 48), (ft ((i + 1 + 1 + 1 : Nat) : Int) - 48), (ft ((i + 1 + 1 + 1 + 1 + 1 : Nat) : Int) - 48), v0) (ft ((i + 1 + 1 + 1 + 1 + 1 + 1 : Nat) : Int)) = none := fun hj => by
                      by_cases y : ft ((i + 1 + 1 + 1 + 1 + 1 + 1 : Nat) : Int) = 59
                      · exact Or.inl y
                      · exact Or.inr (tk6f.trans (if_neg y))
                    exact g_zret C dX5_takesOne_114 rfl rfl ⟨by decide, by decide⟩ (by obtain ⟨y1, y2⟩ := S11.done hn6 (by unfold wh; rfl) (isTd_r rfl rfl rfl rfl); rw [y1]; exact ⟨rfl, rfl, rfl, y2⟩)
                · skip
                  have eb11 := gbi_0 c104
                  have z11 := S9.at0 hN eb11
                  refine g_iconst 108 C dX5_takesOne_107 rfl ?_
                  exact g_zret C dX5_takesOne_108 rfl rfl ⟨by decide, by decide⟩ (by obtain ⟨y1, y2⟩ := S9.stopP hN e101 (by rw [eb11]; decide) (fun hj => Or.inr (tk5.trans (if_neg (z11 hj)))) (by unfold wh; rfl); rw [y1]; exact ⟨rfl, rfl, rfl, y2⟩)
              · skip
                have eb9 := gbi_0 c89
                have z9 := S8.at0 hN eb9
                obtain ⟨g9, S9⟩ := S8.no e86 eb9
                have mS9 := S9.1
                unfold isMo at mS9
                refine g_aload_n 93 C dX5_takesOne_92 rfl rfl ?_
                refine g_V0r 96 0 0 C dX5_takesOne_93 rfl lk_RX5_148 gi_X5_stops gv_X5_stops ⟨_, _, rfl⟩ (by omega) mS9 ⟨⟨by decide, by decide⟩, by decide, by decide⟩ (Nat.le_of_ble_eq_true rfl) rfl rfl rfl (c_X5_stops m g9 hs ft hmb S9.1 (S9.tx htx) (S9.G hN hG9)) g_no (fun h10 e93 => ?_)
                skip
                exact g_zret C dX5_takesOne_96 rfl rfl ⟨by decide, by decide⟩ (by obtain ⟨y1, y2⟩ := S9.stop hN e93 (fun hj => Or.inr (tk4.trans (if_neg (by have := z9 hj; omega)))) (by unfold wh; rfl); rw [y1]; exact ⟨rfl, rfl, rfl, y2⟩)
            · skip
              have eb8 := gbi_0 c78
              have z8 := S6.at0 hN eb8
              refine g_iconst 82 C dX5_takesOne_81 rfl ?_
              exact g_zret C dX5_takesOne_82 rfl rfl ⟨by decide, by decide⟩ (by obtain ⟨y1, y2⟩ := S6.stopP hN e75 (by rw [eb8]; decide) (fun hj => Or.inr (tk3.trans (if_neg (z8 hj)))) (by unfold wh; rfl); rw [y1]; exact ⟨rfl, rfl, rfl, y2⟩)
          · skip
            have eb6 := gbi_0 c63
            have z6 := S5.at0 hN eb6
            obtain ⟨g6, S6⟩ := S5.no e60 eb6
            have mS6 := S6.1
            unfold isMo at mS6
            refine g_aload_n 67 C dX5_takesOne_66 rfl rfl ?_
            refine g_V0r 70 0 0 C dX5_takesOne_67 rfl lk_RX5_148 gi_X5_stops gv_X5_stops ⟨_, _, rfl⟩ (by omega) mS6 ⟨⟨by decide, by decide⟩, by decide, by decide⟩ (Nat.le_of_ble_eq_true rfl) rfl rfl rfl (c_X5_stops m g6 hs ft hmb S6.1 (S6.tx htx) (S6.G hN hG9)) g_no (fun h7 e67 => ?_)
            skip
            exact g_zret C dX5_takesOne_70 rfl rfl ⟨by decide, by decide⟩ (by obtain ⟨y1, y2⟩ := S6.stop hN e67 (fun hj => Or.inr (tk2.trans (if_neg (by have := z6 hj; omega)))) (by unfold wh; rfl); rw [y1]; exact ⟨rfl, rfl, rfl, y2⟩)
        · skip
          have eb5 := gbi_0 c52
          have z5 := S4.at0 hN eb5
          refine g_iconst 56 C dX5_takesOne_55 rfl ?_
          exact g_zret C dX5_takesOne_56 rfl rfl ⟨by decide, by decide⟩ (by obtain ⟨y1, y2⟩ := S4.stopP hN e49 (by rw [eb5]; decide) (fun hj => Or.inr (tk1.trans (if_neg (z5 hj)))) (by unfold wh; rfl); rw [y1]; exact ⟨rfl, rfl, rfl, y2⟩)
      · skip
        rw [eb] at c36; exact absurd rfl c36
    · skip
      have eb2 := gbi_0 c17
      have z2 := S1.at0 hN eb2
      obtain ⟨g2, S2⟩ := S1.no e14 eb2
      have mS2 := S2.1
      unfold isMo at mS2
      refine g_aload_n 21 C dX5_takesOne_20 rfl rfl ?_
      refine g_V0r 24 0 0 C dX5_takesOne_21 rfl lk_RX5_148 gi_X5_stops gv_X5_stops ⟨_, _, rfl⟩ (by omega) mS2 ⟨⟨by decide, by decide⟩, by decide, by decide⟩ (Nat.le_of_ble_eq_true rfl) rfl rfl rfl (c_X5_stops m g2 hs ft hmb S2.1 (S2.tx htx) (S2.G hN hG9)) g_no (fun h3 e21 => ?_)
      skip
      exact g_zret C dX5_takesOne_24 rfl rfl ⟨by decide, by decide⟩ (by obtain ⟨y1, y2⟩ := S2.stop hN e21 (fun hj => Or.inr (tk0.trans (if_neg (by have := z hj; have := z2 hj; omega)))) (by unfold wh; cases b <;> rfl); rw [y1]; exact ⟨rfl, rfl, rfl, y2⟩)
