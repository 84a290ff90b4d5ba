/-! SiblingJoins$State: what it is -/
theorem okK_take {K : gKy} {s o : Int} (h : okK K) (hs : 0 ≤ s ∧ s < 3) (ho : 0 ≤ o ∧ o < 3) : okK (kTake K s o) := by
  obtain ⟨h1, h2, h3, h4⟩ := h
  refine ⟨h1, h2, fun r r0 r3 => ?_, fun r r0 r3 => ?_⟩
  · by_cases e : r = s
    · subst e
      show okV (gup K.2.2.1 r _ r)
      rw [gup_at]
      exact okV_vmx (h3 r r0 r3) (h3 o ho.1 ho.2)
    · show okV (gup K.2.2.1 s _ r)
      rw [gup_ne e]
      exact h3 r r0 r3
  · by_cases e : r = s
    · subst e
      show okL (gup K.2.2.2 r _ r)
      rw [gup_at]
      exact okL_tkL (h4 r r0 r3) (h4 o ho.1 ho.2)
    · show okL (gup K.2.2.2 s _ r)
      rw [gup_ne e]
      exact h4 r r0 r3
theorem okK_unl {K : gKy} {w : Int} (h : okK K) (hw : 0 ≤ w ∧ w < 5) : okK (kUnl K w) := by
  obtain ⟨h1, h2, h3, h4⟩ := h
  refine ⟨h1, fun r r0 r3 => ?_, h3, h4⟩
  by_cases e : r = w
  · subst e
    show okV (gup K.2.1 r _ r)
    rw [gup_at]
    intro i i0 i5
    dsimp only
    by_cases e2 : i = r
    · rw [if_pos e2]
      exact h2 r r0 r3 i i0 i5
    · rw [if_neg e2]
      decide
  · show okV (gup K.2.1 w _ r)
    rw [gup_ne e]
    exact h2 r r0 r3
theorem okK_erase {K : gKy} {w : Int} (h : okK K) : okK (kErase K w) := by
  obtain ⟨h1, h2, h3, h4⟩ := h
  exact ⟨okV_up h1 (by decide), fun r r0 r3 => okV_up (h2 r r0 r3) (by decide), fun r r0 r3 => okV_up (h3 r r0 r3) (by decide), h4⟩
/-- all that undo restores: the keys, and the five numbers, by their fields -/
abbrev gSt : Type := (Int → gKy) × (Int → Int)
def isS (E : gEnv) (h : gH) (a : Nat) (S : gSt) : Prop :=
  h a = gO 3 [.ref (a + 1), .int (gi (S.2 1)), .int (gi (S.2 2)), .int (gi (S.2 3)), .int (gi (S.2 4)), .int (gi (S.2 5))] ∧
  (∃ f : Int → Option Nat, h (a + 1) = gR E 3 3 f ∧ ∀ k : Int, 0 ≤ k → k < 3 → f k = some (a + 2 + 21 * k.toNat)) ∧
  ∀ k : Int, 0 ≤ k → k < 3 → isK E h (a + 2 + 21 * k.toNat) (S.1 k)
def okS (S : gSt) : Prop := ∀ k : Int, 0 ≤ k → k < 3 → okK (S.1 k)
theorem isS.kept {E : gEnv} {h h1 : gH} {a : Nat} {S : gSt} (x : isS E h a S) (hk : ∀ q : Nat, a ≤ q → q < a + 65 → h1 q = h q) : isS E h1 a S := by
  obtain ⟨x1, ⟨f, x2, x2'⟩, x3⟩ := x
  exact ⟨(hk _ (by omega) (by omega)).trans x1, ⟨f, (hk _ (by omega) (by omega)).trans x2, x2'⟩, fun k k0 k3 => (x3 k k0 k3).kept (fun q q1 q2 => hk q (by omega) (by omega))⟩
theorem isS.ext {E : gEnv} {h : gH} {a : Nat} {S S' : gSt} (x : isS E h a S) (e1 : ∀ k : Int, 0 ≤ k → k < 3 → S.1 k = S'.1 k) (e2 : ∀ j : Int, 1 ≤ j → j ≤ 5 → S.2 j = S'.2 j) : isS E h a S' := by
  obtain ⟨x1, x2, x3⟩ := x
  refine ⟨?_, x2, fun k k0 k3 => ?_⟩
  · rw [← e2 1 (by decide) (by decide), ← e2 2 (by decide) (by decide), ← e2 3 (by decide) (by decide), ← e2 4 (by decide) (by decide), ← e2 5 (by decide) (by decide)]
    exact x1
  · rw [← e1 k k0 k3]
    exact x3 k k0 k3
theorem isS.setK {E : gEnv} {h h1 : gH} {a : Nat} {S : gSt} {k : Int} {K' : gKy} (x : isS E h a S) (k0 : 0 ≤ k) (k3 : k < 3) (hc : isK E h1 (a + 2 + 21 * k.toNat) K') (hk : gKp (a + 2 + 21 * k.toNat) (a + 2 + 21 * k.toNat + 21) h h1) : isS E h1 a (gup S.1 k K', S.2) := by
  obtain ⟨x1, ⟨f, x2, x2'⟩, x3⟩ := x
  refine ⟨(hk _ (by omega)).trans x1, ⟨f, (hk _ (by omega)).trans x2, x2'⟩, fun r r0 r3 => ?_⟩
  by_cases e : r = k
  · subst e
    show isK E h1 _ (gup S.1 r K' r)
    rw [gup_at]
    exact hc
  · show isK E h1 _ (gup S.1 k K' r)
    rw [gup_ne e]
    exact (x3 r r0 r3).kept (fun q q1 q2 => hk q (by omega))
theorem isS.setN {E : gEnv} {h h1 : gH} {a : Nat} {S : gSt} {C' : Int → Int} (x : isS E h a S) (hc : h1 a = gO 3 [.ref (a + 1), .int (gi (C' 1)), .int (gi (C' 2)), .int (gi (C' 3)), .int (gi (C' 4)), .int (gi (C' 5))]) (hk : gKp a (a + 1) h h1) : isS E h1 a (S.1, C') := by
  obtain ⟨x1, ⟨f, x2, x2'⟩, x3⟩ := x
  exact ⟨hc, ⟨f, (hk _ (by omega)).trans x2, x2'⟩, fun r r0 r3 => (x3 r r0 r3).kept (fun q q1 q2 => hk q (by omega))⟩
def sRep (S : gSt) (w k s val : Int) : gSt := (gup S.1 k (kPut (S.1 k) w s val), gup (gup S.2 1 (S.2 1 + 1)) 2 (S.2 2 + wDrop (S.1 k) w s))
def sBri (S : gSt) (s o k : Int) : gSt := (gup S.1 k (kTake (S.1 k) s o), gup S.2 3 (S.2 3 + pLost (S.1 k) s o))
theorem okS_set {S : gSt} {k : Int} {K' : gKy} {C' : Int → Int} (h : okS S) (hk : okK K') : okS (gup S.1 k K', C') := fun r r0 r3 => by
  by_cases e : r = k
  · subst e
    show okK (gup S.1 r K' r)
    rw [gup_at]
    exact hk
  · show okK (gup S.1 k K' r)
    rw [gup_ne e]
    exact h r r0 r3
/-- one of the 27 steps of pulling all; none: refused -/
def bA1 (S : gSt) (k s o : Int) : Option gSt := if s = o then some S else if pOut (S.1 k) s o 2 ≤ 4 then some (sBri S s o k) else none
def bAr (S : gSt) : Nat → Option gSt
  | 0 => some S
  | q + 1 => (bAr S q).bind (fun T => bA1 T ((q / 9 : Nat) : Int) ((q / 3 % 3 : Nat) : Int) ((q % 3 : Nat) : Int))
theorem bAr_at {S T : gSt} {k s o : Nat} (hs : s < 3) (ho : o < 3) (h : bAr S (9 * k + 3 * s + o) = some T) : bAr S (9 * k + 3 * s + o + 1) = bA1 T (k : Int) (s : Int) (o : Int) := by
  show (bAr S (9 * k + 3 * s + o)).bind _ = _
  rw [h, show (9 * k + 3 * s + o) / 9 = k by omega, show (9 * k + 3 * s + o) / 3 % 3 = s by omega, show (9 * k + 3 * s + o) % 3 = o by omega]
  rfl
theorem bAr_no {S : gSt} {q : Nat} (h : bAr S q = none) : ∀ d : Nat, bAr S (q + d) = none := by
  intro d
  induction d with
  | zero => exact h
  | succ d ih =>
    show (bAr S (q + d)).bind _ = none
    rw [ih]
    rfl
def maxN (f : Int → Int) (a : Int) : Nat → Int
  | 0 => a
  | i + 1 => if maxN f a i < f (i : Int) then f (i : Int) else maxN f a i
theorem maxN_r {f : Int → Int} {a b : Int} (ha : 0 ≤ a ∧ a ≤ b) : ∀ i : Nat, (∀ j : Nat, j < i → 0 ≤ f (j : Int) ∧ f (j : Int) ≤ b) → 0 ≤ maxN f a i ∧ maxN f a i ≤ b := by
  intro i
  induction i with
  | zero => intro _; exact ha
  | succ i ih =>
    intro hf
    have h1 := ih (fun j hj => hf j (by omega))
    have h2 := hf i (by omega)
    unfold maxN
    split
    · exact h2
    · exact h1
def sLen (S : gSt) (k s : Int) : Int := (((S.1 k).2.2.2 s).length : Nat)
def sAll (S : gSt) : Int := sumN (fun k => sumN (fun s => sLen S k s) 3) 3
def sMst (S : gSt) : Nat → Int
  | 0 => 0
  | i + 1 => maxN (fun s => sLen S (i : Int) s) (sMst S i) 3

set_option maxRecDepth 100000 in
set_option maxHeartbeats 4000000 in
theorem c_X3_become {E : gEnv} {n : Nat} {σ : Option Nat} {h : gH} (a b : Nat) (S S2 : gSt) (hab : gB E ≤ a ∧ a + 65 ≤ gB E + n) (hbb : gB E ≤ b ∧ b + 65 ≤ gB E + n) (hd : a + 65 ≤ b ∨ b + 65 ≤ a) (hS : isS E h a S) (hok : okS S) (hS2 : isS E h b S2) (hok2 : okS S2) : gM E mX3_become [.ref a, .ref b] n none h (gD none n none (fun h9 => isS E h9 a S2 ∧ gKp a (a + 65) h h9)) (gNo) := by
  refine gM_of (by decide) (Nat.le_of_ble_eq_true rfl) (fun F C => ?_)
  refine g_iconst 1 C dX3_become_0 rfl ?_
  refine g_istore_n 2 [(2, _), (0, _), (1, _)] C dX3_become_1 (by decide) rfl rfl ?_
  have lp2 : ∀ (k9 : Nat) (i : Nat) (h1 : gH), i ≤ 3 → isS E h1 a (mix S2.1 S.1 (i : Int), S.2) → gKp a (a + 65) h h1 → 3 - i < k9 → G E F mX3_become (gQ E F mX3_become n (gD none n none (fun h9 => isS E h9 a S2 ∧ gKp a (a + 65) h h9)) (gNo)) n none h1 0 0 2 [(2, .int (gi (i : Int))), (0, .ref a), (1, .ref b)] [] := by
    intro k9
    induction k9 with
    | zero => intro i h1 hi hS1 hk h0; exact absurd h0 (Nat.not_lt_zero _)
    | succ k9 ih2 =>
      intro i h1 hi hS1 hk hk2
      have hS19 := hS1
      have hM1 : isS E h1 b S2 := hS2.kept (fun q z1 z2 => hk q (by omega))
      obtain ⟨k1, ⟨ka, k2, kf⟩, k3⟩ := hS1
      obtain ⟨m1, ⟨ma, m2, mf⟩, m3⟩ := hM1
      try dsimp only at k1 k3
      refine g_iload_n 3 C dX3_become_2 rfl rfl ?_
      refine g_iconst 4 C dX3_become_3 rfl ?_
      refine g_icmp_ge 28 7 C dX3_become_4 rfl rfl (by omega) (by omega) (fun c4 => ?_) (fun c4 => ?_)
      · skip
        have hf := hS19.ext (S' := (S2.1, S.2)) (fun x h0 h5 => by dsimp only; rw [mix_lo (show x < (i : Int) by omega)]) (fun _ _ _ => rfl)
        refine g_aload_n 29 C dX3_become_28 rfl rfl ?_
        refine g_aload_n 30 C dX3_become_29 rfl rfl ?_
        refine g_getf 33 C dX3_become_30 fl_RX3_22 rfl (by omega) m1 rfl rfl ?_
        refine g_putf 36 C dX3_become_33 fp_RX3_22 rfl (by omega) k1 rfl rfl (Nat.le_of_ble_eq_true rfl) rfl ?_
        refine g_aload_n 37 C dX3_become_36 rfl rfl ?_
        refine g_aload_n 38 C dX3_become_37 rfl rfl ?_
        refine g_getf 41 C dX3_become_38 fl_RX3_26 rfl (by omega) ((up_n (by omega)).trans m1) rfl rfl ?_
        refine g_putf 44 C dX3_become_41 fp_RX3_26 rfl (by omega) up_s rfl rfl (Nat.le_of_ble_eq_true rfl) rfl ?_
        refine g_aload_n 45 C dX3_become_44 rfl rfl ?_
        refine g_aload_n 46 C dX3_become_45 rfl rfl ?_
        refine g_getf 49 C dX3_become_46 fl_RX3_29 rfl (by omega) ((up_n (by omega)).trans ((up_n (by omega)).trans m1)) rfl rfl ?_
        refine g_putf 52 C dX3_become_49 fp_RX3_29 rfl (by omega) up_s rfl rfl (Nat.le_of_ble_eq_true rfl) rfl ?_
        refine g_aload_n 53 C dX3_become_52 rfl rfl ?_
        refine g_aload_n 54 C dX3_become_53 rfl rfl ?_
        refine g_getf 57 C dX3_become_54 fl_RX3_32 rfl (by omega) ((up_n (by omega)).trans ((up_n (by omega)).trans ((up_n (by omega)).trans m1))) rfl rfl ?_
        refine g_putf 60 C dX3_become_57 fp_RX3_32 rfl (by omega) up_s rfl rfl (Nat.le_of_ble_eq_true rfl) rfl ?_
        refine g_aload_n 61 C dX3_become_60 rfl rfl ?_
        refine g_aload_n 62 C dX3_become_61 rfl rfl ?_
        refine g_getf 65 C dX3_become_62 fl_RX3_35 rfl (by omega) ((up_n (by omega)).trans ((up_n (by omega)).trans ((up_n (by omega)).trans ((up_n (by omega)).trans m1)))) rfl rfl ?_
        refine g_putf 68 C dX3_become_65 fp_RX3_35 rfl (by omega) up_s rfl rfl (Nat.le_of_ble_eq_true rfl) rfl ?_
        exact g_vret C dX3_become_68 rfl ⟨by decide, by decide⟩ (⟨rfl, rfl, rfl, hf.setN (C' := S2.2) up_s (gKp_tr (gKp_up (by omega)) (gKp_tr (gKp_up (by omega)) (gKp_tr (gKp_up (by omega)) (gKp_tr (gKp_up (by omega)) (gKp_up (by omega)))))), gKp_tr hk (gKp_tr (gKp_up (by omega)) (gKp_tr (gKp_up (by omega)) (gKp_tr (gKp_up (by omega)) (gKp_tr (gKp_up (by omega)) (gKp_up (by omega))))))⟩)
      · skip
        have hc9 := k3 (i : Int) (by omega) (by omega)
        rw [mix_hi (Int.le_refl _)] at hc9
        refine g_aload_n 8 C dX3_become_7 rfl rfl ?_
        refine g_getf 11 C dX3_become_8 fl_RX3_11 rfl (by omega) k1 rfl rfl ?_
        refine g_iload_n 12 C dX3_become_11 rfl rfl ?_
        refine g_aald 13 C dX3_become_12 (by omega) k2 rfl rfl (by omega) (by decide) (kf ((i : Int)) (by omega) (by omega)) rfl ?_
        refine g_aload_n 14 C dX3_become_13 rfl rfl ?_
        refine g_getf 17 C dX3_become_14 fl_RX3_11 rfl (by omega) m1 rfl rfl ?_
        refine g_iload_n 18 C dX3_become_17 rfl rfl ?_
        refine g_aald 19 C dX3_become_18 (by omega) m2 rfl rfl (by omega) (by decide) (mf ((i : Int)) (by omega) (by omega)) rfl ?_
        refine g_V1v 22 0 0 C dX3_become_19 rfl lk_RX3_18 gi_X1_become gv_X1_become ⟨_, _, rfl⟩ (by omega) (k3 ((i : Int)) (by omega) (by omega)).1 ⟨⟨by decide, by decide⟩, by decide, by decide⟩ (Nat.le_of_ble_eq_true rfl) rfl rfl rfl (c_X1_become (σ := none) (a + 2 + 21 * (i : Int).toNat) (b + 2 + 21 * (i : Int).toNat) (S.1 (i : Int)) (S2.1 (i : Int)) (by omega) (by omega) (by omega) hc9 (hok (i : Int) (by omega) (by omega)) (m3 (i : Int) (by omega) (by omega)) (hok2 (i : Int) (by omega) (by omega))) g_no (fun h2 e19 => ?_)
        obtain ⟨hc2, hk2⟩ := e19
        have hS8 := hS19.setK (k := (i : Int)) (by omega) (by omega) hc2 hk2
        try dsimp only at hS8
        rw [mix_up] at hS8
        have hk8 := gKp_tr hk (gKp_wd hk2 (by omega) (by omega))
        refine g_iinc 25 [(2, _), (0, _), (1, _)] C dX3_become_22 rfl (by decide) rfl rfl ?_
        refine g_goto 2 C dX3_become_25 rfl ?_
        refine g_loc [(2, _), (0, _), (1, _)] ⟨rfl, rfl, rfl, trivial⟩ ?_
        exact ih2 (i + 1) _ (by omega) hS8 hk8 (by omega)
  refine g_loc [(2, _), (0, _), (1, _)] ⟨rfl, rfl, rfl, trivial⟩ ?_
  exact lp2 _ 0 h (by omega) (hS.ext (fun x h0 h5 => by dsimp only; rw [mix_hi (show ((0 : Nat) : Int) ≤ x by omega)]) (fun _ _ _ => rfl)) gKp_rf (Nat.lt_succ_self _)
set_option maxRecDepth 100000 in
set_option maxHeartbeats 4000000 in
theorem c_X3_replace {E : gEnv} {n : Nat} {σ : Option Nat} {h : gH} (a : Nat) (S : gSt) (w k s val : Int) (hab : gB E ≤ a ∧ a + 65 ≤ gB E + n) (hS : isS E h a S) (hok : okS S) (hw : 0 ≤ w ∧ w < 5) (hk : 0 ≤ k ∧ k < 3) (hs : 0 ≤ s ∧ s < 3) (h999 : (S.1 k).1 w < 999)  : gM E mX3_replace [.ref a, .int (gi w), .int (gi k), .int (gi s), .int (gi val)] n σ h (gD (some (.int (gi (wDrop (S.1 k) w s)))) n σ (fun h9 => isS E h9 a (sRep S w k s val) ∧ gKp a (a + 65) h h9)) (gNo) := by
  obtain ⟨q1, ⟨qa, q2, qf⟩, q3⟩ := hS
  have hS9 : isS E h a S := ⟨q1, ⟨qa, q2, qf⟩, q3⟩
  have hKk := q3 k (by omega) (by omega)
  have hoK := hok k (by omega) (by omega)
  
  refine gM_of (by decide) (Nat.le_of_ble_eq_true rfl) (fun F C => ?_)
  refine g_aload_n 1 C dX3_replace_0 rfl rfl ?_
  refine g_getf 4 C dX3_replace_1 fl_RX3_11 rfl (by omega) q1 rfl rfl ?_
  refine g_iload_n 5 C dX3_replace_4 rfl rfl ?_
  refine g_aald 6 C dX3_replace_5 (by omega) q2 rfl rfl (by omega) (by decide) (qf (k) (by omega) (by omega)) rfl ?_
  refine g_iload_n 7 C dX3_replace_6 rfl rfl ?_
  refine g_iload_n 8 C dX3_replace_7 rfl rfl ?_
  refine g_iconst 9 C dX3_replace_8 rfl ?_
  refine g_V3r 12 0 0 C dX3_replace_9 rfl lk_RX3_38 gi_X1_writeOutlook gv_X1_writeOutlook ⟨_, _, rfl⟩ (by omega) (q3 (k) (by omega) (by omega)).1 ⟨⟨by decide, by decide⟩, by decide, by decide⟩ (Nat.le_of_ble_eq_true rfl) rfl rfl rfl (c_X1_writeOutlook (a + 2 + 21 * k.toNat) (S.1 k) w s 0 (by omega) hKk hoK hw hs (by omega)) g_no (fun h9 e9 => ?_)
  subst e9
  refine g_istore 14 [(5, _), (0, _), (1, _), (2, _), (3, _), (4, _)] C dX3_replace_12 (by decide) rfl rfl ?_
  refine g_aload_n 15 C dX3_replace_14 rfl rfl ?_
  refine g_getf 18 C dX3_replace_15 fl_RX3_11 rfl (by omega) q1 rfl rfl ?_
  refine g_iload_n 19 C dX3_replace_18 rfl rfl ?_
  refine g_aald 20 C dX3_replace_19 (by omega) q2 rfl rfl (by omega) (by decide) (qf (k) (by omega) (by omega)) rfl ?_
  refine g_iload_n 21 C dX3_replace_20 rfl rfl ?_
  refine g_iload_n 22 C dX3_replace_21 rfl rfl ?_
  refine g_iload 24 C dX3_replace_22 rfl rfl ?_
  refine g_V3v 27 0 0 C dX3_replace_24 rfl lk_RX3_42 gi_X1_put gv_X1_put ⟨_, _, rfl⟩ (by omega) (q3 (k) (by omega) (by omega)).1 ⟨⟨by decide, by decide⟩, by decide, by decide⟩ (Nat.le_of_ble_eq_true rfl) rfl rfl rfl (c_X1_put (a + 2 + 21 * k.toNat) (S.1 k) w s val (by omega) hKk hoK hw hs h999) g_no (fun h2 e24 => ?_)
  obtain ⟨hc2, hk2⟩ := e24
  have hS2 := hS9.setK (k := k) (by omega) (by omega) hc2 hk2
  refine g_aload_n 28 C dX3_replace_27 rfl rfl ?_
  refine g_dup 29 C dX3_replace_28 rfl rfl ?_
  refine g_getf 32 C dX3_replace_29 fl_RX3_22 rfl (by omega) hS2.1 rfl rfl ?_
  refine g_iconst 33 C dX3_replace_32 rfl ?_
  refine g_iadd 34 C dX3_replace_33 rfl ?_
  refine g_putf 37 C dX3_replace_34 fp_RX3_22 rfl (by omega) hS2.1 rfl rfl (Nat.le_of_ble_eq_true rfl) rfl ?_
  refine g_aload_n 38 C dX3_replace_37 rfl rfl ?_
  refine g_dup 39 C dX3_replace_38 rfl rfl ?_
  refine g_getf 42 C dX3_replace_39 fl_RX3_26 rfl (by omega) up_s rfl rfl ?_
  refine g_iload 44 C dX3_replace_42 rfl rfl ?_
  refine g_iadd 45 C dX3_replace_44 rfl ?_
  refine g_putf 48 C dX3_replace_45 fp_RX3_26 rfl (by omega) up_s rfl rfl (Nat.le_of_ble_eq_true rfl) rfl ?_
  refine g_iload 50 C dX3_replace_48 rfl rfl ?_
  exact g_iret C dX3_replace_50 rfl ⟨by decide, by decide⟩ (⟨rfl, rfl, rfl, hS2.setN (C' := gup (gup S.2 1 (S.2 1 + 1)) 2 (S.2 2 + wDrop (S.1 k) w s)) up_s (gKp_tr (gKp_up (by omega)) (gKp_up (by omega))), gKp_tr (gKp_wd hk2 (by omega) (by omega)) (gKp_tr (gKp_up (by omega)) (gKp_up (by omega)))⟩)
