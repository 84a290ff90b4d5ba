/-! SiblingJoinsModel: what changes the row of numbers -/
/-- f1 is f but from a on, d numbers -/
def fKp (a d : Int) (f f1 : Int → Int) : Prop := ∀ i : Int, (i < a ∨ a + d ≤ i) → f1 i = f i
theorem fKp_rf {a d : Int} {f : Int → Int} : fKp a d f f := fun _ _ => rfl
theorem fKp_tr {a d : Int} {f f1 f2 : Int → Int} (x : fKp a d f f1) (y : fKp a d f1 f2) : fKp a d f f2 := fun i hi => (y i hi).trans (x i hi)
theorem fKp_wd {a d a' d' : Int} {f f1 : Int → Int} (x : fKp a d f f1) (h1 : a' ≤ a) (h2 : a + d ≤ a' + d') : fKp a' d' f f1 := fun i hi => x i (by omega)
theorem fKp_up {a d q : Int} {f : Int → Int} {v : Int} (h : a ≤ q ∧ q < a + d) : fKp a d f (gup f q v) := fun i hi => gup_ne (by omega)
theorem Rv.kept {f f1 : Int → Int} {a : Int} {v : Int → Int} (x : Rv f a v) (hk : ∀ i : Int, a ≤ i → i < a + 5 → f1 i = f i) : Rv f1 a v := fun w w0 w5 => (hk _ (by omega) (by omega)).trans (x w w0 w5)
/-- entries of a row -/
def Rp (f : Int → Int) (b : Int) (l : List (Int × Int)) : Prop := ∀ (p : Nat) (y : Int × Int), l[p]? = some y → f (b + 1 + 3 * (p : Int)) = y.1 / 1000 ∧ f (b + 1 + 3 * (p : Int) + 1) = y.1 % 1000 ∧ f (b + 1 + 3 * (p : Int) + 2) = y.2
theorem Rp.kept {f f1 : Int → Int} {b : Int} {l : List (Int × Int)} (x : Rp f b l) (hk : ∀ i : Int, b + 1 ≤ i → i < b + 1 + 3 * (l.length : Int) → f1 i = f i) : Rp f1 b l := fun p y hy => by
  have hp := (List.getElem?_eq_some_iff.mp hy).1
  obtain ⟨x1, x2, x3⟩ := x p y hy
  exact ⟨(hk _ (by omega) (by omega)).trans x1, (hk _ (by omega) (by omega)).trans x2, (hk _ (by omega) (by omega)).trans x3⟩
theorem Rp.push {f : Int → Int} {b : Int} {l : List (Int × Int)} {y : Int × Int} (x : Rp f b l) (h1 : f (b + 1 + 3 * (l.length : Int)) = y.1 / 1000) (h2 : f (b + 1 + 3 * (l.length : Int) + 1) = y.1 % 1000) (h3 : f (b + 1 + 3 * (l.length : Int) + 2) = y.2) : Rp f b (l ++ [y]) := fun p z hz => by
  by_cases hp : p < l.length
  · rw [List.getElem?_append_left hp] at hz
    exact x p z hz
  · have hp2 := (List.getElem?_eq_some_iff.mp hz).1
    rw [List.length_append, List.length_singleton] at hp2
    have e : p = l.length := by omega
    subst e
    rw [List.getElem?_append_right (Nat.le_refl _), Nat.sub_self] at hz
    cases hz
    exact ⟨h1, h2, h3⟩
theorem Rl.kept {f f1 : Int → Int} {b : Int} {l : List (Int × Int)} (x : Rl f b l) (h4 : l.length ≤ 4) (hk : ∀ i : Int, b ≤ i → i < b + 19 → f1 i = f i) : Rl f1 b l := ⟨(hk b (Int.le_refl _) (by omega)).trans x.1, Rp.kept (f := f) x.2 (fun i i1 i2 => hk i (by omega) (by omega))⟩
theorem Rk.kept {f f1 : Int → Int} {k : Int} {K : gKy} (x : Rk f k K) (hok : okK K) (h1 : ∀ i : Int, 5 * k ≤ i → i < 5 * k + 5 → f1 i = f i) (h2 : ∀ i : Int, 15 + 25 * k ≤ i → i < 15 + 25 * k + 25 → f1 i = f i) (h3 : ∀ i : Int, 90 + 15 * k ≤ i → i < 90 + 15 * k + 15 → f1 i = f i) (h4 : ∀ i : Int, 135 + 57 * k ≤ i → i < 135 + 57 * k + 57 → f1 i = f i) : Rk f1 k K := by
  obtain ⟨x1, x2, x3, x4⟩ := x
  exact ⟨x1.kept (fun i i1 i2 => h1 i (by omega) (by omega)), fun w w0 w5 => (x2 w w0 w5).kept (fun i i1 i2 => h2 i (by omega) (by omega)), fun s s0 s3 => (x3 s s0 s3).kept (fun i i1 i2 => h3 i (by omega) (by omega)), fun s s0 s3 => (x4 s s0 s3).kept (hok.2.2.2 s s0 s3).1 (fun i i1 i2 => h4 i (by omega) (by omega))⟩
theorem Rk.setW {f f1 : Int → Int} {k : Int} {K : gKy} {v : Int → Int} (x : Rk f k K) (hok : okK K) (h0 : 0 ≤ k ∧ k < 3) (hv : Rv f1 (5 * k) v) (hk : fKp (5 * k) 5 f f1) : Rk f1 k (v, K.2) := by
  obtain ⟨x1, x2, x3, x4⟩ := x
  exact ⟨hv, fun w w0 w5 => (x2 w w0 w5).kept (fun i i1 i2 => hk i (by omega)), fun s s0 s3 => (x3 s s0 s3).kept (fun i i1 i2 => hk i (by omega)), fun s s0 s3 => (x4 s s0 s3).kept (hok.2.2.2 s s0 s3).1 (fun i i1 i2 => hk i (by omega))⟩
theorem Rk.setN {f f1 : Int → Int} {k w : Int} {K : gKy} {v : Int → Int} (x : Rk f k K) (hok : okK K) (h0 : 0 ≤ k ∧ k < 3) (hw : 0 ≤ w ∧ w < 5) (hv : Rv f1 (15 + 25 * k + 5 * w) v) (hk : fKp (15 + 25 * k + 5 * w) 5 f f1) : Rk f1 k (K.1, gup K.2.1 w v, K.2.2) := by
  obtain ⟨x1, x2, x3, x4⟩ := x
  refine ⟨x1.kept (fun i i1 i2 => hk i (by omega)), fun r r0 r5 => ?_, fun s s0 s3 => (x3 s s0 s3).kept (fun i i1 i2 => hk i (by omega)), fun s s0 s3 => (x4 s s0 s3).kept (hok.2.2.2 s s0 s3).1 (fun i i1 i2 => hk i (by omega))⟩
  by_cases e : r = w
  · subst e
    show Rv f1 _ (gup K.2.1 r v r)
    rw [gup_at]
    exact hv
  · show Rv f1 _ (gup K.2.1 w v r)
    rw [gup_ne e]
    exact (x2 r r0 r5).kept (fun i i1 i2 => hk i (by omega))
theorem Rk.setV {f f1 : Int → Int} {k s : Int} {K : gKy} {v : Int → Int} (x : Rk f k K) (hok : okK K) (h0 : 0 ≤ k ∧ k < 3) (hs : 0 ≤ s ∧ s < 3) (hv : Rv f1 (90 + 15 * k + 5 * s) v) (hk : fKp (90 + 15 * k + 5 * s) 5 f f1) : Rk f1 k (K.1, K.2.1, gup K.2.2.1 s v, K.2.2.2) := by
  obtain ⟨x1, x2, x3, x4⟩ := x
  refine ⟨x1.kept (fun i i1 i2 => hk i (by omega)), fun w w0 w5 => (x2 w w0 w5).kept (fun i i1 i2 => hk i (by omega)), fun r r0 r3 => ?_, fun s s0 s3 => (x4 s s0 s3).kept (hok.2.2.2 s s0 s3).1 (fun i i1 i2 => hk i (by omega))⟩
  by_cases e : r = s
  · subst e
    show Rv f1 _ (gup K.2.2.1 r v r)
    rw [gup_at]
    exact hv
  · show Rv f1 _ (gup K.2.2.1 s v r)
    rw [gup_ne e]
    exact (x3 r r0 r3).kept (fun i i1 i2 => hk i (by omega))
theorem Rk.setL {f f1 : Int → Int} {k s : Int} {K : gKy} {l : List (Int × Int)} (x : Rk f k K) (hok : okK K) (h0 : 0 ≤ k ∧ k < 3) (hs : 0 ≤ s ∧ s < 3) (hv : Rl f1 (135 + 19 * (3 * k + s)) l) (hk : fKp (135 + 19 * (3 * k + s)) 19 f f1) : Rk f1 k (K.1, K.2.1, K.2.2.1, gup K.2.2.2 s l) := by
  obtain ⟨x1, x2, x3, x4⟩ := x
  refine ⟨x1.kept (fun i i1 i2 => hk i (by omega)), fun w w0 w5 => (x2 w w0 w5).kept (fun i i1 i2 => hk i (by omega)), fun r r0 r3 => (x3 r r0 r3).kept (fun i i1 i2 => hk i (by omega)), fun r r0 r3 => ?_⟩
  by_cases e : r = s
  · subst e
    show Rl f1 _ (gup K.2.2.2 r l r)
    rw [gup_at]
    exact hv
  · show Rl f1 _ (gup K.2.2.2 s l r)
    rw [gup_ne e]
    exact (x4 r r0 r3).kept (hok.2.2.2 r r0 r3).1 (fun i i1 i2 => hk i (by omega))
/-- only what belongs to the key k has changed -/
def fKy (k : Int) (f f1 : Int → Int) : Prop := ∀ i : Int, ¬ (5 * k ≤ i ∧ i < 5 * k + 5) → ¬ (15 + 25 * k ≤ i ∧ i < 15 + 25 * k + 25) → ¬ (90 + 15 * k ≤ i ∧ i < 90 + 15 * k + 15) → ¬ (135 + 57 * k ≤ i ∧ i < 135 + 57 * k + 57) → f1 i = f i
theorem Rz.setK {f f1 : Int → Int} {S : gSt} {k : Int} {K' : gKy} (x : Rz f S) (hok : okS S) (h0 : 0 ≤ k ∧ k < 3) (hv : Rk f1 k K') (hk : fKy k f f1) : Rz f1 (tKey S k K') := by
  refine ⟨fun r r0 r3 => ?_, fun j j1 j5 => (hk _ (by omega) (by omega) (by omega) (by omega)).trans (x.2 j j1 j5)⟩
  show Rk f1 r (gup S.1 k K' r)
  by_cases e : r = k
  · subst e
    rw [gup_at]
    exact hv
  · rw [gup_ne e]
    exact (x.1 r r0 r3).kept (hok r r0 r3) (fun i i1 i2 => hk i (by omega) (by omega) (by omega) (by omega)) (fun i i1 i2 => hk i (by omega) (by omega) (by omega) (by omega)) (fun i i1 i2 => hk i (by omega) (by omega) (by omega) (by omega)) (fun i i1 i2 => hk i (by omega) (by omega) (by omega) (by omega))
theorem Rz.setC {f : Int → Int} {S : gSt} {j v : Int} (x : Rz f S) (hok : okS S) (h0 : 1 ≤ j ∧ j ≤ 5) : Rz (gup f (305 + j) v) (S.1, gup S.2 j v) := by
  refine ⟨fun r r0 r3 => (x.1 r r0 r3).kept (hok r r0 r3) (fun i i1 i2 => gup_ne (by omega)) (fun i i1 i2 => gup_ne (by omega)) (fun i i1 i2 => gup_ne (by omega)) (fun i i1 i2 => gup_ne (by omega)), fun r r1 r5 => ?_⟩
  show gup f (305 + j) v (305 + r) = gup S.2 j v r
  by_cases e : r = j
  · subst e
    rw [gup_at, gup_at]
  · rw [gup_ne (by omega), gup_ne e]
    exact x.2 r r1 r5
theorem fl_s {l : List (Int × Int)} {i : Nat} {y : Int × Int} {q : Int × Int → Bool} (h : l[i]? = some y) : (l.take (i + 1)).filter q = if q y then (l.take i).filter q ++ [y] else (l.take i).filter q := by
  rw [take_s h, List.filter_append]
  cases e : q y <;> simp [e]

set_option maxRecDepth 100000 in
set_option maxHeartbeats 4000000 in
theorem c_X5_merges {E : gEnv} {n : Nat} {σ : Option Nat} {h : gH} (m : Nat) (g : Int → Int) (hs : Int64) (f : Int → Int) (a b : Int) (v u : Int → Int) (hmb : gB E ≤ m ∧ m + 7 ≤ gB E + n) (hm : isMo h m g hs) (hz : h (m + 1) = gI E 311 f) (ha : 0 ≤ a ∧ a ≤ 306) (hb : 0 ≤ b ∧ b ≤ 306) (hab : a + 5 ≤ b ∨ b + 5 ≤ a) (hv : Rv f a v) (hu : Rv f b u) (hov : okV v) (hou : okV u)  : gM E mX5_merges [.ref m, .int (gi a), .int (gi b)] n σ h (gD (none) n σ (fun h9 => (∃ f9 : Int → Int, h9 (m + 1) = gI E 311 f9 ∧ Rv f9 a (vmx v u) ∧ fKp a 5 f f9) ∧ gKp (m + 1) (m + 2) h h9)) (gNo) := by
  have hm9 := hm
  unfold isMo at hm
  refine gM_of (by decide) (Nat.le_of_ble_eq_true rfl) (fun F C => ?_)
  refine g_iconst 1 C dX5_merges_0 rfl ?_
  refine g_istore_n 2 [(3, _), (0, _), (1, _), (2, _)] C dX5_merges_1 (by decide) rfl rfl ?_
  have lp2 : ∀ (k9 : Nat) (i : Nat) (h1 : gH) (f1 : Int → Int), (i ≤ 5) → (h1 (m + 1) = gI E 311 f1) → (gKp (m + 1) (m + 2) h h1) → (∀ j : Int, 0 ≤ j → j < (i : Int) → f1 (a + j) = vmx v u j) → (∀ x9 : Int, (x9 < a ∨ a + (i : Int) ≤ x9) → f1 x9 = f x9) → 5 - i < k9 → G E F mX5_merges (gQ E F mX5_merges n (gD (none) n σ (fun h9 => (∃ f9 : Int → Int, h9 (m + 1) = gI E 311 f9 ∧ Rv f9 a (vmx v u) ∧ fKp a 5 f f9) ∧ gKp (m + 1) (m + 2) h h9)) (gNo)) n σ h1 0 0 2 [(3, .int (gi (i : Int))), (0, .ref m), (1, .int (gi a)), (2, .int (gi b))] [] := by
    intro k9
    induction k9 with
    | zero => intro i h1 f1 hi hz1 hk1 hA hB h0; exact absurd h0 (Nat.not_lt_zero _)
    | succ k9 ih2 =>
      intro i h1 f1 hi hz1 hk1 hA hB hk2
      have m1 := (hk1 m (by omega)).trans hm
      refine g_iload_n 3 C dX5_merges_2 rfl rfl ?_
      refine g_iconst 4 C dX5_merges_3 rfl ?_
      refine g_icmp_ge 59 7 C dX5_merges_4 rfl rfl (by omega) (by omega) (fun c4 => ?_) (fun c4 => ?_)
      · skip
        exact g_vret C dX5_merges_59 rfl ⟨by decide, by decide⟩ (⟨rfl, rfl, rfl, ⟨f1, hz1, fun w w0 w5 => hA w w0 (by omega), fun x9 z => hB x9 (by omega)⟩, hk1⟩)
      · skip
        have e1 := (hB (a + (i : Int)) (by omega)).trans (hv (i : Int) (by omega) (by omega))
        have e2 := (hB (b + (i : Int)) (by omega)).trans (hu (i : Int) (by omega) (by omega))
        have o1 := hov (i : Int) (by omega) (by omega)
        have o2 := hou (i : Int) (by omega) (by omega)
        refine g_aload_n 8 C dX5_merges_7 rfl rfl ?_
        refine g_getf 11 C dX5_merges_8 fl_RX5_7 rfl (by omega) m1 rfl rfl ?_
        refine g_iload_n 12 C dX5_merges_11 rfl rfl ?_
        refine g_iload_n 13 C dX5_merges_12 rfl rfl ?_
        refine g_iadd 14 C dX5_merges_13 rfl ?_
        refine g_aload_n 15 C dX5_merges_14 rfl rfl ?_
        refine g_getf 18 C dX5_merges_15 fl_RX5_7 rfl (by omega) m1 rfl rfl ?_
        refine g_iload_n 19 C dX5_merges_18 rfl rfl ?_
        refine g_iload_n 20 C dX5_merges_19 rfl rfl ?_
        refine g_iadd 21 C dX5_merges_20 rfl ?_
        refine g_iald 22 C dX5_merges_21 (by omega) hz1 (by omega) (by decide) rfl ?_
        rw [e2]
        refine g_aload_n 23 C dX5_merges_22 rfl rfl ?_
        refine g_getf 26 C dX5_merges_23 fl_RX5_7 rfl (by omega) m1 rfl rfl ?_
        refine g_iload_n 27 C dX5_merges_26 rfl rfl ?_
        refine g_iload_n 28 C dX5_merges_27 rfl rfl ?_
        refine g_iadd 29 C dX5_merges_28 rfl ?_
        refine g_iald 30 C dX5_merges_29 (by omega) hz1 (by omega) (by decide) rfl ?_
        rw [e1]
        refine g_icmp_le 44 33 C dX5_merges_30 rfl rfl (by omega) (by omega) (fun c30 => ?_) (fun c30 => ?_)
        · skip
          have ev : vmx v u (i : Int) = v (i : Int) := if_neg (by omega)
          refine g_aload_n 45 C dX5_merges_44 rfl rfl ?_
          refine g_getf 48 C dX5_merges_45 fl_RX5_7 rfl (by omega) m1 rfl rfl ?_
          refine g_iload_n 49 C dX5_merges_48 rfl rfl ?_
          refine g_iload_n 50 C dX5_merges_49 rfl rfl ?_
          refine g_iadd 51 C dX5_merges_50 rfl ?_
          refine g_iald 52 C dX5_merges_51 (by omega) hz1 (by omega) (by decide) rfl ?_
          rw [e1]
          rw [← ev]
          refine g_iast 53 C dX5_merges_52 (by omega) hz1 (by omega) (by decide) rfl ?_
          have hA8 : ∀ j : Int, 0 ≤ j → j < ((i + 1 : Nat) : Int) → gup f1 (a + (i : Int)) (vmx v u (i : Int)) (a + j) = vmx v u j := fun j j0 j1 => by
            by_cases e : j = (i : Int)
            · rw [e, gup_at]
            · rw [gup_ne (by omega)]
              exact hA j j0 (by omega)
          have hB8 : ∀ x9 : Int, (x9 < a ∨ a + ((i + 1 : Nat) : Int) ≤ x9) → gup f1 (a + (i : Int)) (vmx v u (i : Int)) x9 = f x9 := fun x9 z => by
            rw [gup_ne (by omega)]
            exact hB x9 (by omega)
          refine g_iinc 56 [(3, _), (0, _), (1, _), (2, _)] C dX5_merges_53 rfl (by decide) rfl rfl ?_
          refine g_goto 2 C dX5_merges_56 rfl ?_
          refine g_loc [(3, _), (0, _), (1, _), (2, _)] ⟨rfl, rfl, rfl, rfl, trivial⟩ ?_
          exact ih2 (i + 1) _ _ (by omega) up_s (gKp_tr hk1 (gKp_up (by omega))) hA8 hB8 (by omega)
        · skip
          have ev : vmx v u (i : Int) = u (i : Int) := if_pos (by omega)
          refine g_aload_n 34 C dX5_merges_33 rfl rfl ?_
          refine g_getf 37 C dX5_merges_34 fl_RX5_7 rfl (by omega) m1 rfl rfl ?_
          refine g_iload_n 38 C dX5_merges_37 rfl rfl ?_
          refine g_iload_n 39 C dX5_merges_38 rfl rfl ?_
          refine g_iadd 40 C dX5_merges_39 rfl ?_
          refine g_iald 41 C dX5_merges_40 (by omega) hz1 (by omega) (by decide) rfl ?_
          rw [e2]
          refine g_goto 52 C dX5_merges_41 rfl ?_
          rw [← ev]
          refine g_iast 53 C dX5_merges_52 (by omega) hz1 (by omega) (by decide) rfl ?_
          have hA8 : ∀ j : Int, 0 ≤ j → j < ((i + 1 : Nat) : Int) → gup f1 (a + (i : Int)) (vmx v u (i : Int)) (a + j) = vmx v u j := fun j j0 j1 => by
            by_cases e : j = (i : Int)
            · rw [e, gup_at]
            · rw [gup_ne (by omega)]
              exact hA j j0 (by omega)
          have hB8 : ∀ x9 : Int, (x9 < a ∨ a + ((i + 1 : Nat) : Int) ≤ x9) → gup f1 (a + (i : Int)) (vmx v u (i : Int)) x9 = f x9 := fun x9 z => by
            rw [gup_ne (by omega)]
            exact hB x9 (by omega)
          refine g_iinc 56 [(3, _), (0, _), (1, _), (2, _)] C dX5_merges_53 rfl (by decide) rfl rfl ?_
          refine g_goto 2 C dX5_merges_56 rfl ?_
          refine g_loc [(3, _), (0, _), (1, _), (2, _)] ⟨rfl, rfl, rfl, rfl, trivial⟩ ?_
          exact ih2 (i + 1) _ _ (by omega) up_s (gKp_tr hk1 (gKp_up (by omega))) hA8 hB8 (by omega)
  refine g_loc [(3, _), (0, _), (1, _), (2, _)] ⟨rfl, rfl, rfl, rfl, trivial⟩ ?_
  exact lp2 _ 0 h f (by omega) hz gKp_rf (fun j j0 j1 => absurd j1 (by omega)) (fun _ _ => rfl) (Nat.lt_succ_self _)
theorem gup_eq {α : Type} {f : Int → α} {i j : Int} {v : α} (h : j = i) : gup f i v j = v := if_pos h
set_option maxRecDepth 100000 in
set_option maxHeartbeats 4000000 in
theorem c_X5_drops {E : gEnv} {n : Nat} {σ : Option Nat} {h : gH} (m : Nat) (g : Int → Int) (hs : Int64) (f : Int → Int) (k : Int) (K : gKy) (w s : Int) (hmb : gB E ≤ m ∧ m + 7 ≤ gB E + n) (hm : isMo h m g hs) (hz : h (m + 1) = gI E 311 f) (hk : 0 ≤ k ∧ k < 3) (hR : Rk f k K) (hok : okK K) (hw : 0 ≤ w ∧ w < 5) (hss : 0 ≤ s ∧ s < 3)  : gM E mX5_drops [.ref m, .int (gi w), .int (gi k), .int (gi s)] n σ h (gD (none) n σ (fun h9 => (∃ f9 : Int → Int, h9 (m + 1) = gI E 311 f9 ∧ Rl f9 (135 + 19 * (3 * k + s)) ((K.2.2.2 s).filter (fun p : Int × Int => !(cov (K.2.1 w) p.1))) ∧ fKp (135 + 19 * (3 * k + s)) 19 f f9) ∧ gKp (m + 1) (m + 2) h h9)) (gNo) := by
  have hm9 := hm
  unfold isMo at hm
  have hR9 := hR
  have hok9 := hok
  obtain ⟨rW, rN, rV, rL⟩ := hR
  obtain ⟨oW, oN, oV, oL⟩ := hok
  have h4 := (oL s (by omega) (by omega)).1
  have hl := rL s (by omega) (by omega)
  have m1 := hm
  have hz1 := hz
  refine gM_of (by decide) (Nat.le_of_ble_eq_true rfl) (fun F C => ?_)
  refine g_iconst 1 C dX5_drops_0 rfl ?_
  refine g_istore 3 [(4, _), (0, _), (1, _), (2, _), (3, _)] C dX5_drops_1 (by decide) rfl rfl ?_
  refine g_aload_n 4 C dX5_drops_3 rfl rfl ?_
  refine g_iload_n 5 C dX5_drops_4 rfl rfl ?_
  refine g_iload_n 6 C dX5_drops_5 rfl rfl ?_
  refine g_V2r 9 0 0 C dX5_drops_6 rfl lk_RX5_47 gi_X5_siblings gv_X5_siblings ⟨_, _, rfl⟩ (by omega) m1 ⟨⟨by decide, by decide⟩, by decide, by decide⟩ (Nat.le_of_ble_eq_true rfl) rfl rfl rfl (c_X5_siblings m g hs f k s (K.2.2.2 s) hmb hm9 hz hk (by omega) (rL s (by omega) (by omega))) g_no (fun h9 e6 => ?_)
  replace e6 := e6.symm
  subst e6
  refine g_istore 11 [(5, _), (4, _), (0, _), (1, _), (2, _), (3, _)] C dX5_drops_9 (by decide) rfl rfl ?_
  refine g_iconst 12 C dX5_drops_11 rfl ?_
  refine g_istore 14 [(6, _), (5, _), (4, _), (0, _), (1, _), (2, _), (3, _)] C dX5_drops_12 (by decide) rfl rfl ?_
  have lp14 : ∀ (k9 : Nat) (i : Nat) (h1 : gH) (f1 : Int → Int), (i ≤ (K.2.2.2 s).length) → (h1 (m + 1) = gI E 311 f1) → (gKp (m + 1) (m + 2) h h1) → (Rp f1 (135 + 19 * (3 * k + s)) (((K.2.2.2 s).take i).filter (fun p : Int × Int => !(cov (K.2.1 w) p.1)))) → (∀ x9 : Int, (x9 < (135 + 19 * (3 * k + s)) + 1 ∨ (135 + 19 * (3 * k + s)) + 1 + 3 * (i : Int) ≤ x9) → f1 x9 = f x9) → (K.2.2.2 s).length - i < k9 → G E F mX5_drops (gQ E F mX5_drops n (gD (none) n σ (fun h9 => (∃ f9 : Int → Int, h9 (m + 1) = gI E 311 f9 ∧ Rl f9 (135 + 19 * (3 * k + s)) ((K.2.2.2 s).filter (fun p : Int × Int => !(cov (K.2.1 w) p.1))) ∧ fKp (135 + 19 * (3 * k + s)) 19 f f9) ∧ gKp (m + 1) (m + 2) h h9)) (gNo)) n σ h1 0 0 14 [(6, .int (gi (i : Int))), (5, .int (gi ((K.2.2.2 s).length : Int))), (4, .int (gi ((((K.2.2.2 s).take i).filter (fun p : Int × Int => !(cov (K.2.1 w) p.1))).length : Int))), (0, .ref m), (1, .int (gi w)), (2, .int (gi k)), (3, .int (gi s))] [] := by
    intro k9
    induction k9 with
    | zero => intro i h1 f1 hi hz1 hk1 hA hB h0; exact absurd h0 (Nat.not_lt_zero _)
    | succ k9 ih14 =>
      intro i h1 f1 hi hz1 hk1 hA hB hk14
      have m1 := (hk1 m (by omega)).trans hm
      have hlf : (((K.2.2.2 s).take i).filter (fun p : Int × Int => !(cov (K.2.1 w) p.1))).length ≤ i := Nat.le_trans (List.length_filter_le _ _) (by rw [List.length_take]; omega)
      have hm91 : isMo h1 m g hs := m1
      refine g_iload 16 C dX5_drops_14 rfl rfl ?_
      refine g_iload 18 C dX5_drops_16 rfl rfl ?_
      refine g_icmp_ge 97 21 C dX5_drops_18 rfl rfl (by omega) (by omega) (fun c18 => ?_) (fun c18 => ?_)
      · skip
        have hil : i = (K.2.2.2 s).length := by omega
        refine g_aload_n 98 C dX5_drops_97 rfl rfl ?_
        refine g_getf 101 C dX5_drops_98 fl_RX5_7 rfl (by omega) m1 rfl rfl ?_
        refine g_iload_n 102 C dX5_drops_101 rfl rfl ?_
        refine g_iload_n 103 C dX5_drops_102 rfl rfl ?_
        refine g_S2r 106 0 0 C dX5_drops_103 rfl lk_RX5_43 gs_X5_rowAt ⟨⟨by decide, by decide⟩, by decide, by decide⟩ (Nat.le_of_ble_eq_true rfl) rfl rfl rfl (c_X5_rowAt k s) g_no (fun h9 e103 => ?_)
        replace e103 := e103.symm
        subst e103
        refine g_iload 108 C dX5_drops_106 rfl rfl ?_
        refine g_iast 109 C dX5_drops_108 (by omega) hz1 (by omega) (by decide) rfl ?_
        exact g_vret C dX5_drops_109 rfl ⟨by decide, by decide⟩ (by
            have hfin := hA
            rw [hil, List.take_length] at hfin
            have hle : ((K.2.2.2 s).filter (fun p : Int × Int => !(cov (K.2.1 w) p.1))).length ≤ 4 := Nat.le_trans (List.length_filter_le _ _) h4
            refine ⟨rfl, rfl, rfl, ⟨_, up_s, ⟨?_, Rp.kept (f := f1) hfin (fun i9 q1 q2 => gup_ne (by omega))⟩, fun i9 z => (gup_ne (by omega)).trans (hB i9 (by omega))⟩, gKp_tr hk1 (gKp_up (by omega))⟩
            rw [gup_at, hil, List.take_length])
      · skip
        have hol := oL s (by omega) (by omega)
        obtain ⟨y, hy, hyl⟩ := get_of (l := (K.2.2.2 s)) (i := i) (by omega)
        obtain ⟨y1, y2, y3⟩ := hl.2 i y hy
        have hyo := hol.2 y hyl
        have z1 := (hB ((135 + 19 * (3 * k + s)) + 1 + 3 * (i : Int)) (by omega)).trans y1
        have z2 := (hB ((135 + 19 * (3 * k + s)) + 1 + 3 * (i : Int) + 1) (by omega)).trans y2
        have z3 := (hB ((135 + 19 * (3 * k + s)) + 1 + 3 * (i : Int) + 2) (by omega)).trans y3
        have efl := fl_s (q := (fun p : Int × Int => !(cov (K.2.1 w) p.1))) hy
        refine g_iload_n 22 C dX5_drops_21 rfl rfl ?_
        refine g_iload_n 23 C dX5_drops_22 rfl rfl ?_
        refine g_iload 25 C dX5_drops_23 rfl rfl ?_
        refine g_S3r 28 0 0 C dX5_drops_25 rfl lk_RX5_50 gs_X5_placeAt ⟨⟨by decide, by decide⟩, by decide, by decide⟩ (Nat.le_of_ble_eq_true rfl) rfl rfl rfl (c_X5_placeAt k s (i : Int)) g_no (fun h9 e25 => ?_)
        replace e25 := e25.symm
        subst e25
        refine g_istore 30 [(7, _), (6, _), (5, _), (4, _), (0, _), (1, _), (2, _), (3, _)] C dX5_drops_28 (by decide) rfl rfl ?_
        refine g_aload_n 31 C dX5_drops_30 rfl rfl ?_
        refine g_iload_n 32 C dX5_drops_31 rfl rfl ?_
        refine g_iload_n 33 C dX5_drops_32 rfl rfl ?_
        refine g_S2r 36 0 0 C dX5_drops_33 rfl lk_RX5_54 gs_X5_knowsAt ⟨⟨by decide, by decide⟩, by decide, by decide⟩ (Nat.le_of_ble_eq_true rfl) rfl rfl rfl (c_X5_knowsAt k w) g_no (fun h9 e33 => ?_)
        replace e33 := e33.symm
        subst e33
        refine g_iload 38 C dX5_drops_36 rfl rfl ?_
        refine g_V2r 41 0 0 C dX5_drops_38 rfl lk_RX5_57 gi_X5_covers gv_X5_covers ⟨_, _, rfl⟩ (by omega) m1 ⟨⟨by decide, by decide⟩, by decide, by decide⟩ (Nat.le_of_ble_eq_true rfl) rfl rfl rfl (c_X5_covers m g hs f1 (15 + 25 * k + 5 * w) ((135 + 19 * (3 * k + s)) + 1 + 3 * (i : Int)) y.1 (K.2.1 w) hmb hm91 hz1 (by omega) (by omega) (by omega) z1 z2 ((rN w hw.1 hw.2).kept (fun i9 q1 q2 => hB i9 (by omega))) (oN w hw.1 hw.2)) g_no (fun h9 e38 => ?_)
        replace e38 := e38.symm
        subst e38
        refine g_if_ne 91 44 C dX5_drops_41 rfl rfl (gbi_r _) (fun c41 => ?_) (fun c41 => ?_)
        · skip
          have ec := gbi_1 c41
          have ef : ((K.2.2.2 s).take (i + 1)).filter (fun p : Int × Int => !(cov (K.2.1 w) p.1)) = (((K.2.2.2 s).take i).filter (fun p : Int × Int => !(cov (K.2.1 w) p.1))) := by rw [efl, if_neg (show ¬ ((!(cov (K.2.1 w) y.1)) = true) by rw [ec]; decide)]
          have hz8 := hz1
          have hk8 := hk1
          have hA8 := hA
          have hB8 : ∀ x9 : Int, (x9 < (135 + 19 * (3 * k + s)) + 1 ∨ (135 + 19 * (3 * k + s)) + 1 + 3 * ((i + 1 : Nat) : Int) ≤ x9) → f1 x9 = f x9 := fun x9 z => hB x9 (by omega)
          refine g_iinc 94 [(6, _), (7, _), (5, _), (4, _), (0, _), (1, _), (2, _), (3, _)] C dX5_drops_91 rfl (by decide) rfl rfl ?_
          refine g_goto 14 C dX5_drops_94 rfl ?_
          refine g_loc [(6, _), (5, _), (4, .int (gi (((((K.2.2.2 s).take (i + 1)).filter (fun p : Int × Int => !(cov (K.2.1 w) p.1))).length : Nat) : Int))), (0, _), (1, _), (2, _), (3, _)] ⟨rfl, rfl, (by rw [ef]; first | rfl | (rw [List.length_append]; rfl)), rfl, rfl, rfl, rfl, trivial⟩ ?_
          exact ih14 (i + 1) _ _ (by omega) hz8 hk8 (by rw [ef]; exact hA8) hB8 (by omega)
        · skip
          have ec := gbi_0 c41
          have ef : ((K.2.2.2 s).take (i + 1)).filter (fun p : Int × Int => !(cov (K.2.1 w) p.1)) = (((K.2.2.2 s).take i).filter (fun p : Int × Int => !(cov (K.2.1 w) p.1))) ++ [y] := by rw [efl, if_pos (show (!(cov (K.2.1 w) y.1)) = true by rw [ec]; decide)]
          refine g_iload_n 45 C dX5_drops_44 rfl rfl ?_
          refine g_iload_n 46 C dX5_drops_45 rfl rfl ?_
          refine g_iload 48 C dX5_drops_46 rfl rfl ?_
          refine g_S3r 51 0 0 C dX5_drops_48 rfl lk_RX5_50 gs_X5_placeAt ⟨⟨by decide, by decide⟩, by decide, by decide⟩ (Nat.le_of_ble_eq_true rfl) rfl rfl rfl (c_X5_placeAt k s ((((K.2.2.2 s).take i).filter (fun p : Int × Int => !(cov (K.2.1 w) p.1))).length : Int)) g_no (fun h9 e48 => ?_)
          replace e48 := e48.symm
          subst e48
          refine g_istore 53 [(8, _), (7, _), (6, _), (5, _), (4, _), (0, _), (1, _), (2, _), (3, _)] C dX5_drops_51 (by decide) rfl rfl ?_
          refine g_iconst 54 C dX5_drops_53 rfl ?_
          refine g_istore 56 [(9, _), (8, _), (7, _), (6, _), (5, _), (4, _), (0, _), (1, _), (2, _), (3, _)] C dX5_drops_54 (by decide) rfl rfl ?_
          refine g_iload 58 C dX5_drops_56 rfl rfl ?_
          refine g_iconst 59 C dX5_drops_58 rfl ?_
          refine g_icmp_ge 88 62 C dX5_drops_59 rfl rfl (by omega) (by omega) (fun c59 => ?_) (fun c59 => ?_)
          · skip
            exact absurd c59 (by omega)
          · skip
            refine g_aload_n 63 C dX5_drops_62 rfl rfl ?_
            refine g_getf 66 C dX5_drops_63 fl_RX5_7 rfl (by omega) m1 rfl rfl ?_
            refine g_iload 68 C dX5_drops_66 rfl rfl ?_
            refine g_iload 70 C dX5_drops_68 rfl rfl ?_
            refine g_iadd 71 C dX5_drops_70 rfl ?_
            refine g_aload_n 72 C dX5_drops_71 rfl rfl ?_
            refine g_getf 75 C dX5_drops_72 fl_RX5_7 rfl (by omega) m1 rfl rfl ?_
            refine g_iload 77 C dX5_drops_75 rfl rfl ?_
            refine g_iload 79 C dX5_drops_77 rfl rfl ?_
            refine g_iadd 80 C dX5_drops_79 rfl ?_
            refine g_iald 81 C dX5_drops_80 (by omega) hz1 (by omega) (by decide) rfl ?_
            rw [show f1 (((135 + 19 * (3 * k + s)) + 1 + 3 * (i : Int)) + 0) = y.1 / 1000 by rw [Int.add_zero]; exact z1]
            refine g_iast 82 C dX5_drops_81 (by omega) hz1 (by omega) (by decide) rfl ?_
            refine g_ab (fun z => z (m + 1) = gI E 311 (gup f1 (((135 + 19 * (3 * k + s)) + 1 + 3 * ((((K.2.2.2 s).take i).filter (fun p : Int × Int => !(cov (K.2.1 w) p.1))).length : Int)) + 0) (y.1 / 1000)) ∧ gKp (m + 1) (m + 2) h z) ⟨up_s, gKp_tr hk1 (gKp_up (by omega))⟩ (fun h1 q1 => ?_)
            obtain ⟨hz1, hk1⟩ := q1
            have m1 := (hk1 m (by omega)).trans hm
            refine g_iinc 85 [(9, _), (8, _), (7, _), (6, _), (5, _), (4, _), (0, _), (1, _), (2, _), (3, _)] C dX5_drops_82 rfl (by decide) rfl rfl ?_
            refine g_goto 56 C dX5_drops_85 rfl ?_
            refine g_iload 58 C dX5_drops_56 rfl rfl ?_
            refine g_iconst 59 C dX5_drops_58 rfl ?_
            refine g_icmp_ge 88 62 C dX5_drops_59 rfl rfl (by omega) (by omega) (fun c59 => ?_) (fun c59 => ?_)
            · skip
              exact absurd c59 (by omega)
            · skip
              refine g_aload_n 63 C dX5_drops_62 rfl rfl ?_
              refine g_getf 66 C dX5_drops_63 fl_RX5_7 rfl (by omega) m1 rfl rfl ?_
              refine g_iload 68 C dX5_drops_66 rfl rfl ?_
              refine g_iload 70 C dX5_drops_68 rfl rfl ?_
              refine g_iadd 71 C dX5_drops_70 rfl ?_
              refine g_aload_n 72 C dX5_drops_71 rfl rfl ?_
              refine g_getf 75 C dX5_drops_72 fl_RX5_7 rfl (by omega) m1 rfl rfl ?_
              refine g_iload 77 C dX5_drops_75 rfl rfl ?_
              refine g_iload 79 C dX5_drops_77 rfl rfl ?_
              refine g_iadd 80 C dX5_drops_79 rfl ?_
              refine g_iald 81 C dX5_drops_80 (by omega) hz1 (by omega) (by decide) rfl ?_
              rw [show (gup f1 (((135 + 19 * (3 * k + s)) + 1 + 3 * ((((K.2.2.2 s).take i).filter (fun p : Int × Int => !(cov (K.2.1 w) p.1))).length : Int)) + 0) (y.1 / 1000)) (((135 + 19 * (3 * k + s)) + 1 + 3 * (i : Int)) + (0 + 1)) = y.1 % 1000 from (gup_ne (by omega)).trans z2]
              refine g_iast 82 C dX5_drops_81 (by omega) hz1 (by omega) (by decide) rfl ?_
              refine g_ab (fun z => z (m + 1) = gI E 311 (gup (gup f1 (((135 + 19 * (3 * k + s)) + 1 + 3 * ((((K.2.2.2 s).take i).filter (fun p : Int × Int => !(cov (K.2.1 w) p.1))).length : Int)) + 0) (y.1 / 1000)) (((135 + 19 * (3 * k + s)) + 1 + 3 * ((((K.2.2.2 s).take i).filter (fun p : Int × Int => !(cov (K.2.1 w) p.1))).length : Int)) + (0 + 1)) (y.1 % 1000)) ∧ gKp (m + 1) (m + 2) h z) ⟨up_s, gKp_tr hk1 (gKp_up (by omega))⟩ (fun h1 q1 => ?_)
              obtain ⟨hz1, hk1⟩ := q1
              have m1 := (hk1 m (by omega)).trans hm
              refine g_iinc 85 [(9, _), (8, _), (7, _), (6, _), (5, _), (4, _), (0, _), (1, _), (2, _), (3, _)] C dX5_drops_82 rfl (by decide) rfl rfl ?_
              refine g_goto 56 C dX5_drops_85 rfl ?_
              refine g_iload 58 C dX5_drops_56 rfl rfl ?_
              refine g_iconst 59 C dX5_drops_58 rfl ?_
              refine g_icmp_ge 88 62 C dX5_drops_59 rfl rfl (by omega) (by omega) (fun c59 => ?_) (fun c59 => ?_)
              · skip
                exact absurd c59 (by omega)
              · skip
                refine g_aload_n 63 C dX5_drops_62 rfl rfl ?_
                refine g_getf 66 C dX5_drops_63 fl_RX5_7 rfl (by omega) m1 rfl rfl ?_
                refine g_iload 68 C dX5_drops_66 rfl rfl ?_
                refine g_iload 70 C dX5_drops_68 rfl rfl ?_
                refine g_iadd 71 C dX5_drops_70 rfl ?_
                refine g_aload_n 72 C dX5_drops_71 rfl rfl ?_
                refine g_getf 75 C dX5_drops_72 fl_RX5_7 rfl (by omega) m1 rfl rfl ?_
                refine g_iload 77 C dX5_drops_75 rfl rfl ?_
                refine g_iload 79 C dX5_drops_77 rfl rfl ?_
                refine g_iadd 80 C dX5_drops_79 rfl ?_
                refine g_iald 81 C dX5_drops_80 (by omega) hz1 (by omega) (by decide) rfl ?_
                rw [show (gup (gup f1 (((135 + 19 * (3 * k + s)) + 1 + 3 * ((((K.2.2.2 s).take i).filter (fun p : Int × Int => !(cov (K.2.1 w) p.1))).length : Int)) + 0) (y.1 / 1000)) (((135 + 19 * (3 * k + s)) + 1 + 3 * ((((K.2.2.2 s).take i).filter (fun p : Int × Int => !(cov (K.2.1 w) p.1))).length : Int)) + (0 + 1)) (y.1 % 1000)) (((135 + 19 * (3 * k + s)) + 1 + 3 * (i : Int)) + (0 + 1 + 1)) = y.2 from (gup_ne (by omega)).trans ((gup_ne (by omega)).trans z3)]
                refine g_iast 82 C dX5_drops_81 (by omega) hz1 (by omega) (by decide) rfl ?_
                refine g_ab (fun z => z (m + 1) = gI E 311 (gup (gup (gup f1 (((135 + 19 * (3 * k + s)) + 1 + 3 * ((((K.2.2.2 s).take i).filter (fun p : Int × Int => !(cov (K.2.1 w) p.1))).length : Int)) + 0) (y.1 / 1000)) (((135 + 19 * (3 * k + s)) + 1 + 3 * ((((K.2.2.2 s).take i).filter (fun p : Int × Int => !(cov (K.2.1 w) p.1))).length : Int)) + (0 + 1)) (y.1 % 1000)) (((135 + 19 * (3 * k + s)) + 1 + 3 * ((((K.2.2.2 s).take i).filter (fun p : Int × Int => !(cov (K.2.1 w) p.1))).length : Int)) + (0 + 1 + 1)) y.2) ∧ gKp (m + 1) (m + 2) h z) ⟨up_s, gKp_tr hk1 (gKp_up (by omega))⟩ (fun h1 q1 => ?_)
                obtain ⟨hz1, hk1⟩ := q1
                have m1 := (hk1 m (by omega)).trans hm
                refine g_iinc 85 [(9, _), (8, _), (7, _), (6, _), (5, _), (4, _), (0, _), (1, _), (2, _), (3, _)] C dX5_drops_82 rfl (by decide) rfl rfl ?_
                refine g_goto 56 C dX5_drops_85 rfl ?_
                refine g_iload 58 C dX5_drops_56 rfl rfl ?_
                refine g_iconst 59 C dX5_drops_58 rfl ?_
                refine g_icmp_ge 88 62 C dX5_drops_59 rfl rfl (by omega) (by omega) (fun c59 => ?_) (fun c59 => ?_)
                · skip
                  have hz8 := hz1
                  have hk8 := hk1
                  have hA8 : Rp (gup (gup (gup f1 (((135 + 19 * (3 * k + s)) + 1 + 3 * ((((K.2.2.2 s).take i).filter (fun p : Int × Int => !(cov (K.2.1 w) p.1))).length : Int)) + 0) (y.1 / 1000)) (((135 + 19 * (3 * k + s)) + 1 + 3 * ((((K.2.2.2 s).take i).filter (fun p : Int × Int => !(cov (K.2.1 w) p.1))).length : Int)) + (0 + 1)) (y.1 % 1000)) (((135 + 19 * (3 * k + s)) + 1 + 3 * ((((K.2.2.2 s).take i).filter (fun p : Int × Int => !(cov (K.2.1 w) p.1))).length : Int)) + (0 + 1 + 1)) y.2) (135 + 19 * (3 * k + s)) ((((K.2.2.2 s).take i).filter (fun p : Int × Int => !(cov (K.2.1 w) p.1))) ++ [y]) := Rp.push (hA.kept (fun i9 q1 q2 => (gup_ne (by omega)).trans ((gup_ne (by omega)).trans (gup_ne (by omega))))) ((gup_ne (by omega)).trans ((gup_ne (by omega)).trans (gup_eq (by omega)))) ((gup_ne (by omega)).trans (gup_eq (by omega))) (gup_eq (by omega))
                  have hB8 : ∀ x9 : Int, (x9 < (135 + 19 * (3 * k + s)) + 1 ∨ (135 + 19 * (3 * k + s)) + 1 + 3 * ((i + 1 : Nat) : Int) ≤ x9) → (gup (gup (gup f1 (((135 + 19 * (3 * k + s)) + 1 + 3 * ((((K.2.2.2 s).take i).filter (fun p : Int × Int => !(cov (K.2.1 w) p.1))).length : Int)) + 0) (y.1 / 1000)) (((135 + 19 * (3 * k + s)) + 1 + 3 * ((((K.2.2.2 s).take i).filter (fun p : Int × Int => !(cov (K.2.1 w) p.1))).length : Int)) + (0 + 1)) (y.1 % 1000)) (((135 + 19 * (3 * k + s)) + 1 + 3 * ((((K.2.2.2 s).take i).filter (fun p : Int × Int => !(cov (K.2.1 w) p.1))).length : Int)) + (0 + 1 + 1)) y.2) x9 = f x9 := fun x9 z => ((gup_ne (by omega)).trans ((gup_ne (by omega)).trans (gup_ne (by omega)))).trans (hB x9 (by omega))
                  refine g_iinc 91 [(4, _), (9, _), (8, _), (7, _), (6, _), (5, _), (0, _), (1, _), (2, _), (3, _)] C dX5_drops_88 rfl (by decide) rfl rfl ?_
                  refine g_iinc 94 [(6, _), (4, _), (9, _), (8, _), (7, _), (5, _), (0, _), (1, _), (2, _), (3, _)] C dX5_drops_91 rfl (by decide) rfl rfl ?_
                  refine g_goto 14 C dX5_drops_94 rfl ?_
                  refine g_loc [(6, _), (5, _), (4, .int (gi (((((K.2.2.2 s).take (i + 1)).filter (fun p : Int × Int => !(cov (K.2.1 w) p.1))).length : Nat) : Int))), (0, _), (1, _), (2, _), (3, _)] ⟨rfl, rfl, (by rw [ef]; first | rfl | (rw [List.length_append]; rfl)), rfl, rfl, rfl, rfl, trivial⟩ ?_
                  exact ih14 (i + 1) _ _ (by omega) hz8 hk8 (by rw [ef]; exact hA8) hB8 (by omega)
                · skip
                  exact absurd c59 (by omega)
  refine g_loc [(6, _), (5, _), (4, _), (0, _), (1, _), (2, _), (3, _)] ⟨rfl, rfl, rfl, rfl, rfl, rfl, rfl, trivial⟩ ?_
  exact lp14 _ 0 h f (by omega) hz gKp_rf (fun p y hy => by cases hy) (fun _ _ => rfl) (Nat.lt_succ_self _)
