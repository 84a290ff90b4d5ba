/-! SiblingJoins$KeyState: init -/
/-- a key in the making: i of its stores' copies are there -/
def isK0 (E : gEnv) (h : gH) (a : Nat) (i : Int) : Prop :=
  h a = gO 1 [.ref (a + 1), .ref (a + 2), .ref (a + 8)] ∧
  (∃ f : Int → Option Nat, h (a + 1) = gR E 2 3 f ∧ ∀ s : Int, 0 ≤ s → s < i → f s = some (a + 9 + 4 * s.toNat)) ∧
  (∃ f : Int → Option Nat, h (a + 2) = gR E 1 5 f ∧ ∀ w : Int, 0 ≤ w → w < 5 → f w = some (a + 3 + w.toNat)) ∧
  (∀ w : Int, 0 ≤ w → w < 5 → h (a + 3 + w.toNat) = gI E 5 (fun _ => 0)) ∧
  h (a + 8) = gI E 5 (fun _ => 0) ∧
  ∀ s : Int, 0 ≤ s → s < i → isC E h (a + 9 + 4 * s.toNat) (fun _ => 0) []
theorem isK0.kp {E : gEnv} {h h1 : gH} {a : Nat} {i : Int} (x : isK0 E h a i) (hk : ∀ q : Nat, a ≤ q → q < a + 9 + 4 * i.toNat → h1 q = h q) : isK0 E h1 a i := by
  obtain ⟨x1, ⟨f, x2, x2'⟩, ⟨g, x3, x3'⟩, x4, x5, x6⟩ := x
  exact ⟨(hk _ (by omega) (by omega)).trans x1, ⟨f, (hk _ (by omega) (by omega)).trans x2, x2'⟩, ⟨g, (hk _ (by omega) (by omega)).trans x3, x3'⟩, fun w w0 w5 => (hk _ (by omega) (by omega)).trans (x4 w w0 w5), (hk _ (by omega) (by omega)).trans x5, fun s s0 s3 => (x6 s s0 s3).kept (fun q q1 q2 => hk q (by omega) (by omega))⟩
theorem isK0.step {E : gEnv} {h : gH} {a b : Nat} {i : Int} {f : Int → Option Nat} (x : isK0 E h a i) (hf : ∀ s : Int, 0 ≤ s → s < i → f s = some (a + 9 + 4 * s.toNat)) (i0 : 0 ≤ i) (hc : isC E h b (fun _ => 0) []) (hb : b = a + 9 + 4 * i.toNat) : isK0 E (va_up h (a + 1) (gR E 2 3 (gup f i (some b)))) a (i + 1) := by
  obtain ⟨x1, -, ⟨g, x3, x3'⟩, x4, x5, x6⟩ := x
  refine ⟨(up_n (by omega)).trans x1, ⟨_, up_s, fun s s0 s3 => ?_⟩, ⟨g, (up_n (by omega)).trans x3, x3'⟩, fun w w0 w5 => (up_n (by omega)).trans (x4 w w0 w5), (up_n (by omega)).trans x5, fun s s0 s3 => ?_⟩
  · by_cases e : s = i
    · subst e
      rw [gup_at, hb]
    · rw [gup_ne e]
      exact hf s s0 (by omega)
  · by_cases e : s = i
    · subst e
      rw [← hb]
      exact hc.kept (fun q q1 q2 => up_n (by omega))
    · exact (x6 s s0 (by omega)).kept (fun q q1 q2 => up_n (by omega))
def gK0 : gKy := (fun _ => 0, fun _ _ => 0, fun _ _ => 0, fun _ => [])
theorem g_ab {E : gEnv} {F : gFr} {t : gMt} {Q : State → Prop} {n : Nat} {σ : Option Nat} {h : gH} {kc ks pc : Nat} {L : List (Nat × Value)} {st : List Value} (P : gH → Prop) (hP : P h) (k : ∀ h' : gH, P h' → G E F t Q n σ h' kc ks pc L st) : G E F t Q n σ h kc ks pc L st := k h hP
theorem isK0.done {E : gEnv} {h : gH} {a : Nat} (x : isK0 E h a 3) : isK E h a gK0 := x
set_option maxRecDepth 100000 in
set_option maxHeartbeats 4000000 in
theorem c_X1_init {E : gEnv} {n : Nat} {σ : Option Nat} {h : gH} (a : Nat) (hcn : a + 1 = gB E + n) (hcb : gB E ≤ a) (hc : h a = gO 1 [.null, .null, .null]) : gM E mX1_init [.ref a] n (some (gB E + n)) h (gD none (n + 20) (some (gB E + (n + 20))) (fun h9 => isK E h9 a gK0 ∧ ∀ q : Nat, q < a → h9 q = h q)) (gNo) := by
  refine gM_of (by decide) (Nat.le_of_ble_eq_true rfl) (fun F C => ?_)
  refine g_aload_n 1 C dX1_init_0 rfl rfl ?_
  refine g_objInit 4 C dX1_init_1 rfl sp_RX1_3 (by decide) (Nat.le_of_ble_eq_true rfl) rfl ?_
  refine g_aload_n 5 C dX1_init_4 rfl rfl ?_
  refine g_iconst 6 C dX1_init_5 rfl ?_
  refine g_anewa (m := 3) (c := 2) 9 C dX1_init_6 rfl cl_RX1_9 (gC_ov C).1 rfl (by omega) (by decide) (by decide) rfl ?_
  refine g_putF 12 C dX1_init_9 fp_RX1_11 rfl rfl (by omega) ((up_n (by omega)).trans hc) rfl rfl (Nat.le_of_ble_eq_true rfl) rfl ?_
  refine g_aload_n 13 C dX1_init_12 rfl rfl ?_
  refine g_iconst 14 C dX1_init_13 rfl ?_
  refine g_iconst 15 C dX1_init_14 rfl ?_
  refine g_mnewa (c := 0) (m := 5) (m2 := 5) 19 C dX1_init_15 rfl cl_RX1_17 (by omega) (by omega) (by decide) (by decide) rfl (fun h2 m1 m2 m3 => ?_)
  refine g_putF 22 C dX1_init_19 fp_RX1_19 rfl rfl (by omega) ((m3 a (by omega)).trans up_s) rfl rfl (Nat.le_of_ble_eq_true rfl) rfl ?_
  refine g_aload_n 23 C dX1_init_22 rfl rfl ?_
  refine g_iconst 24 C dX1_init_23 rfl ?_
  refine g_newai (m := 5) 26 C dX1_init_24 (by omega) (by decide) (by decide) rfl ?_
  refine g_putF 29 C dX1_init_26 fp_RX1_22 rfl rfl (by omega) ((up_n (by omega)).trans up_s) rfl rfl (Nat.le_of_ble_eq_true rfl) rfl ?_
  refine g_ab (fun z => isK0 E z a 0 ∧ ∀ q : Nat, q < a → z q = h q) ⟨⟨?_, ⟨fun _ => none, ?_, fun s s0 s1 => absurd s1 (by omega)⟩, ⟨fun j => if j < ((5 : Nat) : Int) then some (gB E + (n + 1) + 1 + j.toNat) else none, ?_, fun w w0 w5 => ?_⟩, fun w w0 w5 => ?_, ?_, fun s s0 s1 => absurd s1 (by omega)⟩, fun q hq => ?_⟩ (fun h3 q3 => ?_)
  · rw [up_e rfl, show gB E + n = a + 1 by omega, show gB E + (n + 1) = a + 2 by omega, show gB E + (n + 1 + 1 + 5) = a + 8 by omega]
    rfl
  · rw [up_n (by omega), up_n (by omega), up_n (by omega), m3 _ (by omega), up_n (by omega), up_e (by omega)]
  · rw [up_n (by omega), up_n (by omega), up_n (by omega), show a + 2 = gB E + (n + 1) by omega]
    exact m1
  · dsimp only
    rw [if_pos (show w < ((5 : Nat) : Int) by omega), show gB E + (n + 1) + 1 + w.toNat = a + 3 + w.toNat by omega]
  · rw [up_n (by omega), up_n (by omega), up_n (by omega), show a + 3 + w.toNat = gB E + (n + 1) + 1 + w.toNat by omega]
    exact m2 w.toNat (by omega)
  · rw [up_n (by omega), up_e (by omega)]
  · rw [up_n (by omega), up_n (by omega), up_n (by omega), m3 q (by omega), up_n (by omega), up_n (by omega)]
  obtain ⟨qK, qk⟩ := q3
  refine g_iconst 30 C dX1_init_29 rfl ?_
  refine g_istore_n 31 [(1, _), (0, _)] C dX1_init_30 (by decide) rfl rfl ?_
  refine g_iload_n 32 C dX1_init_31 rfl rfl ?_
  refine g_iconst 33 C dX1_init_32 rfl ?_
  refine g_icmp_ge 55 36 C dX1_init_33 rfl rfl (by omega) (by omega) (fun c33 => ?_) (fun c33 => ?_)
  · skip
    exact absurd c33 (by omega)
  · skip
    refine g_aload_n 37 C dX1_init_36 rfl rfl ?_
    refine g_getf 40 C dX1_init_37 fl_RX1_11 rfl (by omega) qK.1 rfl rfl ?_
    refine g_iload_n 41 C dX1_init_40 rfl rfl ?_
    refine g_new 44 C dX1_init_41 nw_RX1_9 rfl (by decide) (by decide) rfl ?_
    refine g_dup 45 C dX1_init_44 rfl rfl ?_
    refine g_IN0v 48 12 55 C dX1_init_45 rfl ln_RX1_26 gi_X0_init rfl rfl ⟨⟨by decide, by decide⟩, by decide, by decide⟩ (Nat.le_of_ble_eq_true rfl) rfl rfl rfl (c_X0_init (σ := none) _ (by omega) (by omega) (up_e rfl)) g_no (fun h9 e45 => ?_)
    obtain ⟨hc9, hk9⟩ := e45
    have qK1 := qK.kp (fun q z1 z2 => (hk9 q (by omega)).trans (up_n (by omega)))
    obtain ⟨f, kf, kff⟩ := qK1.2.1
    refine g_aast 49 C dX1_init_48 (by omega) kf rfl (by omega) (isC.h0 hc9) rfl (by omega) (by decide) rfl ?_
    refine g_ab (fun z => isK0 E z a 1 ∧ ∀ q : Nat, q < a → z q = h q) ⟨qK1.step (i := 0) kff (by omega) hc9 (by omega), fun q hq => (up_n (by omega)).trans ((hk9 q (by omega)).trans ((up_n (by omega)).trans (qk q hq)))⟩ (fun h3 q3 => ?_)
    obtain ⟨qK, qk⟩ := q3
    refine g_iinc 52 [(1, _), (0, _)] C dX1_init_49 rfl (by decide) rfl rfl ?_
    refine g_goto 31 C dX1_init_52 rfl ?_
    refine g_iload_n 32 C dX1_init_31 rfl rfl ?_
    refine g_iconst 33 C dX1_init_32 rfl ?_
    refine g_icmp_ge 55 36 C dX1_init_33 rfl rfl (by omega) (by omega) (fun c33 => ?_) (fun c33 => ?_)
    · skip
      exact absurd c33 (by omega)
    · skip
      refine g_aload_n 37 C dX1_init_36 rfl rfl ?_
      refine g_getf 40 C dX1_init_37 fl_RX1_11 rfl (by omega) qK.1 rfl rfl ?_
      refine g_iload_n 41 C dX1_init_40 rfl rfl ?_
      refine g_new 44 C dX1_init_41 nw_RX1_9 rfl (by decide) (by decide) rfl ?_
      refine g_dup 45 C dX1_init_44 rfl rfl ?_
      refine g_IN0v 48 16 72 C dX1_init_45 rfl ln_RX1_26 gi_X0_init rfl rfl ⟨⟨by decide, by decide⟩, by decide, by decide⟩ (Nat.le_of_ble_eq_true rfl) rfl rfl rfl (c_X0_init (σ := none) _ (by omega) (by omega) (up_e rfl)) g_no (fun h9 e45 => ?_)
      obtain ⟨hc9, hk9⟩ := e45
      have qK1 := qK.kp (fun q z1 z2 => (hk9 q (by omega)).trans (up_n (by omega)))
      obtain ⟨f, kf, kff⟩ := qK1.2.1
      refine g_aast 49 C dX1_init_48 (by omega) kf rfl (by omega) (isC.h0 hc9) rfl (by omega) (by decide) rfl ?_
      refine g_ab (fun z => isK0 E z a 2 ∧ ∀ q : Nat, q < a → z q = h q) ⟨qK1.step (i := 1) kff (by omega) hc9 (by omega), fun q hq => (up_n (by omega)).trans ((hk9 q (by omega)).trans ((up_n (by omega)).trans (qk q hq)))⟩ (fun h3 q3 => ?_)
      obtain ⟨qK, qk⟩ := q3
      refine g_iinc 52 [(1, _), (0, _)] C dX1_init_49 rfl (by decide) rfl rfl ?_
      refine g_goto 31 C dX1_init_52 rfl ?_
      refine g_iload_n 32 C dX1_init_31 rfl rfl ?_
      refine g_iconst 33 C dX1_init_32 rfl ?_
      refine g_icmp_ge 55 36 C dX1_init_33 rfl rfl (by omega) (by omega) (fun c33 => ?_) (fun c33 => ?_)
      · skip
        exact absurd c33 (by omega)
      · skip
        refine g_aload_n 37 C dX1_init_36 rfl rfl ?_
        refine g_getf 40 C dX1_init_37 fl_RX1_11 rfl (by omega) qK.1 rfl rfl ?_
        refine g_iload_n 41 C dX1_init_40 rfl rfl ?_
        refine g_new 44 C dX1_init_41 nw_RX1_9 rfl (by decide) (by decide) rfl ?_
        refine g_dup 45 C dX1_init_44 rfl rfl ?_
        refine g_IN0v 48 20 89 C dX1_init_45 rfl ln_RX1_26 gi_X0_init rfl rfl ⟨⟨by decide, by decide⟩, by decide, by decide⟩ (Nat.le_of_ble_eq_true rfl) rfl rfl rfl (c_X0_init (σ := none) _ (by omega) (by omega) (up_e rfl)) g_no (fun h9 e45 => ?_)
        obtain ⟨hc9, hk9⟩ := e45
        have qK1 := qK.kp (fun q z1 z2 => (hk9 q (by omega)).trans (up_n (by omega)))
        obtain ⟨f, kf, kff⟩ := qK1.2.1
        refine g_aast 49 C dX1_init_48 (by omega) kf rfl (by omega) (isC.h0 hc9) rfl (by omega) (by decide) rfl ?_
        refine g_ab (fun z => isK0 E z a 3 ∧ ∀ q : Nat, q < a → z q = h q) ⟨qK1.step (i := 2) kff (by omega) hc9 (by omega), fun q hq => (up_n (by omega)).trans ((hk9 q (by omega)).trans ((up_n (by omega)).trans (qk q hq)))⟩ (fun h3 q3 => ?_)
        obtain ⟨qK, qk⟩ := q3
        refine g_iinc 52 [(1, _), (0, _)] C dX1_init_49 rfl (by decide) rfl rfl ?_
        refine g_goto 31 C dX1_init_52 rfl ?_
        refine g_iload_n 32 C dX1_init_31 rfl rfl ?_
        refine g_iconst 33 C dX1_init_32 rfl ?_
        refine g_icmp_ge 55 36 C dX1_init_33 rfl rfl (by omega) (by omega) (fun c33 => ?_) (fun c33 => ?_)
        · skip
          exact g_vret C dX1_init_55 rfl ⟨by decide, by decide⟩ (⟨rfl, rfl, rfl, qK.done, qk⟩)
        · skip
          exact absurd c33 (by omega)
