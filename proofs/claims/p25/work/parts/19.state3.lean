/-! SiblingJoins$State: init -/
/-- a state in the making: i of its keys are there -/
def isS0 (E : gEnv) (h : gH) (a : Nat) (i : Int) : Prop :=
  h a = gO 3 [.ref (a + 1), .int 0, .int 0, .int 0, .int 0, .int 0] ∧
  (∃ f : Int → Option Nat, h (a + 1) = gR E 3 3 f ∧ ∀ k : Int, 0 ≤ k → k < i → f k = some (a + 2 + 21 * k.toNat)) ∧
  ∀ k : Int, 0 ≤ k → k < i → isK E h (a + 2 + 21 * k.toNat) gK0
theorem isS0.kp {E : gEnv} {h h1 : gH} {a : Nat} {i : Int} (x : isS0 E h a i) (hk : ∀ q : Nat, a ≤ q → q < a + 2 + 21 * i.toNat → h1 q = h q) : isS0 E h1 a i := by
  obtain ⟨x1, ⟨f, x2, x2'⟩, x3⟩ := x
  exact ⟨(hk _ (by omega) (by omega)).trans x1, ⟨f, (hk _ (by omega) (by omega)).trans x2, x2'⟩, fun k k0 k3 => (x3 k k0 k3).kept (fun q q1 q2 => hk q (by omega) (by omega))⟩
theorem isS0.step {E : gEnv} {h : gH} {a b : Nat} {i : Int} {f : Int → Option Nat} (x : isS0 E h a i) (hf : ∀ s : Int, 0 ≤ s → s < i → f s = some (a + 2 + 21 * s.toNat)) (i0 : 0 ≤ i) (hc : isK E h b gK0) (hb : b = a + 2 + 21 * i.toNat) : isS0 E (va_up h (a + 1) (gR E 3 3 (gup f i (some b)))) a (i + 1) := by
  obtain ⟨x1, -, x3⟩ := x
  refine ⟨(up_n (by omega)).trans x1, ⟨_, up_s, fun s s0 s3 => ?_⟩, fun s s0 s3 => ?_⟩
  · by_cases e : s = i
    · subst e
      rw [gup_at, hb]
    · rw [gup_ne e]
      exact hf s s0 (by omega)
  · by_cases e : s = i
    · subst e
      rw [← hb]
      exact hc.kept (fun q q1 q2 => up_n (by omega))
    · exact (x3 s s0 (by omega)).kept (fun q q1 q2 => up_n (by omega))
def gS0 : gSt := (fun _ => gK0, fun _ => 0)
theorem okS_0 : okS gS0 := fun _ _ _ => okK_0
theorem isS0.done {E : gEnv} {h : gH} {a : Nat} (x : isS0 E h a 3) : isS E h a gS0 := x
set_option maxRecDepth 100000 in
set_option maxHeartbeats 4000000 in
theorem c_X3_init {E : gEnv} {n : Nat} {σ : Option Nat} {h : gH} (a : Nat) (hcn : a + 1 = gB E + n) (hcb : gB E ≤ a) (hc : h a = gO 3 [.null, .int 0, .int 0, .int 0, .int 0, .int 0]) : gM E mX3_init [.ref a] n (some (gB E + n)) h (gD none (n + 64) (some (gB E + (n + 64))) (fun h9 => isS E h9 a gS0 ∧ ∀ q : Nat, q < a → h9 q = h q)) (gNo) := by
  refine gM_of (by decide) (Nat.le_of_ble_eq_true rfl) (fun F C => ?_)
  refine g_aload_n 1 C dX3_init_0 rfl rfl ?_
  refine g_objInit 4 C dX3_init_1 rfl sp_RX3_3 (by decide) (Nat.le_of_ble_eq_true rfl) rfl ?_
  refine g_aload_n 5 C dX3_init_4 rfl rfl ?_
  refine g_iconst 6 C dX3_init_5 rfl ?_
  refine g_anewa (m := 3) (c := 3) 9 C dX3_init_6 rfl cl_RX3_9 (gC_ov C).2.1 rfl (by omega) (by decide) (by decide) rfl ?_
  refine g_putF 12 C dX3_init_9 fp_RX3_11 rfl rfl (by omega) ((up_n (by omega)).trans hc) rfl rfl (Nat.le_of_ble_eq_true rfl) rfl ?_
  refine g_ab (fun z => isS0 E z a 0 ∧ ∀ q : Nat, q < a → z q = h q) ⟨⟨?_, ⟨fun _ => none, ?_, fun s s0 s1 => absurd s1 (by omega)⟩, fun s s0 s1 => absurd s1 (by omega)⟩, fun q hq => ?_⟩ (fun h3 q3 => ?_)
  · rw [up_e rfl, show gB E + n = a + 1 by omega]
    rfl
  · rw [up_n (by omega), up_e (by omega)]
  · rw [up_n (by omega), up_n (by omega)]
  obtain ⟨qK, qk⟩ := q3
  refine g_iconst 13 C dX3_init_12 rfl ?_
  refine g_istore_n 14 [(1, _), (0, _)] C dX3_init_13 (by decide) rfl rfl ?_
  refine g_iload_n 15 C dX3_init_14 rfl rfl ?_
  refine g_iconst 16 C dX3_init_15 rfl ?_
  refine g_icmp_ge 38 19 C dX3_init_16 rfl rfl (by omega) (by omega) (fun c16 => ?_) (fun c16 => ?_)
  · skip
    exact absurd c16 (by omega)
  · skip
    refine g_aload_n 20 C dX3_init_19 rfl rfl ?_
    refine g_getf 23 C dX3_init_20 fl_RX3_11 rfl (by omega) qK.1 rfl rfl ?_
    refine g_iload_n 24 C dX3_init_23 rfl rfl ?_
    refine g_new 27 C dX3_init_24 nw_RX3_9 rfl (by decide) (by decide) rfl ?_
    refine g_dup 28 C dX3_init_27 rfl rfl ?_
    refine g_I0v 31 22 95 C dX3_init_28 rfl lk_RX3_17 gi_X1_init rfl rfl ⟨⟨by decide, by decide⟩, by decide, by decide⟩ (Nat.le_of_ble_eq_true rfl) rfl rfl rfl (c_X1_init (σ := none) _ (by omega) (by omega) (up_e rfl)) g_no (fun h9 e28 => ?_)
    obtain ⟨hc9, hk9⟩ := e28
    have qK1 := qK.kp (fun q z1 z2 => (hk9 q (by omega)).trans (up_n (by omega)))
    obtain ⟨f, kf, kff⟩ := qK1.2.1
    refine g_aast 32 C dX3_init_31 (by omega) kf rfl (by omega) hc9.1 rfl (by omega) (by decide) rfl ?_
    refine g_ab (fun z => isS0 E z a 1 ∧ ∀ q : Nat, q < a → z q = h q) ⟨qK1.step (i := 0) kff (by omega) hc9 (by omega), fun q hq => (up_n (by omega)).trans ((hk9 q (by omega)).trans ((up_n (by omega)).trans (qk q hq)))⟩ (fun h3 q3 => ?_)
    obtain ⟨qK, qk⟩ := q3
    refine g_iinc 35 [(1, _), (0, _)] C dX3_init_32 rfl (by decide) rfl rfl ?_
    refine g_goto 14 C dX3_init_35 rfl ?_
    refine g_iload_n 15 C dX3_init_14 rfl rfl ?_
    refine g_iconst 16 C dX3_init_15 rfl ?_
    refine g_icmp_ge 38 19 C dX3_init_16 rfl rfl (by omega) (by omega) (fun c16 => ?_) (fun c16 => ?_)
    · skip
      exact absurd c16 (by omega)
    · skip
      refine g_aload_n 20 C dX3_init_19 rfl rfl ?_
      refine g_getf 23 C dX3_init_20 fl_RX3_11 rfl (by omega) qK.1 rfl rfl ?_
      refine g_iload_n 24 C dX3_init_23 rfl rfl ?_
      refine g_new 27 C dX3_init_24 nw_RX3_9 rfl (by decide) (by decide) rfl ?_
      refine g_dup 28 C dX3_init_27 rfl rfl ?_
      refine g_I0v 31 43 187 C dX3_init_28 rfl lk_RX3_17 gi_X1_init rfl rfl ⟨⟨by decide, by decide⟩, by decide, by decide⟩ (Nat.le_of_ble_eq_true rfl) rfl rfl rfl (c_X1_init (σ := none) _ (by omega) (by omega) (up_e rfl)) g_no (fun h9 e28 => ?_)
      obtain ⟨hc9, hk9⟩ := e28
      have qK1 := qK.kp (fun q z1 z2 => (hk9 q (by omega)).trans (up_n (by omega)))
      obtain ⟨f, kf, kff⟩ := qK1.2.1
      refine g_aast 32 C dX3_init_31 (by omega) kf rfl (by omega) hc9.1 rfl (by omega) (by decide) rfl ?_
      refine g_ab (fun z => isS0 E z a 2 ∧ ∀ q : Nat, q < a → z q = h q) ⟨qK1.step (i := 1) kff (by omega) hc9 (by omega), fun q hq => (up_n (by omega)).trans ((hk9 q (by omega)).trans ((up_n (by omega)).trans (qk q hq)))⟩ (fun h3 q3 => ?_)
      obtain ⟨qK, qk⟩ := q3
      refine g_iinc 35 [(1, _), (0, _)] C dX3_init_32 rfl (by decide) rfl rfl ?_
      refine g_goto 14 C dX3_init_35 rfl ?_
      refine g_iload_n 15 C dX3_init_14 rfl rfl ?_
      refine g_iconst 16 C dX3_init_15 rfl ?_
      refine g_icmp_ge 38 19 C dX3_init_16 rfl rfl (by omega) (by omega) (fun c16 => ?_) (fun c16 => ?_)
      · skip
        exact absurd c16 (by omega)
      · skip
        refine g_aload_n 20 C dX3_init_19 rfl rfl ?_
        refine g_getf 23 C dX3_init_20 fl_RX3_11 rfl (by omega) qK.1 rfl rfl ?_
        refine g_iload_n 24 C dX3_init_23 rfl rfl ?_
        refine g_new 27 C dX3_init_24 nw_RX3_9 rfl (by decide) (by decide) rfl ?_
        refine g_dup 28 C dX3_init_27 rfl rfl ?_
        refine g_I0v 31 64 279 C dX3_init_28 rfl lk_RX3_17 gi_X1_init rfl rfl ⟨⟨by decide, by decide⟩, by decide, by decide⟩ (Nat.le_of_ble_eq_true rfl) rfl rfl rfl (c_X1_init (σ := none) _ (by omega) (by omega) (up_e rfl)) g_no (fun h9 e28 => ?_)
        obtain ⟨hc9, hk9⟩ := e28
        have qK1 := qK.kp (fun q z1 z2 => (hk9 q (by omega)).trans (up_n (by omega)))
        obtain ⟨f, kf, kff⟩ := qK1.2.1
        refine g_aast 32 C dX3_init_31 (by omega) kf rfl (by omega) hc9.1 rfl (by omega) (by decide) rfl ?_
        refine g_ab (fun z => isS0 E z a 3 ∧ ∀ q : Nat, q < a → z q = h q) ⟨qK1.step (i := 2) kff (by omega) hc9 (by omega), fun q hq => (up_n (by omega)).trans ((hk9 q (by omega)).trans ((up_n (by omega)).trans (qk q hq)))⟩ (fun h3 q3 => ?_)
        obtain ⟨qK, qk⟩ := q3
        refine g_iinc 35 [(1, _), (0, _)] C dX3_init_32 rfl (by decide) rfl rfl ?_
        refine g_goto 14 C dX3_init_35 rfl ?_
        refine g_iload_n 15 C dX3_init_14 rfl rfl ?_
        refine g_iconst 16 C dX3_init_15 rfl ?_
        refine g_icmp_ge 38 19 C dX3_init_16 rfl rfl (by omega) (by omega) (fun c16 => ?_) (fun c16 => ?_)
        · skip
          exact g_vret C dX3_init_38 rfl ⟨by decide, by decide⟩ (⟨rfl, rfl, rfl, qK.done, qk⟩)
        · skip
          exact absurd c16 (by omega)
