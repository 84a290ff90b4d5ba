/-! SiblingJoins: the constructor -/
def isJ0 (E : gEnv) (h : gH) (x : Nat) (i : Int) : Prop :=
  h x = gO 4 [.ref (x + 1), .ref (x + 66), .ref (x + 131), .int 0, .ref (x + 132), .int 0, .ref (x + 133)] ∧ isS E h (x + 1) gS0 ∧ isS E h (x + 66) gS0 ∧
  (∃ f : Int → Option Nat, h (x + 131) = gR E 4 6 f ∧ ∀ s : Int, 0 ≤ s → s < i → f s = some (x + 134 + 65 * s.toNat)) ∧
  h (x + 132) = gI E 60 (fun _ => 0) ∧ isP h (x + 133) gP0 ∧ ∀ s : Int, 0 ≤ s → s < i → isS E h (x + 134 + 65 * s.toNat) gS0
theorem isJ0.kp {E : gEnv} {h h1 : gH} {x : Nat} {i : Int} (y : isJ0 E h x i) (hk : ∀ q : Nat, x ≤ q → q < x + 134 + 65 * i.toNat → h1 q = h q) : isJ0 E h1 x i := by
  obtain ⟨y1, y2, y3, ⟨f, y4, y4'⟩, y5, y6, y7⟩ := y
  exact ⟨(hk _ (by omega) (by omega)).trans y1, y2.kept (fun q q1 q2 => hk q (by omega) (by omega)), y3.kept (fun q q1 q2 => hk q (by omega) (by omega)), ⟨f, (hk _ (by omega) (by omega)).trans y4, y4'⟩, (hk _ (by omega) (by omega)).trans y5, (hk _ (by omega) (by omega)).trans y6, fun s s0 s6 => (y7 s s0 s6).kept (fun q q1 q2 => hk q (by omega) (by omega))⟩
theorem isJ0.step {E : gEnv} {h : gH} {x b : Nat} {i : Int} {f : Int → Option Nat} (y : isJ0 E h x i) (hf : ∀ s : Int, 0 ≤ s → s < i → f s = some (x + 134 + 65 * s.toNat)) (i0 : 0 ≤ i) (hc : isS E h b gS0) (hb : b = x + 134 + 65 * i.toNat) : isJ0 E (va_up h (x + 131) (gR E 4 6 (gup f i (some b)))) x (i + 1) := by
  obtain ⟨y1, y2, y3, -, y5, y6, y7⟩ := y
  refine ⟨(up_n (by omega)).trans y1, y2.kept (fun q q1 q2 => up_n (by omega)), y3.kept (fun q q1 q2 => up_n (by omega)), ⟨_, up_s, fun s s0 s3 => ?_⟩, (up_n (by omega)).trans y5, (up_n (by omega)).trans y6, fun s s0 s3 => ?_⟩
  · by_cases e : s = i
    · subst e
      rw [gup_at, hb]
    · rw [gup_ne e]
      exact hf s s0 (by omega)
  · by_cases e : s = i
    · subst e
      rw [← hb]
      exact hc.kept (fun q q1 q2 => up_n (by omega))
    · exact (y7 s s0 (by omega)).kept (fun q q1 q2 => up_n (by omega))
def gT0 : gTt := (gS0, (0, fun _ => gS0), (0, fun _ => 0))
theorem okT_0 : okT gT0 := ⟨okS_0, Nat.zero_le _, fun i i0 i6 => absurd i6 (show ¬ i < ((0 : Nat) : Int) by omega), Nat.zero_le _, fun j j0 jb => absurd jb (show ¬ j < ((0 : Nat) : Int) by omega)⟩
theorem isJ0.done {E : gEnv} {h : gH} {x : Nat} (y : isJ0 E h x 6) : isJ E h x gT0 := by
  obtain ⟨y1, y2, y3, ⟨f, y4, y4'⟩, y5, y6, y7⟩ := y
  refine ⟨y1, y2, ⟨_, y3, okS_0⟩, ⟨f, fun s => x + 134 + 65 * s.toNat, y4, y4', ⟨fun i i0 i6 => by dsimp only; omega, fun i j i0 i6 j0 j6 ij => by dsimp only; omega⟩, fun i i0 i6 => ⟨gS0, y7 i i0 i6, okS_0, fun _ => rfl⟩⟩, ⟨_, y5, fun _ _ _ => rfl⟩, ⟨gP0, y6, okP_0⟩⟩
set_option maxRecDepth 100000 in
set_option maxHeartbeats 4000000 in
theorem c_X4_init {E : gEnv} {n : Nat} {σ : Option Nat} {h : gH} (x : Nat) (hcn : x + 1 = gB E + n) (hcb : gB E ≤ x) (hc : h x = gO 4 [.null, .null, .null, .int 0, .null, .int 0, .null]) : gM E mX4_init [.ref x] n (some (gB E + n)) h (gD none (n + 523) (some (gB E + (n + 523))) (fun h9 => isJ E h9 x gT0 ∧ ∀ q : Nat, q < x → h9 q = h q)) (gNo) := by
  refine gM_of (by decide) (Nat.le_of_ble_eq_true rfl) (fun F C => ?_)
  refine g_aload_n 1 C dX4_init_0 rfl rfl ?_
  refine g_objInit 4 C dX4_init_1 rfl sp_RX4_1 (by decide) (Nat.le_of_ble_eq_true rfl) rfl ?_
  refine g_aload_n 5 C dX4_init_4 rfl rfl ?_
  refine g_new 8 C dX4_init_5 nw_RX4_7 rfl (by decide) (by decide) rfl ?_
  refine g_dup 9 C dX4_init_8 rfl rfl ?_
  refine g_I0v 12 65 285 C dX4_init_9 rfl lk_RX4_9 gi_X3_init rfl rfl ⟨⟨by decide, by decide⟩, by decide, by decide⟩ (Nat.le_of_ble_eq_true rfl) rfl rfl rfl (c_X3_init (σ := none) _ (by omega) (by omega) (up_e rfl)) g_no (fun h9 e9 => ?_)
  obtain ⟨hc9, hk9⟩ := e9
  refine g_putF 15 C dX4_init_12 fp_RX4_10 rfl rfl (by omega) ((hk9 x (by omega)).trans ((up_n (by omega)).trans hc)) rfl rfl (Nat.le_of_ble_eq_true rfl) rfl ?_
  refine g_ab (fun z => z x = gO 4 [.ref (x + 1), .null, .null, .int 0, .null, .int 0, .null] ∧ isS E z (x + 1) gS0 ∧ ∀ q : Nat, q < x → z q = h q) ⟨?_, ?_, fun q hq => ?_⟩ (fun h3 q3 => ?_)
  · rw [up_e rfl, show gB E + n = x + 1 by omega]
    rfl
  · rw [show x + 1 = gB E + n by omega]
    exact hc9.kept (fun q q1 q2 => up_n (by omega))
  · rw [up_n (by omega), hk9 q (by omega), up_n (by omega)]
  obtain ⟨a1, a2, a3⟩ := q3
  refine g_aload_n 16 C dX4_init_15 rfl rfl ?_
  refine g_new 19 C dX4_init_16 nw_RX4_7 rfl (by decide) (by decide) rfl ?_
  refine g_dup 20 C dX4_init_19 rfl rfl ?_
  refine g_I0v 23 130 570 C dX4_init_20 rfl lk_RX4_9 gi_X3_init rfl rfl ⟨⟨by decide, by decide⟩, by decide, by decide⟩ (Nat.le_of_ble_eq_true rfl) rfl rfl rfl (c_X3_init (σ := none) _ (by omega) (by omega) (up_e rfl)) g_no (fun h9 e20 => ?_)
  obtain ⟨hc9, hk9⟩ := e20
  refine g_putF 26 C dX4_init_23 fp_RX4_16 rfl rfl (by omega) ((hk9 x (by omega)).trans ((up_n (by omega)).trans a1)) rfl rfl (Nat.le_of_ble_eq_true rfl) rfl ?_
  refine g_ab (fun z => z x = gO 4 [.ref (x + 1), .ref (x + 66), .null, .int 0, .null, .int 0, .null] ∧ isS E z (x + 1) gS0 ∧ isS E z (x + 66) gS0 ∧ ∀ q : Nat, q < x → z q = h q) ⟨?_, ?_, ?_, fun q hq => ?_⟩ (fun h4 q4 => ?_)
  · rw [up_e rfl, show gB E + (n + 1 + 64) = x + 66 by omega]
    rfl
  · exact a2.kept (fun q q1 q2 => by rw [up_n (by omega), hk9 q (by omega), up_n (by omega)])
  · rw [show x + 66 = gB E + (n + 1 + 64) by omega]
    exact hc9.kept (fun q q1 q2 => up_n (by omega))
  · rw [up_n (by omega), hk9 q (by omega), up_n (by omega)]
    exact a3 q hq
  obtain ⟨b1, b2, b3, b4⟩ := q4
  refine g_aload_n 27 C dX4_init_26 rfl rfl ?_
  refine g_bipush 29 C dX4_init_27 (by decide) rfl ?_
  refine g_anewa (m := 6) (c := 4) 32 C dX4_init_29 rfl cl_RX4_7 (gC_ov C).2.2.1 rfl (by omega) (by decide) (by decide) rfl ?_
  refine g_putF 35 C dX4_init_32 fp_RX4_19 rfl rfl (by omega) ((up_n (by omega)).trans b1) rfl rfl (Nat.le_of_ble_eq_true rfl) rfl ?_
  refine g_aload_n 36 C dX4_init_35 rfl rfl ?_
  refine g_bipush 38 C dX4_init_36 (by decide) rfl ?_
  refine g_newai (m := 60) 40 C dX4_init_38 (by omega) (by decide) (by decide) rfl ?_
  refine g_putF 43 C dX4_init_40 fp_RX4_23 rfl rfl (by omega) ((up_n (by omega)).trans up_s) rfl rfl (Nat.le_of_ble_eq_true rfl) rfl ?_
  refine g_aload_n 44 C dX4_init_43 rfl rfl ?_
  refine g_new 47 C dX4_init_44 nw_RX4_27 rfl (by decide) (by decide) rfl ?_
  refine g_dup 48 C dX4_init_47 rfl rfl ?_
  refine g_IN0v 51 133 642 C dX4_init_48 rfl ln_RX4_29 gi_X2_init rfl rfl ⟨⟨by decide, by decide⟩, by decide, by decide⟩ (Nat.le_of_ble_eq_true rfl) rfl rfl rfl (c_X2_init _) g_no (fun h9 e48 => ?_)
  subst e48
  refine g_putF 54 C dX4_init_51 fp_RX4_30 rfl rfl (by omega) ((up_n (by omega)).trans up_s) rfl rfl (Nat.le_of_ble_eq_true rfl) rfl ?_
  refine g_ab (fun z => isJ0 E z x 0 ∧ ∀ q : Nat, q < x → z q = h q) ⟨⟨?_, ?_, ?_, ⟨fun _ => none, ?_, fun s s0 s1 => absurd s1 (by omega)⟩, ?_, ?_, fun s s0 s1 => absurd s1 (by omega)⟩, fun q hq => ?_⟩ (fun h5 q5 => ?_)
  · rw [up_e rfl, show gB E + (n + 1 + 64 + 1 + 64) = x + 131 by omega, show gB E + (n + 1 + 64 + 1 + 64 + 1) = x + 132 by omega, show gB E + (n + 1 + 64 + 1 + 64 + 1 + 1) = x + 133 by omega]
    rfl
  · exact b2.kept (fun q q1 q2 => by rw [up_n (by omega), up_n (by omega), up_n (by omega), up_n (by omega), up_n (by omega), up_n (by omega)])
  · exact b3.kept (fun q q1 q2 => by rw [up_n (by omega), up_n (by omega), up_n (by omega), up_n (by omega), up_n (by omega), up_n (by omega)])
  · rw [up_n (by omega), up_n (by omega), up_n (by omega), up_n (by omega), up_n (by omega), up_e (by omega)]
  · rw [up_n (by omega), up_n (by omega), up_n (by omega), up_e (by omega)]
  · show va_up _ _ _ _ = _
    rw [up_n (by omega), up_e (by omega)]
    rfl
  · rw [up_n (by omega), up_n (by omega), up_n (by omega), up_n (by omega), up_n (by omega), up_n (by omega)]
    exact b4 q hq
  obtain ⟨qK, qk⟩ := q5
  refine g_iconst 55 C dX4_init_54 rfl ?_
  refine g_istore_n 56 [(1, _), (0, _)] C dX4_init_55 (by decide) rfl rfl ?_
  refine g_iload_n 57 C dX4_init_56 rfl rfl ?_
  refine g_bipush 59 C dX4_init_57 (by decide) rfl ?_
  refine g_icmp_ge 81 62 C dX4_init_59 rfl rfl (by omega) (by omega) (fun c59 => ?_) (fun c59 => ?_)
  · skip
    exact absurd c59 (by omega)
  · skip
    refine g_aload_n 63 C dX4_init_62 rfl rfl ?_
    refine g_getf 66 C dX4_init_63 fl_RX4_19 rfl (by omega) qK.1 rfl rfl ?_
    refine g_iload_n 67 C dX4_init_66 rfl rfl ?_
    refine g_new 70 C dX4_init_67 nw_RX4_7 rfl (by decide) (by decide) rfl ?_
    refine g_dup 71 C dX4_init_70 rfl rfl ?_
    refine g_I0v 74 198 927 C dX4_init_71 rfl lk_RX4_9 gi_X3_init rfl rfl ⟨⟨by decide, by decide⟩, by decide, by decide⟩ (Nat.le_of_ble_eq_true rfl) rfl rfl rfl (c_X3_init (σ := none) _ (by omega) (by omega) (up_e rfl)) g_no (fun h9 e71 => ?_)
    obtain ⟨hc9, hk9⟩ := e71
    have qK1 := qK.kp (fun q z1 z2 => (hk9 q (by omega)).trans (up_n (by omega)))
    obtain ⟨f, kf, kff⟩ := qK1.2.2.2.1
    refine g_aast 75 C dX4_init_74 (by omega) kf rfl (by omega) hc9.1 rfl (by omega) (by decide) rfl ?_
    refine g_ab (fun z => isJ0 E z x 1 ∧ ∀ q : Nat, q < x → z q = h q) ⟨qK1.step (i := 0) kff (by omega) hc9 (by omega), fun q hq => (up_n (by omega)).trans ((hk9 q (by omega)).trans ((up_n (by omega)).trans (qk q hq)))⟩ (fun h3 q3 => ?_)
    obtain ⟨qK, qk⟩ := q3
    refine g_iinc 78 [(1, _), (0, _)] C dX4_init_75 rfl (by decide) rfl rfl ?_
    refine g_goto 56 C dX4_init_78 rfl ?_
    refine g_iload_n 57 C dX4_init_56 rfl rfl ?_
    refine g_bipush 59 C dX4_init_57 (by decide) rfl ?_
    refine g_icmp_ge 81 62 C dX4_init_59 rfl rfl (by omega) (by omega) (fun c59 => ?_) (fun c59 => ?_)
    · skip
      exact absurd c59 (by omega)
    · skip
      refine g_aload_n 63 C dX4_init_62 rfl rfl ?_
      refine g_getf 66 C dX4_init_63 fl_RX4_19 rfl (by omega) qK.1 rfl rfl ?_
      refine g_iload_n 67 C dX4_init_66 rfl rfl ?_
      refine g_new 70 C dX4_init_67 nw_RX4_7 rfl (by decide) (by decide) rfl ?_
      refine g_dup 71 C dX4_init_70 rfl rfl ?_
      refine g_I0v 74 263 1212 C dX4_init_71 rfl lk_RX4_9 gi_X3_init rfl rfl ⟨⟨by decide, by decide⟩, by decide, by decide⟩ (Nat.le_of_ble_eq_true rfl) rfl rfl rfl (c_X3_init (σ := none) _ (by omega) (by omega) (up_e rfl)) g_no (fun h9 e71 => ?_)
      obtain ⟨hc9, hk9⟩ := e71
      have qK1 := qK.kp (fun q z1 z2 => (hk9 q (by omega)).trans (up_n (by omega)))
      obtain ⟨f, kf, kff⟩ := qK1.2.2.2.1
      refine g_aast 75 C dX4_init_74 (by omega) kf rfl (by omega) hc9.1 rfl (by omega) (by decide) rfl ?_
      refine g_ab (fun z => isJ0 E z x 2 ∧ ∀ q : Nat, q < x → z q = h q) ⟨qK1.step (i := 1) kff (by omega) hc9 (by omega), fun q hq => (up_n (by omega)).trans ((hk9 q (by omega)).trans ((up_n (by omega)).trans (qk q hq)))⟩ (fun h3 q3 => ?_)
      obtain ⟨qK, qk⟩ := q3
      refine g_iinc 78 [(1, _), (0, _)] C dX4_init_75 rfl (by decide) rfl rfl ?_
      refine g_goto 56 C dX4_init_78 rfl ?_
      refine g_iload_n 57 C dX4_init_56 rfl rfl ?_
      refine g_bipush 59 C dX4_init_57 (by decide) rfl ?_
      refine g_icmp_ge 81 62 C dX4_init_59 rfl rfl (by omega) (by omega) (fun c59 => ?_) (fun c59 => ?_)
      · skip
        exact absurd c59 (by omega)
      · skip
        refine g_aload_n 63 C dX4_init_62 rfl rfl ?_
        refine g_getf 66 C dX4_init_63 fl_RX4_19 rfl (by omega) qK.1 rfl rfl ?_
        refine g_iload_n 67 C dX4_init_66 rfl rfl ?_
        refine g_new 70 C dX4_init_67 nw_RX4_7 rfl (by decide) (by decide) rfl ?_
        refine g_dup 71 C dX4_init_70 rfl rfl ?_
        refine g_I0v 74 328 1497 C dX4_init_71 rfl lk_RX4_9 gi_X3_init rfl rfl ⟨⟨by decide, by decide⟩, by decide, by decide⟩ (Nat.le_of_ble_eq_true rfl) rfl rfl rfl (c_X3_init (σ := none) _ (by omega) (by omega) (up_e rfl)) g_no (fun h9 e71 => ?_)
        obtain ⟨hc9, hk9⟩ := e71
        have qK1 := qK.kp (fun q z1 z2 => (hk9 q (by omega)).trans (up_n (by omega)))
        obtain ⟨f, kf, kff⟩ := qK1.2.2.2.1
        refine g_aast 75 C dX4_init_74 (by omega) kf rfl (by omega) hc9.1 rfl (by omega) (by decide) rfl ?_
        refine g_ab (fun z => isJ0 E z x 3 ∧ ∀ q : Nat, q < x → z q = h q) ⟨qK1.step (i := 2) kff (by omega) hc9 (by omega), fun q hq => (up_n (by omega)).trans ((hk9 q (by omega)).trans ((up_n (by omega)).trans (qk q hq)))⟩ (fun h3 q3 => ?_)
        obtain ⟨qK, qk⟩ := q3
        refine g_iinc 78 [(1, _), (0, _)] C dX4_init_75 rfl (by decide) rfl rfl ?_
        refine g_goto 56 C dX4_init_78 rfl ?_
        refine g_iload_n 57 C dX4_init_56 rfl rfl ?_
        refine g_bipush 59 C dX4_init_57 (by decide) rfl ?_
        refine g_icmp_ge 81 62 C dX4_init_59 rfl rfl (by omega) (by omega) (fun c59 => ?_) (fun c59 => ?_)
        · skip
          exact absurd c59 (by omega)
        · skip
          refine g_aload_n 63 C dX4_init_62 rfl rfl ?_
          refine g_getf 66 C dX4_init_63 fl_RX4_19 rfl (by omega) qK.1 rfl rfl ?_
          refine g_iload_n 67 C dX4_init_66 rfl rfl ?_
          refine g_new 70 C dX4_init_67 nw_RX4_7 rfl (by decide) (by decide) rfl ?_
          refine g_dup 71 C dX4_init_70 rfl rfl ?_
          refine g_I0v 74 393 1782 C dX4_init_71 rfl lk_RX4_9 gi_X3_init rfl rfl ⟨⟨by decide, by decide⟩, by decide, by decide⟩ (Nat.le_of_ble_eq_true rfl) rfl rfl rfl (c_X3_init (σ := none) _ (by omega) (by omega) (up_e rfl)) g_no (fun h9 e71 => ?_)
          obtain ⟨hc9, hk9⟩ := e71
          have qK1 := qK.kp (fun q z1 z2 => (hk9 q (by omega)).trans (up_n (by omega)))
          obtain ⟨f, kf, kff⟩ := qK1.2.2.2.1
          refine g_aast 75 C dX4_init_74 (by omega) kf rfl (by omega) hc9.1 rfl (by omega) (by decide) rfl ?_
          refine g_ab (fun z => isJ0 E z x 4 ∧ ∀ q : Nat, q < x → z q = h q) ⟨qK1.step (i := 3) kff (by omega) hc9 (by omega), fun q hq => (up_n (by omega)).trans ((hk9 q (by omega)).trans ((up_n (by omega)).trans (qk q hq)))⟩ (fun h3 q3 => ?_)
          obtain ⟨qK, qk⟩ := q3
          refine g_iinc 78 [(1, _), (0, _)] C dX4_init_75 rfl (by decide) rfl rfl ?_
          refine g_goto 56 C dX4_init_78 rfl ?_
          refine g_iload_n 57 C dX4_init_56 rfl rfl ?_
          refine g_bipush 59 C dX4_init_57 (by decide) rfl ?_
          refine g_icmp_ge 81 62 C dX4_init_59 rfl rfl (by omega) (by omega) (fun c59 => ?_) (fun c59 => ?_)
          · skip
            exact absurd c59 (by omega)
          · skip
            refine g_aload_n 63 C dX4_init_62 rfl rfl ?_
            refine g_getf 66 C dX4_init_63 fl_RX4_19 rfl (by omega) qK.1 rfl rfl ?_
            refine g_iload_n 67 C dX4_init_66 rfl rfl ?_
            refine g_new 70 C dX4_init_67 nw_RX4_7 rfl (by decide) (by decide) rfl ?_
            refine g_dup 71 C dX4_init_70 rfl rfl ?_
            refine g_I0v 74 458 2067 C dX4_init_71 rfl lk_RX4_9 gi_X3_init rfl rfl ⟨⟨by decide, by decide⟩, by decide, by decide⟩ (Nat.le_of_ble_eq_true rfl) rfl rfl rfl (c_X3_init (σ := none) _ (by omega) (by omega) (up_e rfl)) g_no (fun h9 e71 => ?_)
            obtain ⟨hc9, hk9⟩ := e71
            have qK1 := qK.kp (fun q z1 z2 => (hk9 q (by omega)).trans (up_n (by omega)))
            obtain ⟨f, kf, kff⟩ := qK1.2.2.2.1
            refine g_aast 75 C dX4_init_74 (by omega) kf rfl (by omega) hc9.1 rfl (by omega) (by decide) rfl ?_
            refine g_ab (fun z => isJ0 E z x 5 ∧ ∀ q : Nat, q < x → z q = h q) ⟨qK1.step (i := 4) kff (by omega) hc9 (by omega), fun q hq => (up_n (by omega)).trans ((hk9 q (by omega)).trans ((up_n (by omega)).trans (qk q hq)))⟩ (fun h3 q3 => ?_)
            obtain ⟨qK, qk⟩ := q3
            refine g_iinc 78 [(1, _), (0, _)] C dX4_init_75 rfl (by decide) rfl rfl ?_
            refine g_goto 56 C dX4_init_78 rfl ?_
            refine g_iload_n 57 C dX4_init_56 rfl rfl ?_
            refine g_bipush 59 C dX4_init_57 (by decide) rfl ?_
            refine g_icmp_ge 81 62 C dX4_init_59 rfl rfl (by omega) (by omega) (fun c59 => ?_) (fun c59 => ?_)
            · skip
              exact absurd c59 (by omega)
            · skip
              refine g_aload_n 63 C dX4_init_62 rfl rfl ?_
              refine g_getf 66 C dX4_init_63 fl_RX4_19 rfl (by omega) qK.1 rfl rfl ?_
              refine g_iload_n 67 C dX4_init_66 rfl rfl ?_
              refine g_new 70 C dX4_init_67 nw_RX4_7 rfl (by decide) (by decide) rfl ?_
              refine g_dup 71 C dX4_init_70 rfl rfl ?_
              refine g_I0v 74 523 2352 C dX4_init_71 rfl lk_RX4_9 gi_X3_init rfl rfl ⟨⟨by decide, by decide⟩, by decide, by decide⟩ (Nat.le_of_ble_eq_true rfl) rfl rfl rfl (c_X3_init (σ := none) _ (by omega) (by omega) (up_e rfl)) g_no (fun h9 e71 => ?_)
              obtain ⟨hc9, hk9⟩ := e71
              have qK1 := qK.kp (fun q z1 z2 => (hk9 q (by omega)).trans (up_n (by omega)))
              obtain ⟨f, kf, kff⟩ := qK1.2.2.2.1
              refine g_aast 75 C dX4_init_74 (by omega) kf rfl (by omega) hc9.1 rfl (by omega) (by decide) rfl ?_
              refine g_ab (fun z => isJ0 E z x 6 ∧ ∀ q : Nat, q < x → z q = h q) ⟨qK1.step (i := 5) kff (by omega) hc9 (by omega), fun q hq => (up_n (by omega)).trans ((hk9 q (by omega)).trans ((up_n (by omega)).trans (qk q hq)))⟩ (fun h3 q3 => ?_)
              obtain ⟨qK, qk⟩ := q3
              refine g_iinc 78 [(1, _), (0, _)] C dX4_init_75 rfl (by decide) rfl rfl ?_
              refine g_goto 56 C dX4_init_78 rfl ?_
              refine g_iload_n 57 C dX4_init_56 rfl rfl ?_
              refine g_bipush 59 C dX4_init_57 (by decide) rfl ?_
              refine g_icmp_ge 81 62 C dX4_init_59 rfl rfl (by omega) (by omega) (fun c59 => ?_) (fun c59 => ?_)
              · skip
                exact g_vret C dX4_init_81 rfl ⟨by decide, by decide⟩ (⟨rfl, rfl, rfl, qK.done, qk⟩)
              · skip
                exact absurd c59 (by omega)
