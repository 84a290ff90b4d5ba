/-! the law's loop -/
set_option maxRecDepth 100000 in
set_option maxHeartbeats 4000000 in
theorem law_loop {E : gEnv} {F : gFr} {Q : State → Prop} {n b Ls x m q : Nat} {xs : Nat → Int32} (C : gC E F mL_law) (hX : va_X b Ls xs F.2.2.1 F.2.2.1.heap) (hbl : b < F.2.2.1.heap.size) (hbA : ¬ gA E b) (hl : E.1.stackTraces = false) (hLs : Ls ≤ 2560) (KE : ∀ (h : gH) (kc ks : Nat) (L : List (Nat × Value)), kc ≤ 601899 → ks ≤ 7290406 → G E F mL_law Q n none h kc ks 1523 L []) : ∀ (k9 i : Nat) (h : gH) (T : gTt) (c0 : Int) (fo : Int → Int64) (kc ks : Nat), lwS E n h x m q T c0 fo → kc ≤ 600 + i → ks ≤ 6000 + 6 * i → i ≤ Ls → Ls - i < k9 → G E F mL_law Q n none h kc ks 23 [(4, .int (gi (i : Int))), (3, .ref q), (2, .ref m), (1, .ref x), (0, .ref b)] [] := by
  intro k9
  induction k9 with
  | zero => intro i h T c0 fo kc ks I h1 h2 h3 h0; exact absurd h0 (Nat.not_lt_zero _)
  | succ k9 ih =>
    intro i h T c0 fo kc ks I hkc hks hi hm
    refine g_iload 25 C dL_law_23 rfl rfl ?_
    refine g_aload_n 26 C dL_law_25 rfl rfl ?_
    refine g_xlen 27 C hX hbl hbA dL_law_26 rfl ?_
    refine g_iconst 28 C dL_law_27 rfl ?_
    refine g_isub 29 C dL_law_28 rfl ?_
    refine g_icmp_gt 1523 32 C dL_law_29 rfl rfl (by omega) (by omega) (fun _ => KE h kc ks _ (by omega) (by omega)) (fun hgt => ?_)
    have hi5 : i + 5 ≤ Ls := by omega
    have hk5 : kc + 5 ≤ 601899 := by omega
    have hs30 : ks + 30 ≤ 7290406 := by omega
    have nxt : ∀ (h9 : gH) (T9 : gTt) (c9 : Int) (fo9 : Int → Int64), lwS E n h9 x m q T9 c9 fo9 → G E F mL_law Q n none h9 (kc + 5) (ks + 30) 1517 [(4, .int (gi (i : Int))), (3, .ref q), (2, .ref m), (1, .ref x), (0, .ref b)] [] := by
      intro h9 T9 c9 fo9 I9
      refine g_iinc 1520 [(4, _), (3, _), (2, _), (1, _), (0, _)] C dL_law_1517 rfl (by decide) rfl rfl ?_
      refine g_goto 23 C dL_law_1520 rfl ?_
      refine g_loc [(4, .int (gi ((i + 5 : Nat) : Int))), (3, _), (2, _), (1, _), (0, _)] ⟨rfl, rfl, rfl, rfl, rfl, trivial⟩ ?_
      exact ih (i + 5) h9 T9 c9 fo9 _ _ I9 (by omega) (by omega) hi5 (by omega)
    refine g_aload_n 33 C dL_law_32 rfl rfl ?_
    refine g_iload 35 C dL_law_33 rfl rfl ?_
    refine g_xld 36 C hX hbl hbA dL_law_35 (by omega) (by omega) rfl ?_
    refine g_bipush 38 C dL_law_36 (by decide) rfl ?_
    refine g_iand 39 C dL_law_38 (gi_asI _) rfl ?_
    obtain ⟨w9, hw9, hr9⟩ : ∃ w9 : Int, (gi (sX xs (i : Int)) &&& gi 31).toInt = w9 ∧ (-2147483648 ≤ w9 ∧ w9 < 2147483648) := ⟨_, rfl, Int32.le_toInt _, Int32.toInt_lt _⟩
    rw [hw9]
    by_cases z0 : w9 = 0
    · refine g_table 140 C dL_law_39 hr9 (by omega) (by omega) (off := 101) (by rw [z0]; rfl) rfl ?_
      exact law_read C hX hbl hbA hl hLs hi5 hk5 hs30 I nxt
    by_cases z1 : w9 = 1
    · refine g_table 220 C dL_law_39 hr9 (by omega) (by omega) (off := 181) (by rw [z1]; rfl) rfl ?_
      exact law_write C hX hbl hbA hl hLs hi5 hk5 hs30 I nxt
    by_cases z2 : w9 = 2
    · refine g_table 312 C dL_law_39 hr9 (by omega) (by omega) (off := 273) (by rw [z2]; rfl) rfl ?_
      exact law_pull C hX hbl hbA hl hLs hi5 hk5 hs30 I nxt
    by_cases z3 : w9 = 3
    · refine g_table 392 C dL_law_39 hr9 (by omega) (by omega) (off := 353) (by rw [z3]; rfl) rfl ?_
      exact law_join C hX hbl hbA hl hLs hi5 hk5 hs30 I nxt
    by_cases z4 : w9 = 4
    · refine g_table 484 C dL_law_39 hr9 (by omega) (by omega) (off := 445) (by rw [z4]; rfl) rfl ?_
      exact law_lose C hX hbl hbA hl hLs hi5 hk5 hs30 I nxt
    by_cases z5 : w9 = 5
    · refine g_table 552 C dL_law_39 hr9 (by omega) (by omega) (off := 513) (by rw [z5]; rfl) rfl ?_
      exact law_forget C hX hbl hbA hl hLs hi5 hk5 hs30 I nxt
    by_cases z6 : w9 = 6
    · refine g_table 620 C dL_law_39 hr9 (by omega) (by omega) (off := 581) (by rw [z6]; rfl) rfl ?_
      exact law_pullAll C hX hbl hbA hl hLs hi5 hk5 hs30 I nxt
    by_cases z7 : w9 = 7
    · refine g_table 664 C dL_law_39 hr9 (by omega) (by omega) (off := 625) (by rw [z7]; rfl) rfl ?_
      exact law_append C hX hbl hbA hl hLs hi5 hk5 hs30 I nxt
    by_cases z8 : w9 = 8
    · refine g_table 720 C dL_law_39 hr9 (by omega) (by omega) (off := 681) (by rw [z8]; rfl) rfl ?_
      exact law_clearBuffer C hX hbl hbA hl hLs hi5 hk5 hs30 I nxt
    by_cases z9 : w9 = 9
    · refine g_table 733 C dL_law_39 hr9 (by omega) (by omega) (off := 694) (by rw [z9]; rfl) rfl ?_
      exact law_firstError C hX hbl hbA hl hLs hi5 hk5 hs30 I nxt
    by_cases z10 : w9 = 10
    · refine g_table 746 C dL_law_39 hr9 (by omega) (by omega) (off := 707) (by rw [z10]; rfl) rfl ?_
      exact law_runAll C hX hbl hbA hl hLs hi5 hk5 hs30 I nxt
    by_cases z11 : w9 = 11
    · refine g_table 790 C dL_law_39 hr9 (by omega) (by omega) (off := 751) (by rw [z11]; rfl) rfl ?_
      exact law_undo C hX hbl hbA hl hLs hi5 hk5 hs30 I nxt
    by_cases z12 : w9 = 12
    · refine g_table 834 C dL_law_39 hr9 (by omega) (by omega) (off := 795) (by rw [z12]; rfl) rfl ?_
      exact law_sibling C hX hbl hbA hl hLs hi5 hk5 hs30 I nxt
    by_cases z13 : w9 = 13
    · refine g_table 926 C dL_law_39 hr9 (by omega) (by omega) (off := 887) (by rw [z13]; rfl) rfl ?_
      exact law_vector C hX hbl hbA hl hLs hi5 hk5 hs30 I nxt
    by_cases z14 : w9 = 14
    · refine g_table 1006 C dL_law_39 hr9 (by omega) (by omega) (off := 967) (by rw [z14]; rfl) rfl ?_
      exact law_knows C hX hbl hbA hl hLs hi5 hk5 hs30 I nxt
    by_cases z15 : w9 = 15
    · refine g_table 1086 C dL_law_39 hr9 (by omega) (by omega) (off := 1047) (by rw [z15]; rfl) rfl ?_
      exact law_key C hX hbl hbA hl hLs hi5 hk5 hs30 I nxt
    by_cases z16 : w9 = 16
    · refine g_table 1154 C dL_law_39 hr9 (by omega) (by omega) (off := 1115) (by rw [z16]; rfl) rfl ?_
      exact law_count C hX hbl hbA hl hLs hi5 hk5 hs30 I nxt
    by_cases z17 : w9 = 17
    · refine g_table 1210 C dL_law_39 hr9 (by omega) (by omega) (off := 1171) (by rw [z17]; rfl) rfl ?_
      exact law_ifWritten C hX hbl hbA hl hLs hi5 hk5 hs30 I nxt
    by_cases z18 : w9 = 18
    · refine g_table 1302 C dL_law_39 hr9 (by omega) (by omega) (off := 1263) (by rw [z18]; rfl) rfl ?_
      exact law_ifPulled C hX hbl hbA hl hLs hi5 hk5 hs30 I nxt
    by_cases z19 : w9 = 19
    · refine g_table 1394 C dL_law_39 hr9 (by omega) (by omega) (off := 1355) (by rw [z19]; rfl) rfl ?_
      exact law_whyNot C hX hbl hbA hl hLs hi5 hk5 hs30 I nxt
    by_cases z20 : w9 = 20
    · refine g_table 1462 C dL_law_39 hr9 (by omega) (by omega) (off := 1423) (by rw [z20]; rfl) rfl ?_
      exact law_agreement C hX hbl hbA hl hLs hi5 hk5 hs30 I nxt
    by_cases z21 : w9 = 21
    · refine g_table 1503 C dL_law_39 hr9 (by omega) (by omega) (off := 1464) (by rw [z21]; rfl) rfl ?_
      exact law_digest C hX hbl hbA hl hLs hi5 hk5 hs30 I nxt
    refine g_tableD 1517 C dL_law_39 hr9 (by omega) rfl ?_
    exact g_wid (Nat.le_add_right _ _) (Nat.le_add_right _ _) (nxt _ _ _ _ I)
set_option maxRecDepth 100000 in
set_option maxHeartbeats 4000000 in
theorem law_go {E : gEnv} {F : gFr} {Q : State → Prop} {b Ls : Nat} {xs : Nat → Int32} {h : gH} (C : gC E F mL_law) (hX : va_X b Ls xs F.2.2.1 F.2.2.1.heap) (hbl : b < F.2.2.1.heap.size) (hbA : ¬ gA E b) (hl : E.1.stackTraces = false) (hLs : Ls ≤ 2560) (KE : ∀ (h : gH) (kc ks : Nat) (L : List (Nat × Value)), kc ≤ 601899 → ks ≤ 7290406 → G E F mL_law Q (0 + 1 + 523 + 1 + 6 + 1) none h kc ks 1523 L []) : G E F mL_law Q 0 (some (gB E + 0)) h 0 0 0 [(0, .ref b)] [] := by
  refine g_new 3 C dL_law_0 nw_RL_8 rfl (by decide) (by decide) rfl ?_
  refine g_dup 4 C dL_law_3 rfl rfl ?_
  refine g_ab (fun z => z (gB E + 0) = gO 4 [.null, .null, .null, .int 0, .null, .int 0, .null]) up_s (fun h0 q0 => ?_)
  refine g_I0v 7 524 2359 C dL_law_4 rfl lk_RL_74 gi_X4_init rfl rfl ⟨⟨by decide, by decide⟩, by decide, by decide⟩ (Nat.le_of_ble_eq_true rfl) rfl rfl rfl (c_X4_init (σ := none) (n := 0 + 1) (gB E + 0) (by omega) (by omega) q0) g_no (fun h1 q1 => ?_)
  obtain ⟨hJ1, -⟩ := q1
  refine g_astore_n 8 [(1, _), (0, _)] C dL_law_7 (by decide) rfl rfl ?_
  refine g_new 11 C dL_law_8 nw_RL_75 rfl (by decide) (by decide) rfl ?_
  refine g_dup 12 C dL_law_11 rfl rfl ?_
  refine g_ab (fun z => z (gB E + (0 + 1 + 523)) = gO 5 [.null, .null, .null, .int 0, .null, .int 0, .int 0, .null, .int 0, .int 0, .int 0, .int 0, .int 0, .null, .int 0, .long 0] ∧ isJ E z (gB E + 0) gT0) ⟨up_s, hJ1.kept (fun q9 z1 z2 => up_n (by omega))⟩ (fun h2 q2 => ?_)
  obtain ⟨hm2, hJ2⟩ := q2
  refine g_I0v 15 531 5019 C dL_law_12 rfl lk_RL_77 gi_X5_init rfl rfl ⟨⟨by decide, by decide⟩, by decide, by decide⟩ (Nat.le_of_ble_eq_true rfl) rfl rfl rfl (c_X5_init (σ := none) (n := 0 + 1 + 523 + 1) (gB E + (0 + 1 + 523)) (by omega) (by omega) hm2) g_no (fun h3 q3 => ?_)
  obtain ⟨hM3, k3⟩ := q3
  have hJ3 : isJ E h3 (gB E + 0) gT0 := hJ2.kept (fun q9 z1 z2 => k3 q9 (by omega))
  refine g_astore_n 16 [(2, _), (1, _), (0, _)] C dL_law_15 (by decide) rfl rfl ?_
  refine g_iconst 17 C dL_law_16 rfl ?_
  refine g_newal (m := 1) 19 C dL_law_17 ⟨rfl, by decide⟩ (by decide) (by decide) rfl ?_
  refine g_ab (fun z => lwS E (0 + 1 + 523 + 1 + 6 + 1) z (gB E + 0) (gB E + (0 + 1 + 523)) (gB E + (0 + 1 + 523 + 1 + 6)) gT0 0 (fun _ => 0)) ⟨by omega, by omega, by omega, by omega, by omega, hJ3.kept (fun q9 z1 z2 => up_n (by omega)), hM3.kept (fun q9 z1 z2 => up_n (by omega)), okA_0, up_s⟩ (fun h4 I4 => ?_)
  refine g_astore_n 20 [(3, _), (2, _), (1, _), (0, _)] C dL_law_19 (by decide) rfl rfl ?_
  refine g_iconst 21 C dL_law_20 rfl ?_
  refine g_istore 23 [(4, _), (3, _), (2, _), (1, _), (0, _)] C dL_law_21 (by decide) rfl rfl ?_
  refine g_nos ?_
  refine g_loc [(4, .int (gi ((0 : Nat) : Int))), (3, _), (2, _), (1, _), (0, _)] ⟨rfl, rfl, rfl, rfl, rfl, trivial⟩ ?_
  exact law_loop C hX hbl hbA hl hLs KE (Ls + 1) 0 h4 gT0 0 _ _ _ I4 (by decide) (by decide) (Nat.zero_le _) (Nat.lt_succ_self _)
