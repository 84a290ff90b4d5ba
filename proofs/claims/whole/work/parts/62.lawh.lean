/-! the law's helpers: an answer laid, or which throw -/
theorem gcl_13 : Cond.classLink RL 13 xIO ∈ wsG := wsG_of 403 (by decide +kernel) rfl
theorem gcl_19 : Cond.classLink RL 19 xIA ∈ wsG := wsG_of 516 (by decide +kernel) rfl
theorem gcl_21 : Cond.classLink RL 21 xIS ∈ wsG := wsG_of 517 (by decide +kernel) rfl
abbrev gLH (E : gEnv) (h : gH) (x o n : Nat) (O : gOut) : gQt := gD (some (.int (gi O.1))) n none (fun h9 => isJ E h9 x O.2.2 ∧ (∃ fo9 : Int → Int64, h9 o = gJ E 1 fo9 ∧ (O.1 = 0 → fo9 0 = (gi O.2.1).toInt64)) ∧ ∀ q : Nat, (q < x ∨ x + 524 ≤ q) → q ≠ o → h9 q = h q)
theorem oRead_c (T : gTt) (w k s : Int) : (oRead T w k s).1 = 0 ∨ (oRead T w k s).1 = 1 := by
  unfold oRead
  repeat' split
  all_goals first | exact Or.inl rfl | exact Or.inr (rfl)
set_option maxRecDepth 100000 in
set_option maxHeartbeats 4000000 in
theorem c_L_read {E : gEnv} {n : Nat} {h : gH} (x q : Nat) (T : gTt) (w k s : Int) (fo : Int → Int64) (hl : E.1.stackTraces = false) (hxb : gB E ≤ x ∧ x + 524 ≤ gB E + n) (hqb : gB E ≤ q ∧ q < gB E + n) (hxq : q < x ∨ x + 524 ≤ q) (hJ : isJ E h x T) (hok : okT T) (hfo : h q = gJ E 1 fo) (hwr : -2147483648 ≤ w ∧ w < 2147483648) (hkr : -2147483648 ≤ k ∧ k < 2147483648) (hsr : -2147483648 ≤ s ∧ s < 2147483648) : gMH E mL_read [(0, 12, 15, 13)] [.ref x, .int (gi w), .int (gi k), .int (gi s), .ref q] n none h (gLH E h x q n (oRead T w k s)) gNo := by
  have j1 := hJ.1
  unfold isJo at j1
  refine gMH_of (by decide) (Nat.le_of_ble_eq_true rfl) (fun F C => ?_)
  refine k_aload 2 C dL_read_0 rfl rfl ?_
  refine k_iconst 3 C dL_read_2 rfl ?_
  refine k_aload_n 4 C dL_read_3 rfl rfl ?_
  refine k_iload_n 5 C dL_read_4 rfl rfl ?_
  refine k_iload_n 6 C dL_read_5 rfl rfl ?_
  refine k_iload_n 7 C dL_read_6 rfl rfl ?_
  refine k_callV (As := [.int (gi w), .int (gi k), .int (gi s)]) (rest := [.int (gi 0), .ref q]) 10 C dL_read_7 rfl lk_RL_7 gi_X4_read gv_X4_read ⟨_, _, rfl⟩ (by omega) j1 rfl ⟨⟨by decide, by decide⟩, by decide, by decide⟩ (Nat.le_of_ble_eq_true rfl) rfl (c_X4_read (σ := none) x T w k s hl hxb hJ hok hwr hkr hsr) (fun X h8 hq8 => ?_) (fun v8 n8 σ8 h8 hq8 => ?_)
  · obtain ⟨eX, eN, eJ, eK⟩ := hq8
    rcases oRead_c T w k s with eO | eO
    · exact absurd eO eN
    · rw [eO] at eX
      have eX : X = xIO := eX
      subst eX
      refine kCat_1 ⟨by decide, by decide⟩ (by decide) gcl_13 (by simp [gNest]) (fun r => ?_)
      refine k_astore 17 [(5, _), (0, _), (1, _), (2, _), (3, _), (4, _)] C dL_read_15 (by decide) rfl rfl ?_
      refine k_iconst 18 C dL_read_17 rfl ?_
      exact k_iret C dL_read_18 rfl ⟨by decide, by decide⟩ ⟨by rw [eO], rfl, rfl, eJ, ⟨fo, (eK q (by omega)).trans hfo, fun z => absurd z eN⟩, fun q9 z1 z2 => eK q9 z1⟩
  · obtain ⟨rfl, rfl, rfl, e0, eJ, eK⟩ := hq8
    have hfo8 := (eK q (by omega)).trans hfo
    refine k_i2l 11 C dL_read_10 rfl ?_
    refine k_last 12 C dL_read_11 hqb hfo8 (by decide) (by decide) rfl ?_
    refine k_goto 19 C dL_read_12 rfl ?_
    refine k_iconst 20 C dL_read_19 rfl ?_
    exact k_iret C dL_read_20 rfl ⟨by decide, by decide⟩ ⟨by rw [e0], rfl, rfl, eJ.kept (fun q9 z1 z2 => up_n (by omega)), ⟨_, up_s, fun _ => gup_at⟩, fun q9 z1 z2 => (up_n z2).trans (eK q9 z1)⟩
theorem oWrite_c (T : gTt) (w k s v : Int) : (oWrite T w k s v).1 = 0 ∨ (oWrite T w k s v).1 = 1 ∨ (oWrite T w k s v).1 = 2 ∨ (oWrite T w k s v).1 = 3 := by
  unfold oWrite
  repeat' split
  all_goals first | exact Or.inl rfl | exact Or.inr (Or.inl rfl) | exact Or.inr (Or.inr (Or.inl rfl)) | exact Or.inr (Or.inr (Or.inr (rfl)))
set_option maxRecDepth 100000 in
set_option maxHeartbeats 4000000 in
theorem c_L_write {E : gEnv} {n : Nat} {h : gH} (x q : Nat) (T : gTt) (w k s v : Int) (fo : Int → Int64) (hl : E.1.stackTraces = false) (hxb : gB E ≤ x ∧ x + 524 ≤ gB E + n) (hqb : gB E ≤ q ∧ q < gB E + n) (hxq : q < x ∨ x + 524 ≤ q) (hJ : isJ E h x T) (hok : okT T) (hfo : h q = gJ E 1 fo) (hwr : -2147483648 ≤ w ∧ w < 2147483648) (hkr : -2147483648 ≤ k ∧ k < 2147483648) (hsr : -2147483648 ≤ s ∧ s < 2147483648) (hvr : -2147483648 ≤ v ∧ v < 2147483648) : gMH E mL_write [(0, 14, 17, 13), (0, 14, 21, 19), (0, 14, 25, 21)] [.ref x, .int (gi w), .int (gi k), .int (gi s), .int (gi v), .ref q] n none h (gLH E h x q n (oWrite T w k s v)) gNo := by
  have j1 := hJ.1
  unfold isJo at j1
  refine gMH_of (by decide) (Nat.le_of_ble_eq_true rfl) (fun F C => ?_)
  refine k_aload 2 C dL_write_0 rfl rfl ?_
  refine k_iconst 3 C dL_write_2 rfl ?_
  refine k_aload_n 4 C dL_write_3 rfl rfl ?_
  refine k_iload_n 5 C dL_write_4 rfl rfl ?_
  refine k_iload_n 6 C dL_write_5 rfl rfl ?_
  refine k_iload_n 7 C dL_write_6 rfl rfl ?_
  refine k_iload 9 C dL_write_7 rfl rfl ?_
  refine k_callV (As := [.int (gi w), .int (gi k), .int (gi s), .int (gi v)]) (rest := [.int (gi 0), .ref q]) 12 C dL_write_9 rfl lk_RL_15 gi_X4_write gv_X4_write ⟨_, _, rfl⟩ (by omega) j1 rfl ⟨⟨by decide, by decide⟩, by decide, by decide⟩ (Nat.le_of_ble_eq_true rfl) rfl (c_X4_write (σ := none) x T w k s v hl hxb hJ hok hwr hkr hsr hvr) (fun X h8 hq8 => ?_) (fun v8 n8 σ8 h8 hq8 => ?_)
  · obtain ⟨eX, eN, eJ, eK⟩ := hq8
    rcases oWrite_c T w k s v with eO | eO | eO | eO
    · exact absurd eO eN
    · rw [eO] at eX
      have eX : X = xIO := eX
      subst eX
      refine kCat_1 ⟨by decide, by decide⟩ (by decide) gcl_13 (by simp [gNest]) (fun r => ?_)
      refine k_astore 19 [(6, _), (0, _), (1, _), (2, _), (3, _), (4, _), (5, _)] C dL_write_17 (by decide) rfl rfl ?_
      refine k_iconst 20 C dL_write_19 rfl ?_
      exact k_iret C dL_write_20 rfl ⟨by decide, by decide⟩ ⟨by rw [eO], rfl, rfl, eJ, ⟨fo, (eK q (by omega)).trans hfo, fun z => absurd z eN⟩, fun q9 z1 z2 => eK q9 z1⟩
    · rw [eO] at eX
      have eX : X = xIA := eX
      subst eX
      refine kCat_s (by decide) gcl_13 (by decide) ?_
      refine kCat_1 ⟨by decide, by decide⟩ (by decide) gcl_19 (by simp [gNest]) (fun r => ?_)
      refine k_astore 23 [(6, _), (0, _), (1, _), (2, _), (3, _), (4, _), (5, _)] C dL_write_21 (by decide) rfl rfl ?_
      refine k_iconst 24 C dL_write_23 rfl ?_
      exact k_iret C dL_write_24 rfl ⟨by decide, by decide⟩ ⟨by rw [eO], rfl, rfl, eJ, ⟨fo, (eK q (by omega)).trans hfo, fun z => absurd z eN⟩, fun q9 z1 z2 => eK q9 z1⟩
    · rw [eO] at eX
      have eX : X = xIS := eX
      subst eX
      refine kCat_s (by decide) gcl_13 (by decide) ?_
      refine kCat_s (by decide) gcl_19 (by decide) ?_
      refine kCat_1 ⟨by decide, by decide⟩ (by decide) gcl_21 (by simp [gNest]) (fun r => ?_)
      refine k_astore 27 [(6, _), (0, _), (1, _), (2, _), (3, _), (4, _), (5, _)] C dL_write_25 (by decide) rfl rfl ?_
      refine k_iconst 28 C dL_write_27 rfl ?_
      exact k_iret C dL_write_28 rfl ⟨by decide, by decide⟩ ⟨by rw [eO], rfl, rfl, eJ, ⟨fo, (eK q (by omega)).trans hfo, fun z => absurd z eN⟩, fun q9 z1 z2 => eK q9 z1⟩
  · obtain ⟨rfl, rfl, rfl, e0, eJ, eK⟩ := hq8
    have hfo8 := (eK q (by omega)).trans hfo
    refine k_i2l 13 C dL_write_12 rfl ?_
    refine k_last 14 C dL_write_13 hqb hfo8 (by decide) (by decide) rfl ?_
    refine k_goto 29 C dL_write_14 rfl ?_
    refine k_iconst 30 C dL_write_29 rfl ?_
    exact k_iret C dL_write_30 rfl ⟨by decide, by decide⟩ ⟨by rw [e0], rfl, rfl, eJ.kept (fun q9 z1 z2 => up_n (by omega)), ⟨_, up_s, fun _ => gup_at⟩, fun q9 z1 z2 => (up_n z2).trans (eK q9 z1)⟩
theorem oPull_c (T : gTt) (s o k : Int) : (oPull T s o k).1 = 0 ∨ (oPull T s o k).1 = 1 ∨ (oPull T s o k).1 = 2 ∨ (oPull T s o k).1 = 3 := by
  unfold oPull
  repeat' split
  all_goals first | exact Or.inl rfl | exact Or.inr (Or.inl rfl) | exact Or.inr (Or.inr (Or.inl rfl)) | exact Or.inr (Or.inr (Or.inr (rfl)))
set_option maxRecDepth 100000 in
set_option maxHeartbeats 4000000 in
theorem c_L_pull {E : gEnv} {n : Nat} {h : gH} (x q : Nat) (T : gTt) (s o k : Int) (fo : Int → Int64) (hl : E.1.stackTraces = false) (hxb : gB E ≤ x ∧ x + 524 ≤ gB E + n) (hqb : gB E ≤ q ∧ q < gB E + n) (hxq : q < x ∨ x + 524 ≤ q) (hJ : isJ E h x T) (hok : okT T) (hfo : h q = gJ E 1 fo) (hsr : -2147483648 ≤ s ∧ s < 2147483648) (hor : -2147483648 ≤ o ∧ o < 2147483648) (hkr : -2147483648 ≤ k ∧ k < 2147483648) : gMH E mL_pull [(0, 12, 15, 13), (0, 12, 19, 19), (0, 12, 23, 21)] [.ref x, .int (gi s), .int (gi o), .int (gi k), .ref q] n none h (gLH E h x q n (oPull T s o k)) gNo := by
  have j1 := hJ.1
  unfold isJo at j1
  refine gMH_of (by decide) (Nat.le_of_ble_eq_true rfl) (fun F C => ?_)
  refine k_aload 2 C dL_pull_0 rfl rfl ?_
  refine k_iconst 3 C dL_pull_2 rfl ?_
  refine k_aload_n 4 C dL_pull_3 rfl rfl ?_
  refine k_iload_n 5 C dL_pull_4 rfl rfl ?_
  refine k_iload_n 6 C dL_pull_5 rfl rfl ?_
  refine k_iload_n 7 C dL_pull_6 rfl rfl ?_
  refine k_callV (As := [.int (gi s), .int (gi o), .int (gi k)]) (rest := [.int (gi 0), .ref q]) 10 C dL_pull_7 rfl lk_RL_23 gi_X4_pull gv_X4_pull ⟨_, _, rfl⟩ (by omega) j1 rfl ⟨⟨by decide, by decide⟩, by decide, by decide⟩ (Nat.le_of_ble_eq_true rfl) rfl (c_X4_pull (σ := none) x T s o k hl hxb hJ hok hsr hor hkr) (fun X h8 hq8 => ?_) (fun v8 n8 σ8 h8 hq8 => ?_)
  · obtain ⟨eX, eN, eJ, eK⟩ := hq8
    rcases oPull_c T s o k with eO | eO | eO | eO
    · exact absurd eO eN
    · rw [eO] at eX
      have eX : X = xIO := eX
      subst eX
      refine kCat_1 ⟨by decide, by decide⟩ (by decide) gcl_13 (by simp [gNest]) (fun r => ?_)
      refine k_astore 17 [(5, _), (0, _), (1, _), (2, _), (3, _), (4, _)] C dL_pull_15 (by decide) rfl rfl ?_
      refine k_iconst 18 C dL_pull_17 rfl ?_
      exact k_iret C dL_pull_18 rfl ⟨by decide, by decide⟩ ⟨by rw [eO], rfl, rfl, eJ, ⟨fo, (eK q (by omega)).trans hfo, fun z => absurd z eN⟩, fun q9 z1 z2 => eK q9 z1⟩
    · rw [eO] at eX
      have eX : X = xIA := eX
      subst eX
      refine kCat_s (by decide) gcl_13 (by decide) ?_
      refine kCat_1 ⟨by decide, by decide⟩ (by decide) gcl_19 (by simp [gNest]) (fun r => ?_)
      refine k_astore 21 [(5, _), (0, _), (1, _), (2, _), (3, _), (4, _)] C dL_pull_19 (by decide) rfl rfl ?_
      refine k_iconst 22 C dL_pull_21 rfl ?_
      exact k_iret C dL_pull_22 rfl ⟨by decide, by decide⟩ ⟨by rw [eO], rfl, rfl, eJ, ⟨fo, (eK q (by omega)).trans hfo, fun z => absurd z eN⟩, fun q9 z1 z2 => eK q9 z1⟩
    · rw [eO] at eX
      have eX : X = xIS := eX
      subst eX
      refine kCat_s (by decide) gcl_13 (by decide) ?_
      refine kCat_s (by decide) gcl_19 (by decide) ?_
      refine kCat_1 ⟨by decide, by decide⟩ (by decide) gcl_21 (by simp [gNest]) (fun r => ?_)
      refine k_astore 25 [(5, _), (0, _), (1, _), (2, _), (3, _), (4, _)] C dL_pull_23 (by decide) rfl rfl ?_
      refine k_iconst 26 C dL_pull_25 rfl ?_
      exact k_iret C dL_pull_26 rfl ⟨by decide, by decide⟩ ⟨by rw [eO], rfl, rfl, eJ, ⟨fo, (eK q (by omega)).trans hfo, fun z => absurd z eN⟩, fun q9 z1 z2 => eK q9 z1⟩
  · obtain ⟨rfl, rfl, rfl, e0, eJ, eK⟩ := hq8
    have hfo8 := (eK q (by omega)).trans hfo
    refine k_i2l 11 C dL_pull_10 rfl ?_
    refine k_last 12 C dL_pull_11 hqb hfo8 (by decide) (by decide) rfl ?_
    refine k_goto 27 C dL_pull_12 rfl ?_
    refine k_iconst 28 C dL_pull_27 rfl ?_
    exact k_iret C dL_pull_28 rfl ⟨by decide, by decide⟩ ⟨by rw [e0], rfl, rfl, eJ.kept (fun q9 z1 z2 => up_n (by omega)), ⟨_, up_s, fun _ => gup_at⟩, fun q9 z1 z2 => (up_n z2).trans (eK q9 z1)⟩
theorem oJoin_c (T : gTt) (w k s rule : Int) : (oJoin T w k s rule).1 = 0 ∨ (oJoin T w k s rule).1 = 1 ∨ (oJoin T w k s rule).1 = 2 ∨ (oJoin T w k s rule).1 = 3 := by
  unfold oJoin
  repeat' split
  all_goals first | exact Or.inl rfl | exact Or.inr (Or.inl rfl) | exact Or.inr (Or.inr (Or.inl rfl)) | exact Or.inr (Or.inr (Or.inr (rfl)))
set_option maxRecDepth 100000 in
set_option maxHeartbeats 4000000 in
theorem c_L_join {E : gEnv} {n : Nat} {h : gH} (x q : Nat) (T : gTt) (w k s rule : Int) (fo : Int → Int64) (hl : E.1.stackTraces = false) (hxb : gB E ≤ x ∧ x + 524 ≤ gB E + n) (hqb : gB E ≤ q ∧ q < gB E + n) (hxq : q < x ∨ x + 524 ≤ q) (hJ : isJ E h x T) (hok : okT T) (hfo : h q = gJ E 1 fo) (hwr : -2147483648 ≤ w ∧ w < 2147483648) (hkr : -2147483648 ≤ k ∧ k < 2147483648) (hsr : -2147483648 ≤ s ∧ s < 2147483648) (hruler : -2147483648 ≤ rule ∧ rule < 2147483648) : gMH E mL_join [(0, 14, 17, 13), (0, 14, 21, 19), (0, 14, 25, 21)] [.ref x, .int (gi w), .int (gi k), .int (gi s), .int (gi rule), .ref q] n none h (gLH E h x q n (oJoin T w k s rule)) gNo := by
  have j1 := hJ.1
  unfold isJo at j1
  refine gMH_of (by decide) (Nat.le_of_ble_eq_true rfl) (fun F C => ?_)
  refine k_aload 2 C dL_join_0 rfl rfl ?_
  refine k_iconst 3 C dL_join_2 rfl ?_
  refine k_aload_n 4 C dL_join_3 rfl rfl ?_
  refine k_iload_n 5 C dL_join_4 rfl rfl ?_
  refine k_iload_n 6 C dL_join_5 rfl rfl ?_
  refine k_iload_n 7 C dL_join_6 rfl rfl ?_
  refine k_iload 9 C dL_join_7 rfl rfl ?_
  refine k_callV (As := [.int (gi w), .int (gi k), .int (gi s), .int (gi rule)]) (rest := [.int (gi 0), .ref q]) 12 C dL_join_9 rfl lk_RL_26 gi_X4_join gv_X4_join ⟨_, _, rfl⟩ (by omega) j1 rfl ⟨⟨by decide, by decide⟩, by decide, by decide⟩ (Nat.le_of_ble_eq_true rfl) rfl (c_X4_join (σ := none) x T w k s rule hl hxb hJ hok hwr hkr hsr hruler) (fun X h8 hq8 => ?_) (fun v8 n8 σ8 h8 hq8 => ?_)
  · obtain ⟨eX, eN, eJ, eK⟩ := hq8
    rcases oJoin_c T w k s rule with eO | eO | eO | eO
    · exact absurd eO eN
    · rw [eO] at eX
      have eX : X = xIO := eX
      subst eX
      refine kCat_1 ⟨by decide, by decide⟩ (by decide) gcl_13 (by simp [gNest]) (fun r => ?_)
      refine k_astore 19 [(6, _), (0, _), (1, _), (2, _), (3, _), (4, _), (5, _)] C dL_join_17 (by decide) rfl rfl ?_
      refine k_iconst 20 C dL_join_19 rfl ?_
      exact k_iret C dL_join_20 rfl ⟨by decide, by decide⟩ ⟨by rw [eO], rfl, rfl, eJ, ⟨fo, (eK q (by omega)).trans hfo, fun z => absurd z eN⟩, fun q9 z1 z2 => eK q9 z1⟩
    · rw [eO] at eX
      have eX : X = xIA := eX
      subst eX
      refine kCat_s (by decide) gcl_13 (by decide) ?_
      refine kCat_1 ⟨by decide, by decide⟩ (by decide) gcl_19 (by simp [gNest]) (fun r => ?_)
      refine k_astore 23 [(6, _), (0, _), (1, _), (2, _), (3, _), (4, _), (5, _)] C dL_join_21 (by decide) rfl rfl ?_
      refine k_iconst 24 C dL_join_23 rfl ?_
      exact k_iret C dL_join_24 rfl ⟨by decide, by decide⟩ ⟨by rw [eO], rfl, rfl, eJ, ⟨fo, (eK q (by omega)).trans hfo, fun z => absurd z eN⟩, fun q9 z1 z2 => eK q9 z1⟩
    · rw [eO] at eX
      have eX : X = xIS := eX
      subst eX
      refine kCat_s (by decide) gcl_13 (by decide) ?_
      refine kCat_s (by decide) gcl_19 (by decide) ?_
      refine kCat_1 ⟨by decide, by decide⟩ (by decide) gcl_21 (by simp [gNest]) (fun r => ?_)
      refine k_astore 27 [(6, _), (0, _), (1, _), (2, _), (3, _), (4, _), (5, _)] C dL_join_25 (by decide) rfl rfl ?_
      refine k_iconst 28 C dL_join_27 rfl ?_
      exact k_iret C dL_join_28 rfl ⟨by decide, by decide⟩ ⟨by rw [eO], rfl, rfl, eJ, ⟨fo, (eK q (by omega)).trans hfo, fun z => absurd z eN⟩, fun q9 z1 z2 => eK q9 z1⟩
  · obtain ⟨rfl, rfl, rfl, e0, eJ, eK⟩ := hq8
    have hfo8 := (eK q (by omega)).trans hfo
    refine k_i2l 13 C dL_join_12 rfl ?_
    refine k_last 14 C dL_join_13 hqb hfo8 (by decide) (by decide) rfl ?_
    refine k_goto 29 C dL_join_14 rfl ?_
    refine k_iconst 30 C dL_join_29 rfl ?_
    exact k_iret C dL_join_30 rfl ⟨by decide, by decide⟩ ⟨by rw [e0], rfl, rfl, eJ.kept (fun q9 z1 z2 => up_n (by omega)), ⟨_, up_s, fun _ => gup_at⟩, fun q9 z1 z2 => (up_n z2).trans (eK q9 z1)⟩
theorem oLose_c (T : gTt) (w k : Int) : (oLose T w k).1 = 0 ∨ (oLose T w k).1 = 1 := by
  unfold oLose
  repeat' split
  all_goals first | exact Or.inl rfl | exact Or.inr (rfl)
set_option maxRecDepth 100000 in
set_option maxHeartbeats 4000000 in
theorem c_L_lose {E : gEnv} {n : Nat} {h : gH} (x q : Nat) (T : gTt) (w k : Int) (fo : Int → Int64) (hl : E.1.stackTraces = false) (hxb : gB E ≤ x ∧ x + 524 ≤ gB E + n) (hqb : gB E ≤ q ∧ q < gB E + n) (hxq : q < x ∨ x + 524 ≤ q) (hJ : isJ E h x T) (hok : okT T) (hfo : h q = gJ E 1 fo) (hwr : -2147483648 ≤ w ∧ w < 2147483648) (hkr : -2147483648 ≤ k ∧ k < 2147483648) : gMH E mL_lose [(0, 10, 13, 13)] [.ref x, .int (gi w), .int (gi k), .ref q] n none h (gLH E h x q n (oLose T w k)) gNo := by
  have j1 := hJ.1
  unfold isJo at j1
  refine gMH_of (by decide) (Nat.le_of_ble_eq_true rfl) (fun F C => ?_)
  refine k_aload_n 1 C dL_lose_0 rfl rfl ?_
  refine k_iconst 2 C dL_lose_1 rfl ?_
  refine k_aload_n 3 C dL_lose_2 rfl rfl ?_
  refine k_iload_n 4 C dL_lose_3 rfl rfl ?_
  refine k_iload_n 5 C dL_lose_4 rfl rfl ?_
  refine k_callV (As := [.int (gi w), .int (gi k)]) (rest := [.int (gi 0), .ref q]) 8 C dL_lose_5 rfl lk_RL_29 gi_X4_lose gv_X4_lose ⟨_, _, rfl⟩ (by omega) j1 rfl ⟨⟨by decide, by decide⟩, by decide, by decide⟩ (Nat.le_of_ble_eq_true rfl) rfl (c_X4_lose (σ := none) x T w k hl hxb hJ hok hwr hkr) (fun X h8 hq8 => ?_) (fun v8 n8 σ8 h8 hq8 => ?_)
  · obtain ⟨eX, eN, eJ, eK⟩ := hq8
    rcases oLose_c T w k with eO | eO
    · exact absurd eO eN
    · rw [eO] at eX
      have eX : X = xIO := eX
      subst eX
      refine kCat_1 ⟨by decide, by decide⟩ (by decide) gcl_13 (by simp [gNest]) (fun r => ?_)
      refine k_astore 15 [(4, _), (0, _), (1, _), (2, _), (3, _)] C dL_lose_13 (by decide) rfl rfl ?_
      refine k_iconst 16 C dL_lose_15 rfl ?_
      exact k_iret C dL_lose_16 rfl ⟨by decide, by decide⟩ ⟨by rw [eO], rfl, rfl, eJ, ⟨fo, (eK q (by omega)).trans hfo, fun z => absurd z eN⟩, fun q9 z1 z2 => eK q9 z1⟩
  · obtain ⟨rfl, rfl, rfl, e0, eJ, eK⟩ := hq8
    have hfo8 := (eK q (by omega)).trans hfo
    refine k_i2l 9 C dL_lose_8 rfl ?_
    refine k_last 10 C dL_lose_9 hqb hfo8 (by decide) (by decide) rfl ?_
    refine k_goto 17 C dL_lose_10 rfl ?_
    refine k_iconst 18 C dL_lose_17 rfl ?_
    exact k_iret C dL_lose_18 rfl ⟨by decide, by decide⟩ ⟨by rw [e0], rfl, rfl, eJ.kept (fun q9 z1 z2 => up_n (by omega)), ⟨_, up_s, fun _ => gup_at⟩, fun q9 z1 z2 => (up_n z2).trans (eK q9 z1)⟩
theorem oForget_c (T : gTt) (w k : Int) : (oForget T w k).1 = 0 ∨ (oForget T w k).1 = 1 ∨ (oForget T w k).1 = 2 := by
  unfold oForget
  repeat' split
  all_goals first | exact Or.inl rfl | exact Or.inr (Or.inl rfl) | exact Or.inr (Or.inr (rfl))
set_option maxRecDepth 100000 in
set_option maxHeartbeats 4000000 in
theorem c_L_forget {E : gEnv} {n : Nat} {h : gH} (x q : Nat) (T : gTt) (w k : Int) (fo : Int → Int64) (hl : E.1.stackTraces = false) (hxb : gB E ≤ x ∧ x + 524 ≤ gB E + n) (hqb : gB E ≤ q ∧ q < gB E + n) (hxq : q < x ∨ x + 524 ≤ q) (hJ : isJ E h x T) (hok : okT T) (hfo : h q = gJ E 1 fo) (hwr : -2147483648 ≤ w ∧ w < 2147483648) (hkr : -2147483648 ≤ k ∧ k < 2147483648) : gMH E mL_forget [(0, 10, 13, 13), (0, 10, 17, 21)] [.ref x, .int (gi w), .int (gi k), .ref q] n none h (gLH E h x q n (oForget T w k)) gNo := by
  have j1 := hJ.1
  unfold isJo at j1
  refine gMH_of (by decide) (Nat.le_of_ble_eq_true rfl) (fun F C => ?_)
  refine k_aload_n 1 C dL_forget_0 rfl rfl ?_
  refine k_iconst 2 C dL_forget_1 rfl ?_
  refine k_aload_n 3 C dL_forget_2 rfl rfl ?_
  refine k_iload_n 4 C dL_forget_3 rfl rfl ?_
  refine k_iload_n 5 C dL_forget_4 rfl rfl ?_
  refine k_callV (As := [.int (gi w), .int (gi k)]) (rest := [.int (gi 0), .ref q]) 8 C dL_forget_5 rfl lk_RL_33 gi_X4_forget gv_X4_forget ⟨_, _, rfl⟩ (by omega) j1 rfl ⟨⟨by decide, by decide⟩, by decide, by decide⟩ (Nat.le_of_ble_eq_true rfl) rfl (c_X4_forget (σ := none) x T w k hl hxb hJ hok hwr hkr) (fun X h8 hq8 => ?_) (fun v8 n8 σ8 h8 hq8 => ?_)
  · obtain ⟨eX, eN, eJ, eK⟩ := hq8
    rcases oForget_c T w k with eO | eO | eO
    · exact absurd eO eN
    · rw [eO] at eX
      have eX : X = xIO := eX
      subst eX
      refine kCat_1 ⟨by decide, by decide⟩ (by decide) gcl_13 (by simp [gNest]) (fun r => ?_)
      refine k_astore 15 [(4, _), (0, _), (1, _), (2, _), (3, _)] C dL_forget_13 (by decide) rfl rfl ?_
      refine k_iconst 16 C dL_forget_15 rfl ?_
      exact k_iret C dL_forget_16 rfl ⟨by decide, by decide⟩ ⟨by rw [eO], rfl, rfl, eJ, ⟨fo, (eK q (by omega)).trans hfo, fun z => absurd z eN⟩, fun q9 z1 z2 => eK q9 z1⟩
    · rw [eO] at eX
      have eX : X = xIS := eX
      subst eX
      refine kCat_s (by decide) gcl_13 (by decide) ?_
      refine kCat_1 ⟨by decide, by decide⟩ (by decide) gcl_21 (by simp [gNest]) (fun r => ?_)
      refine k_astore 19 [(4, _), (0, _), (1, _), (2, _), (3, _)] C dL_forget_17 (by decide) rfl rfl ?_
      refine k_iconst 20 C dL_forget_19 rfl ?_
      exact k_iret C dL_forget_20 rfl ⟨by decide, by decide⟩ ⟨by rw [eO], rfl, rfl, eJ, ⟨fo, (eK q (by omega)).trans hfo, fun z => absurd z eN⟩, fun q9 z1 z2 => eK q9 z1⟩
  · obtain ⟨rfl, rfl, rfl, e0, eJ, eK⟩ := hq8
    have hfo8 := (eK q (by omega)).trans hfo
    refine k_i2l 9 C dL_forget_8 rfl ?_
    refine k_last 10 C dL_forget_9 hqb hfo8 (by decide) (by decide) rfl ?_
    refine k_goto 21 C dL_forget_10 rfl ?_
    refine k_iconst 22 C dL_forget_21 rfl ?_
    exact k_iret C dL_forget_22 rfl ⟨by decide, by decide⟩ ⟨by rw [e0], rfl, rfl, eJ.kept (fun q9 z1 z2 => up_n (by omega)), ⟨_, up_s, fun _ => gup_at⟩, fun q9 z1 z2 => (up_n z2).trans (eK q9 z1)⟩
theorem oPullAll_c (T : gTt) : (oPullAll T).1 = 0 ∨ (oPullAll T).1 = 1 := by
  unfold oPullAll
  repeat' split
  all_goals first | exact Or.inl rfl | exact Or.inr (rfl)
set_option maxRecDepth 100000 in
set_option maxHeartbeats 4000000 in
theorem c_L_pullAll {E : gEnv} {n : Nat} {h : gH} (x q : Nat) (T : gTt) (fo : Int → Int64) (hl : E.1.stackTraces = false) (hxb : gB E ≤ x ∧ x + 524 ≤ gB E + n) (hqb : gB E ≤ q ∧ q < gB E + n) (hxq : q < x ∨ x + 524 ≤ q) (hJ : isJ E h x T) (hok : okT T) (hfo : h q = gJ E 1 fo)  : gMH E mL_pullAll [(0, 8, 11, 21)] [.ref x, .ref q] n none h (gLH E h x q n (oPullAll T)) gNo := by
  have j1 := hJ.1
  unfold isJo at j1
  refine gMH_of (by decide) (Nat.le_of_ble_eq_true rfl) (fun F C => ?_)
  refine k_aload_n 1 C dL_pullAll_0 rfl rfl ?_
  refine k_iconst 2 C dL_pullAll_1 rfl ?_
  refine k_aload_n 3 C dL_pullAll_2 rfl rfl ?_
  refine k_callV (As := []) (rest := [.int (gi 0), .ref q]) 6 C dL_pullAll_3 rfl lk_RL_36 gi_X4_pullAll gv_X4_pullAll ⟨_, _, rfl⟩ (by omega) j1 rfl ⟨⟨by decide, by decide⟩, by decide, by decide⟩ (Nat.le_of_ble_eq_true rfl) rfl (c_X4_pullAll (σ := none) x T hl hxb hJ hok) (fun X h8 hq8 => ?_) (fun v8 n8 σ8 h8 hq8 => ?_)
  · obtain ⟨eX, eN, eJ, eK⟩ := hq8
    rcases oPullAll_c T with eO | eO
    · exact absurd eO eN
    · rw [eO] at eX
      have eX : X = xIS := eX
      subst eX
      refine kCat_1 ⟨by decide, by decide⟩ (by decide) gcl_21 (by simp [gNest]) (fun r => ?_)
      refine k_astore_n 12 [(2, _), (0, _), (1, _)] C dL_pullAll_11 (by decide) rfl rfl ?_
      refine k_iconst 13 C dL_pullAll_12 rfl ?_
      exact k_iret C dL_pullAll_13 rfl ⟨by decide, by decide⟩ ⟨by rw [eO], rfl, rfl, eJ, ⟨fo, (eK q (by omega)).trans hfo, fun z => absurd z eN⟩, fun q9 z1 z2 => eK q9 z1⟩
  · obtain ⟨rfl, rfl, rfl, e0, eJ, eK⟩ := hq8
    have hfo8 := (eK q (by omega)).trans hfo
    refine k_i2l 7 C dL_pullAll_6 rfl ?_
    refine k_last 8 C dL_pullAll_7 hqb hfo8 (by decide) (by decide) rfl ?_
    refine k_goto 14 C dL_pullAll_8 rfl ?_
    refine k_iconst 15 C dL_pullAll_14 rfl ?_
    exact k_iret C dL_pullAll_15 rfl ⟨by decide, by decide⟩ ⟨by rw [e0], rfl, rfl, eJ.kept (fun q9 z1 z2 => up_n (by omega)), ⟨_, up_s, fun _ => gup_at⟩, fun q9 z1 z2 => (up_n z2).trans (eK q9 z1)⟩
theorem oAppend_c (T : gTt) (c : Int) : (oAppend T c).1 = 0 ∨ (oAppend T c).1 = 1 ∨ (oAppend T c).1 = 2 := by
  unfold oAppend
  repeat' split
  all_goals first | exact Or.inl rfl | exact Or.inr (Or.inl rfl) | exact Or.inr (Or.inr (rfl))
set_option maxRecDepth 100000 in
set_option maxHeartbeats 4000000 in
theorem c_L_append {E : gEnv} {n : Nat} {h : gH} (x q : Nat) (T : gTt) (c : Int) (fo : Int → Int64) (hl : E.1.stackTraces = false) (hxb : gB E ≤ x ∧ x + 524 ≤ gB E + n) (hqb : gB E ≤ q ∧ q < gB E + n) (hxq : q < x ∨ x + 524 ≤ q) (hJ : isJ E h x T) (hok : okT T) (hfo : h q = gJ E 1 fo) (hcr : -2147483648 ≤ c ∧ c < 2147483648) : gMH E mL_append [(0, 9, 12, 19), (0, 9, 15, 21)] [.ref x, .int (gi c), .ref q] n none h (gLH E h x q n (oAppend T c)) gNo := by
  have j1 := hJ.1
  unfold isJo at j1
  refine gMH_of (by decide) (Nat.le_of_ble_eq_true rfl) (fun F C => ?_)
  refine k_aload_n 1 C dL_append_0 rfl rfl ?_
  refine k_iconst 2 C dL_append_1 rfl ?_
  refine k_aload_n 3 C dL_append_2 rfl rfl ?_
  refine k_iload_n 4 C dL_append_3 rfl rfl ?_
  refine k_callV (As := [.int (gi c)]) (rest := [.int (gi 0), .ref q]) 7 C dL_append_4 rfl lk_RL_40 gi_X4_append gv_X4_append ⟨_, _, rfl⟩ (by omega) j1 rfl ⟨⟨by decide, by decide⟩, by decide, by decide⟩ (Nat.le_of_ble_eq_true rfl) rfl (c_X4_append (σ := none) x T c hl hxb hJ hok hcr) (fun X h8 hq8 => ?_) (fun v8 n8 σ8 h8 hq8 => ?_)
  · obtain ⟨eX, eN, eJ, eK⟩ := hq8
    rcases oAppend_c T c with eO | eO | eO
    · exact absurd eO eN
    · rw [eO] at eX
      have eX : X = xIA := eX
      subst eX
      refine kCat_1 ⟨by decide, by decide⟩ (by decide) gcl_19 (by simp [gNest]) (fun r => ?_)
      refine k_astore_n 13 [(3, _), (0, _), (1, _), (2, _)] C dL_append_12 (by decide) rfl rfl ?_
      refine k_iconst 14 C dL_append_13 rfl ?_
      exact k_iret C dL_append_14 rfl ⟨by decide, by decide⟩ ⟨by rw [eO], rfl, rfl, eJ, ⟨fo, (eK q (by omega)).trans hfo, fun z => absurd z eN⟩, fun q9 z1 z2 => eK q9 z1⟩
    · rw [eO] at eX
      have eX : X = xIS := eX
      subst eX
      refine kCat_s (by decide) gcl_19 (by decide) ?_
      refine kCat_1 ⟨by decide, by decide⟩ (by decide) gcl_21 (by simp [gNest]) (fun r => ?_)
      refine k_astore_n 16 [(3, _), (0, _), (1, _), (2, _)] C dL_append_15 (by decide) rfl rfl ?_
      refine k_iconst 17 C dL_append_16 rfl ?_
      exact k_iret C dL_append_17 rfl ⟨by decide, by decide⟩ ⟨by rw [eO], rfl, rfl, eJ, ⟨fo, (eK q (by omega)).trans hfo, fun z => absurd z eN⟩, fun q9 z1 z2 => eK q9 z1⟩
  · obtain ⟨rfl, rfl, rfl, e0, eJ, eK⟩ := hq8
    have hfo8 := (eK q (by omega)).trans hfo
    refine k_i2l 8 C dL_append_7 rfl ?_
    refine k_last 9 C dL_append_8 hqb hfo8 (by decide) (by decide) rfl ?_
    refine k_goto 18 C dL_append_9 rfl ?_
    refine k_iconst 19 C dL_append_18 rfl ?_
    exact k_iret C dL_append_19 rfl ⟨by decide, by decide⟩ ⟨by rw [e0], rfl, rfl, eJ.kept (fun q9 z1 z2 => up_n (by omega)), ⟨_, up_s, fun _ => gup_at⟩, fun q9 z1 z2 => (up_n z2).trans (eK q9 z1)⟩
theorem oRunAll_c (T : gTt) : (oRunAll T).1 = 0 ∨ (oRunAll T).1 = 1 := by
  unfold oRunAll
  repeat' split
  all_goals first | exact Or.inl rfl | exact Or.inr (rfl)
set_option maxRecDepth 100000 in
set_option maxHeartbeats 4000000 in
theorem c_L_runAll {E : gEnv} {n : Nat} {h : gH} (x q : Nat) (T : gTt) (fo : Int → Int64) (hl : E.1.stackTraces = false) (hxb : gB E ≤ x ∧ x + 524 ≤ gB E + n) (hqb : gB E ≤ q ∧ q < gB E + n) (hxq : q < x ∨ x + 524 ≤ q) (hJ : isJ E h x T) (hok : okT T) (hfo : h q = gJ E 1 fo)  : gMH E mL_runAll [(0, 8, 11, 19)] [.ref x, .ref q] n none h (gLH E h x q n (oRunAll T)) gNo := by
  have j1 := hJ.1
  unfold isJo at j1
  refine gMH_of (by decide) (Nat.le_of_ble_eq_true rfl) (fun F C => ?_)
  refine k_aload_n 1 C dL_runAll_0 rfl rfl ?_
  refine k_iconst 2 C dL_runAll_1 rfl ?_
  refine k_aload_n 3 C dL_runAll_2 rfl rfl ?_
  refine k_callV (As := []) (rest := [.int (gi 0), .ref q]) 6 C dL_runAll_3 rfl lk_RL_44 gi_X4_runAll gv_X4_runAll ⟨_, _, rfl⟩ (by omega) j1 rfl ⟨⟨by decide, by decide⟩, by decide, by decide⟩ (Nat.le_of_ble_eq_true rfl) rfl (c_X4_runAll (σ := none) x T hl hxb hJ hok) (fun X h8 hq8 => ?_) (fun v8 n8 σ8 h8 hq8 => ?_)
  · obtain ⟨eX, eN, eJ, eK⟩ := hq8
    rcases oRunAll_c T with eO | eO
    · exact absurd eO eN
    · rw [eO] at eX
      have eX : X = xIA := eX
      subst eX
      refine kCat_1 ⟨by decide, by decide⟩ (by decide) gcl_19 (by simp [gNest]) (fun r => ?_)
      refine k_astore_n 12 [(2, _), (0, _), (1, _)] C dL_runAll_11 (by decide) rfl rfl ?_
      refine k_iconst 13 C dL_runAll_12 rfl ?_
      exact k_iret C dL_runAll_13 rfl ⟨by decide, by decide⟩ ⟨by rw [eO], rfl, rfl, eJ, ⟨fo, (eK q (by omega)).trans hfo, fun z => absurd z eN⟩, fun q9 z1 z2 => eK q9 z1⟩
  · obtain ⟨rfl, rfl, rfl, e0, eJ, eK⟩ := hq8
    have hfo8 := (eK q (by omega)).trans hfo
    refine k_i2l 7 C dL_runAll_6 rfl ?_
    refine k_last 8 C dL_runAll_7 hqb hfo8 (by decide) (by decide) rfl ?_
    refine k_goto 14 C dL_runAll_8 rfl ?_
    refine k_iconst 15 C dL_runAll_14 rfl ?_
    exact k_iret C dL_runAll_15 rfl ⟨by decide, by decide⟩ ⟨by rw [e0], rfl, rfl, eJ.kept (fun q9 z1 z2 => up_n (by omega)), ⟨_, up_s, fun _ => gup_at⟩, fun q9 z1 z2 => (up_n z2).trans (eK q9 z1)⟩
theorem oUndo_c (T : gTt) : (oUndo T).1 = 0 ∨ (oUndo T).1 = 1 := by
  unfold oUndo
  repeat' split
  all_goals first | exact Or.inl rfl | exact Or.inr (rfl)
set_option maxRecDepth 100000 in
set_option maxHeartbeats 4000000 in
theorem c_L_undo {E : gEnv} {n : Nat} {h : gH} (x q : Nat) (T : gTt) (fo : Int → Int64) (hl : E.1.stackTraces = false) (hxb : gB E ≤ x ∧ x + 524 ≤ gB E + n) (hqb : gB E ≤ q ∧ q < gB E + n) (hxq : q < x ∨ x + 524 ≤ q) (hJ : isJ E h x T) (hok : okT T) (hfo : h q = gJ E 1 fo)  : gMH E mL_undo [(0, 8, 11, 21)] [.ref x, .ref q] n none h (gLH E h x q n (oUndo T)) gNo := by
  have j1 := hJ.1
  unfold isJo at j1
  refine gMH_of (by decide) (Nat.le_of_ble_eq_true rfl) (fun F C => ?_)
  refine k_aload_n 1 C dL_undo_0 rfl rfl ?_
  refine k_iconst 2 C dL_undo_1 rfl ?_
  refine k_aload_n 3 C dL_undo_2 rfl rfl ?_
  refine k_callV (As := []) (rest := [.int (gi 0), .ref q]) 6 C dL_undo_3 rfl lk_RL_47 gi_X4_undo gv_X4_undo ⟨_, _, rfl⟩ (by omega) j1 rfl ⟨⟨by decide, by decide⟩, by decide, by decide⟩ (Nat.le_of_ble_eq_true rfl) rfl (c_X4_undo (σ := none) x T hl hxb hJ hok) (fun X h8 hq8 => ?_) (fun v8 n8 σ8 h8 hq8 => ?_)
  · obtain ⟨eX, eN, eJ, eK⟩ := hq8
    rcases oUndo_c T with eO | eO
    · exact absurd eO eN
    · rw [eO] at eX
      have eX : X = xIS := eX
      subst eX
      refine kCat_1 ⟨by decide, by decide⟩ (by decide) gcl_21 (by simp [gNest]) (fun r => ?_)
      refine k_astore_n 12 [(2, _), (0, _), (1, _)] C dL_undo_11 (by decide) rfl rfl ?_
      refine k_iconst 13 C dL_undo_12 rfl ?_
      exact k_iret C dL_undo_13 rfl ⟨by decide, by decide⟩ ⟨by rw [eO], rfl, rfl, eJ, ⟨fo, (eK q (by omega)).trans hfo, fun z => absurd z eN⟩, fun q9 z1 z2 => eK q9 z1⟩
  · obtain ⟨rfl, rfl, rfl, e0, eJ, eK⟩ := hq8
    have hfo8 := (eK q (by omega)).trans hfo
    refine k_i2l 7 C dL_undo_6 rfl ?_
    refine k_last 8 C dL_undo_7 hqb hfo8 (by decide) (by decide) rfl ?_
    refine k_goto 14 C dL_undo_8 rfl ?_
    refine k_iconst 15 C dL_undo_14 rfl ?_
    exact k_iret C dL_undo_15 rfl ⟨by decide, by decide⟩ ⟨by rw [e0], rfl, rfl, eJ.kept (fun q9 z1 z2 => up_n (by omega)), ⟨_, up_s, fun _ => gup_at⟩, fun q9 z1 z2 => (up_n z2).trans (eK q9 z1)⟩
theorem oSibling_c (T : gTt) (s k p what : Int) : (oSibling T s k p what).1 = 0 ∨ (oSibling T s k p what).1 = 1 ∨ (oSibling T s k p what).1 = 2 := by
  unfold oSibling
  repeat' split
  all_goals first | exact Or.inl rfl | exact Or.inr (Or.inl rfl) | exact Or.inr (Or.inr (rfl))
set_option maxRecDepth 100000 in
set_option maxHeartbeats 4000000 in
theorem c_L_sibling {E : gEnv} {n : Nat} {h : gH} (x q : Nat) (T : gTt) (s k p what : Int) (fo : Int → Int64) (hl : E.1.stackTraces = false) (hxb : gB E ≤ x ∧ x + 524 ≤ gB E + n) (hqb : gB E ≤ q ∧ q < gB E + n) (hxq : q < x ∨ x + 524 ≤ q) (hJ : isJ E h x T) (hok : okT T) (hfo : h q = gJ E 1 fo) (hsr : -2147483648 ≤ s ∧ s < 2147483648) (hkr : -2147483648 ≤ k ∧ k < 2147483648) (hpr : -2147483648 ≤ p ∧ p < 2147483648) (hwhatr : -2147483648 ≤ what ∧ what < 2147483648) : gMH E mL_sibling [(0, 14, 17, 13), (0, 14, 21, 19)] [.ref x, .int (gi s), .int (gi k), .int (gi p), .int (gi what), .ref q] n none h (gLH E h x q n (oSibling T s k p what)) gNo := by
  have j1 := hJ.1
  unfold isJo at j1
  refine gMH_of (by decide) (Nat.le_of_ble_eq_true rfl) (fun F C => ?_)
  refine k_aload 2 C dL_sibling_0 rfl rfl ?_
  refine k_iconst 3 C dL_sibling_2 rfl ?_
  refine k_aload_n 4 C dL_sibling_3 rfl rfl ?_
  refine k_iload_n 5 C dL_sibling_4 rfl rfl ?_
  refine k_iload_n 6 C dL_sibling_5 rfl rfl ?_
  refine k_iload_n 7 C dL_sibling_6 rfl rfl ?_
  refine k_iload 9 C dL_sibling_7 rfl rfl ?_
  refine k_callV (As := [.int (gi s), .int (gi k), .int (gi p), .int (gi what)]) (rest := [.int (gi 0), .ref q]) 12 C dL_sibling_9 rfl lk_RL_50 gi_X4_sibling gv_X4_sibling ⟨_, _, rfl⟩ (by omega) j1 rfl ⟨⟨by decide, by decide⟩, by decide, by decide⟩ (Nat.le_of_ble_eq_true rfl) rfl (c_X4_sibling (σ := none) x T s k p what hl hxb hJ hok hsr hkr hpr hwhatr) (fun X h8 hq8 => ?_) (fun v8 n8 σ8 h8 hq8 => ?_)
  · obtain ⟨eX, eN, eJ, eK⟩ := hq8
    rcases oSibling_c T s k p what with eO | eO | eO
    · exact absurd eO eN
    · rw [eO] at eX
      have eX : X = xIO := eX
      subst eX
      refine kCat_1 ⟨by decide, by decide⟩ (by decide) gcl_13 (by simp [gNest]) (fun r => ?_)
      refine k_astore 19 [(6, _), (0, _), (1, _), (2, _), (3, _), (4, _), (5, _)] C dL_sibling_17 (by decide) rfl rfl ?_
      refine k_iconst 20 C dL_sibling_19 rfl ?_
      exact k_iret C dL_sibling_20 rfl ⟨by decide, by decide⟩ ⟨by rw [eO], rfl, rfl, eJ, ⟨fo, (eK q (by omega)).trans hfo, fun z => absurd z eN⟩, fun q9 z1 z2 => eK q9 z1⟩
    · rw [eO] at eX
      have eX : X = xIA := eX
      subst eX
      refine kCat_s (by decide) gcl_13 (by decide) ?_
      refine kCat_1 ⟨by decide, by decide⟩ (by decide) gcl_19 (by simp [gNest]) (fun r => ?_)
      refine k_astore 23 [(6, _), (0, _), (1, _), (2, _), (3, _), (4, _), (5, _)] C dL_sibling_21 (by decide) rfl rfl ?_
      refine k_iconst 24 C dL_sibling_23 rfl ?_
      exact k_iret C dL_sibling_24 rfl ⟨by decide, by decide⟩ ⟨by rw [eO], rfl, rfl, eJ, ⟨fo, (eK q (by omega)).trans hfo, fun z => absurd z eN⟩, fun q9 z1 z2 => eK q9 z1⟩
  · obtain ⟨rfl, rfl, rfl, e0, eJ, eK⟩ := hq8
    have hfo8 := (eK q (by omega)).trans hfo
    refine k_i2l 13 C dL_sibling_12 rfl ?_
    refine k_last 14 C dL_sibling_13 hqb hfo8 (by decide) (by decide) rfl ?_
    refine k_goto 25 C dL_sibling_14 rfl ?_
    refine k_iconst 26 C dL_sibling_25 rfl ?_
    exact k_iret C dL_sibling_26 rfl ⟨by decide, by decide⟩ ⟨by rw [e0], rfl, rfl, eJ.kept (fun q9 z1 z2 => up_n (by omega)), ⟨_, up_s, fun _ => gup_at⟩, fun q9 z1 z2 => (up_n z2).trans (eK q9 z1)⟩
theorem oVector_c (T : gTt) (s k w : Int) : (oVector T s k w).1 = 0 ∨ (oVector T s k w).1 = 1 := by
  unfold oVector
  repeat' split
  all_goals first | exact Or.inl rfl | exact Or.inr (rfl)
set_option maxRecDepth 100000 in
set_option maxHeartbeats 4000000 in
theorem c_L_vector {E : gEnv} {n : Nat} {h : gH} (x q : Nat) (T : gTt) (s k w : Int) (fo : Int → Int64) (hl : E.1.stackTraces = false) (hxb : gB E ≤ x ∧ x + 524 ≤ gB E + n) (hqb : gB E ≤ q ∧ q < gB E + n) (hxq : q < x ∨ x + 524 ≤ q) (hJ : isJ E h x T) (hok : okT T) (hfo : h q = gJ E 1 fo) (hsr : -2147483648 ≤ s ∧ s < 2147483648) (hkr : -2147483648 ≤ k ∧ k < 2147483648) (hwr : -2147483648 ≤ w ∧ w < 2147483648) : gMH E mL_vector [(0, 12, 15, 13)] [.ref x, .int (gi s), .int (gi k), .int (gi w), .ref q] n none h (gLH E h x q n (oVector T s k w)) gNo := by
  have j1 := hJ.1
  unfold isJo at j1
  refine gMH_of (by decide) (Nat.le_of_ble_eq_true rfl) (fun F C => ?_)
  refine k_aload 2 C dL_vector_0 rfl rfl ?_
  refine k_iconst 3 C dL_vector_2 rfl ?_
  refine k_aload_n 4 C dL_vector_3 rfl rfl ?_
  refine k_iload_n 5 C dL_vector_4 rfl rfl ?_
  refine k_iload_n 6 C dL_vector_5 rfl rfl ?_
  refine k_iload_n 7 C dL_vector_6 rfl rfl ?_
  refine k_callV (As := [.int (gi s), .int (gi k), .int (gi w)]) (rest := [.int (gi 0), .ref q]) 10 C dL_vector_7 rfl lk_RL_53 gi_X4_vector gv_X4_vector ⟨_, _, rfl⟩ (by omega) j1 rfl ⟨⟨by decide, by decide⟩, by decide, by decide⟩ (Nat.le_of_ble_eq_true rfl) rfl (c_X4_vector (σ := none) x T s k w hl hxb hJ hok hsr hkr hwr) (fun X h8 hq8 => ?_) (fun v8 n8 σ8 h8 hq8 => ?_)
  · obtain ⟨eX, eN, eJ, eK⟩ := hq8
    rcases oVector_c T s k w with eO | eO
    · exact absurd eO eN
    · rw [eO] at eX
      have eX : X = xIO := eX
      subst eX
      refine kCat_1 ⟨by decide, by decide⟩ (by decide) gcl_13 (by simp [gNest]) (fun r => ?_)
      refine k_astore 17 [(5, _), (0, _), (1, _), (2, _), (3, _), (4, _)] C dL_vector_15 (by decide) rfl rfl ?_
      refine k_iconst 18 C dL_vector_17 rfl ?_
      exact k_iret C dL_vector_18 rfl ⟨by decide, by decide⟩ ⟨by rw [eO], rfl, rfl, eJ, ⟨fo, (eK q (by omega)).trans hfo, fun z => absurd z eN⟩, fun q9 z1 z2 => eK q9 z1⟩
  · obtain ⟨rfl, rfl, rfl, e0, eJ, eK⟩ := hq8
    have hfo8 := (eK q (by omega)).trans hfo
    refine k_i2l 11 C dL_vector_10 rfl ?_
    refine k_last 12 C dL_vector_11 hqb hfo8 (by decide) (by decide) rfl ?_
    refine k_goto 19 C dL_vector_12 rfl ?_
    refine k_iconst 20 C dL_vector_19 rfl ?_
    exact k_iret C dL_vector_20 rfl ⟨by decide, by decide⟩ ⟨by rw [e0], rfl, rfl, eJ.kept (fun q9 z1 z2 => up_n (by omega)), ⟨_, up_s, fun _ => gup_at⟩, fun q9 z1 z2 => (up_n z2).trans (eK q9 z1)⟩
theorem oKnows_c (T : gTt) (w k o : Int) : (oKnows T w k o).1 = 0 ∨ (oKnows T w k o).1 = 1 := by
  unfold oKnows
  repeat' split
  all_goals first | exact Or.inl rfl | exact Or.inr (rfl)
set_option maxRecDepth 100000 in
set_option maxHeartbeats 4000000 in
theorem c_L_knows {E : gEnv} {n : Nat} {h : gH} (x q : Nat) (T : gTt) (w k o : Int) (fo : Int → Int64) (hl : E.1.stackTraces = false) (hxb : gB E ≤ x ∧ x + 524 ≤ gB E + n) (hqb : gB E ≤ q ∧ q < gB E + n) (hxq : q < x ∨ x + 524 ≤ q) (hJ : isJ E h x T) (hok : okT T) (hfo : h q = gJ E 1 fo) (hwr : -2147483648 ≤ w ∧ w < 2147483648) (hkr : -2147483648 ≤ k ∧ k < 2147483648) (hor : -2147483648 ≤ o ∧ o < 2147483648) : gMH E mL_knows [(0, 12, 15, 13)] [.ref x, .int (gi w), .int (gi k), .int (gi o), .ref q] n none h (gLH E h x q n (oKnows T w k o)) gNo := by
  have j1 := hJ.1
  unfold isJo at j1
  refine gMH_of (by decide) (Nat.le_of_ble_eq_true rfl) (fun F C => ?_)
  refine k_aload 2 C dL_knows_0 rfl rfl ?_
  refine k_iconst 3 C dL_knows_2 rfl ?_
  refine k_aload_n 4 C dL_knows_3 rfl rfl ?_
  refine k_iload_n 5 C dL_knows_4 rfl rfl ?_
  refine k_iload_n 6 C dL_knows_5 rfl rfl ?_
  refine k_iload_n 7 C dL_knows_6 rfl rfl ?_
  refine k_callV (As := [.int (gi w), .int (gi k), .int (gi o)]) (rest := [.int (gi 0), .ref q]) 10 C dL_knows_7 rfl lk_RL_56 gi_X4_knows gv_X4_knows ⟨_, _, rfl⟩ (by omega) j1 rfl ⟨⟨by decide, by decide⟩, by decide, by decide⟩ (Nat.le_of_ble_eq_true rfl) rfl (c_X4_knows (σ := none) x T w k o hl hxb hJ hok hwr hkr hor) (fun X h8 hq8 => ?_) (fun v8 n8 σ8 h8 hq8 => ?_)
  · obtain ⟨eX, eN, eJ, eK⟩ := hq8
    rcases oKnows_c T w k o with eO | eO
    · exact absurd eO eN
    · rw [eO] at eX
      have eX : X = xIO := eX
      subst eX
      refine kCat_1 ⟨by decide, by decide⟩ (by decide) gcl_13 (by simp [gNest]) (fun r => ?_)
      refine k_astore 17 [(5, _), (0, _), (1, _), (2, _), (3, _), (4, _)] C dL_knows_15 (by decide) rfl rfl ?_
      refine k_iconst 18 C dL_knows_17 rfl ?_
      exact k_iret C dL_knows_18 rfl ⟨by decide, by decide⟩ ⟨by rw [eO], rfl, rfl, eJ, ⟨fo, (eK q (by omega)).trans hfo, fun z => absurd z eN⟩, fun q9 z1 z2 => eK q9 z1⟩
  · obtain ⟨rfl, rfl, rfl, e0, eJ, eK⟩ := hq8
    have hfo8 := (eK q (by omega)).trans hfo
    refine k_i2l 11 C dL_knows_10 rfl ?_
    refine k_last 12 C dL_knows_11 hqb hfo8 (by decide) (by decide) rfl ?_
    refine k_goto 19 C dL_knows_12 rfl ?_
    refine k_iconst 20 C dL_knows_19 rfl ?_
    exact k_iret C dL_knows_20 rfl ⟨by decide, by decide⟩ ⟨by rw [e0], rfl, rfl, eJ.kept (fun q9 z1 z2 => up_n (by omega)), ⟨_, up_s, fun _ => gup_at⟩, fun q9 z1 z2 => (up_n z2).trans (eK q9 z1)⟩
theorem oKey_c (T : gTt) (k what : Int) : (oKey T k what).1 = 0 ∨ (oKey T k what).1 = 1 ∨ (oKey T k what).1 = 2 := by
  unfold oKey
  repeat' split
  all_goals first | exact Or.inl rfl | exact Or.inr (Or.inl rfl) | exact Or.inr (Or.inr (rfl))
set_option maxRecDepth 100000 in
set_option maxHeartbeats 4000000 in
theorem c_L_key {E : gEnv} {n : Nat} {h : gH} (x q : Nat) (T : gTt) (k what : Int) (fo : Int → Int64) (hl : E.1.stackTraces = false) (hxb : gB E ≤ x ∧ x + 524 ≤ gB E + n) (hqb : gB E ≤ q ∧ q < gB E + n) (hxq : q < x ∨ x + 524 ≤ q) (hJ : isJ E h x T) (hok : okT T) (hfo : h q = gJ E 1 fo) (hkr : -2147483648 ≤ k ∧ k < 2147483648) (hwhatr : -2147483648 ≤ what ∧ what < 2147483648) : gMH E mL_key [(0, 10, 13, 13), (0, 10, 17, 19)] [.ref x, .int (gi k), .int (gi what), .ref q] n none h (gLH E h x q n (oKey T k what)) gNo := by
  have j1 := hJ.1
  unfold isJo at j1
  refine gMH_of (by decide) (Nat.le_of_ble_eq_true rfl) (fun F C => ?_)
  refine k_aload_n 1 C dL_key_0 rfl rfl ?_
  refine k_iconst 2 C dL_key_1 rfl ?_
  refine k_aload_n 3 C dL_key_2 rfl rfl ?_
  refine k_iload_n 4 C dL_key_3 rfl rfl ?_
  refine k_iload_n 5 C dL_key_4 rfl rfl ?_
  refine k_callV (As := [.int (gi k), .int (gi what)]) (rest := [.int (gi 0), .ref q]) 8 C dL_key_5 rfl lk_RL_59 gi_X4_key gv_X4_key ⟨_, _, rfl⟩ (by omega) j1 rfl ⟨⟨by decide, by decide⟩, by decide, by decide⟩ (Nat.le_of_ble_eq_true rfl) rfl (c_X4_key (σ := none) x T k what hl hxb hJ hok hkr hwhatr) (fun X h8 hq8 => ?_) (fun v8 n8 σ8 h8 hq8 => ?_)
  · obtain ⟨eX, eN, eJ, eK⟩ := hq8
    rcases oKey_c T k what with eO | eO | eO
    · exact absurd eO eN
    · rw [eO] at eX
      have eX : X = xIO := eX
      subst eX
      refine kCat_1 ⟨by decide, by decide⟩ (by decide) gcl_13 (by simp [gNest]) (fun r => ?_)
      refine k_astore 15 [(4, _), (0, _), (1, _), (2, _), (3, _)] C dL_key_13 (by decide) rfl rfl ?_
      refine k_iconst 16 C dL_key_15 rfl ?_
      exact k_iret C dL_key_16 rfl ⟨by decide, by decide⟩ ⟨by rw [eO], rfl, rfl, eJ, ⟨fo, (eK q (by omega)).trans hfo, fun z => absurd z eN⟩, fun q9 z1 z2 => eK q9 z1⟩
    · rw [eO] at eX
      have eX : X = xIA := eX
      subst eX
      refine kCat_s (by decide) gcl_13 (by decide) ?_
      refine kCat_1 ⟨by decide, by decide⟩ (by decide) gcl_19 (by simp [gNest]) (fun r => ?_)
      refine k_astore 19 [(4, _), (0, _), (1, _), (2, _), (3, _)] C dL_key_17 (by decide) rfl rfl ?_
      refine k_iconst 20 C dL_key_19 rfl ?_
      exact k_iret C dL_key_20 rfl ⟨by decide, by decide⟩ ⟨by rw [eO], rfl, rfl, eJ, ⟨fo, (eK q (by omega)).trans hfo, fun z => absurd z eN⟩, fun q9 z1 z2 => eK q9 z1⟩
  · obtain ⟨rfl, rfl, rfl, e0, eJ, eK⟩ := hq8
    have hfo8 := (eK q (by omega)).trans hfo
    refine k_i2l 9 C dL_key_8 rfl ?_
    refine k_last 10 C dL_key_9 hqb hfo8 (by decide) (by decide) rfl ?_
    refine k_goto 21 C dL_key_10 rfl ?_
    refine k_iconst 22 C dL_key_21 rfl ?_
    exact k_iret C dL_key_22 rfl ⟨by decide, by decide⟩ ⟨by rw [e0], rfl, rfl, eJ.kept (fun q9 z1 z2 => up_n (by omega)), ⟨_, up_s, fun _ => gup_at⟩, fun q9 z1 z2 => (up_n z2).trans (eK q9 z1)⟩
theorem oCount_c (T : gTt) (what : Int) : (oCount T what).1 = 0 ∨ (oCount T what).1 = 1 := by
  unfold oCount
  repeat' split
  all_goals first | exact Or.inl rfl | exact Or.inr (rfl)
set_option maxRecDepth 100000 in
set_option maxHeartbeats 4000000 in
theorem c_L_count {E : gEnv} {n : Nat} {h : gH} (x q : Nat) (T : gTt) (what : Int) (fo : Int → Int64) (hl : E.1.stackTraces = false) (hxb : gB E ≤ x ∧ x + 524 ≤ gB E + n) (hqb : gB E ≤ q ∧ q < gB E + n) (hxq : q < x ∨ x + 524 ≤ q) (hJ : isJ E h x T) (hok : okT T) (hfo : h q = gJ E 1 fo) (hwhatr : -2147483648 ≤ what ∧ what < 2147483648) : gMH E mL_count [(0, 9, 12, 19)] [.ref x, .int (gi what), .ref q] n none h (gLH E h x q n (oCount T what)) gNo := by
  have j1 := hJ.1
  unfold isJo at j1
  refine gMH_of (by decide) (Nat.le_of_ble_eq_true rfl) (fun F C => ?_)
  refine k_aload_n 1 C dL_count_0 rfl rfl ?_
  refine k_iconst 2 C dL_count_1 rfl ?_
  refine k_aload_n 3 C dL_count_2 rfl rfl ?_
  refine k_iload_n 4 C dL_count_3 rfl rfl ?_
  refine k_callV (As := [.int (gi what)]) (rest := [.int (gi 0), .ref q]) 7 C dL_count_4 rfl lk_RL_62 gi_X4_count gv_X4_count ⟨_, _, rfl⟩ (by omega) j1 rfl ⟨⟨by decide, by decide⟩, by decide, by decide⟩ (Nat.le_of_ble_eq_true rfl) rfl (c_X4_count (σ := none) x T what hl hxb hJ hok hwhatr) (fun X h8 hq8 => ?_) (fun v8 n8 σ8 h8 hq8 => ?_)
  · obtain ⟨eX, eN, eJ, eK⟩ := hq8
    rcases oCount_c T what with eO | eO
    · exact absurd eO eN
    · rw [eO] at eX
      have eX : X = xIA := eX
      subst eX
      refine kCat_1 ⟨by decide, by decide⟩ (by decide) gcl_19 (by simp [gNest]) (fun r => ?_)
      refine k_astore_n 13 [(3, _), (0, _), (1, _), (2, _)] C dL_count_12 (by decide) rfl rfl ?_
      refine k_iconst 14 C dL_count_13 rfl ?_
      exact k_iret C dL_count_14 rfl ⟨by decide, by decide⟩ ⟨by rw [eO], rfl, rfl, eJ, ⟨fo, (eK q (by omega)).trans hfo, fun z => absurd z eN⟩, fun q9 z1 z2 => eK q9 z1⟩
  · obtain ⟨rfl, rfl, rfl, e0, eJ, eK⟩ := hq8
    have hfo8 := (eK q (by omega)).trans hfo
    refine k_i2l 8 C dL_count_7 rfl ?_
    refine k_last 9 C dL_count_8 hqb hfo8 (by decide) (by decide) rfl ?_
    refine k_goto 15 C dL_count_9 rfl ?_
    refine k_iconst 16 C dL_count_15 rfl ?_
    exact k_iret C dL_count_16 rfl ⟨by decide, by decide⟩ ⟨by rw [e0], rfl, rfl, eJ.kept (fun q9 z1 z2 => up_n (by omega)), ⟨_, up_s, fun _ => gup_at⟩, fun q9 z1 z2 => (up_n z2).trans (eK q9 z1)⟩
theorem oIfW_c (T : gTt) (w k s what : Int) : (oIfW T w k s what).1 = 0 ∨ (oIfW T w k s what).1 = 1 ∨ (oIfW T w k s what).1 = 2 := by
  unfold oIfW
  repeat' split
  all_goals first | exact Or.inl rfl | exact Or.inr (Or.inl rfl) | exact Or.inr (Or.inr (rfl))
set_option maxRecDepth 100000 in
set_option maxHeartbeats 4000000 in
theorem c_L_ifWritten {E : gEnv} {n : Nat} {h : gH} (x q : Nat) (T : gTt) (w k s what : Int) (fo : Int → Int64) (hl : E.1.stackTraces = false) (hxb : gB E ≤ x ∧ x + 524 ≤ gB E + n) (hqb : gB E ≤ q ∧ q < gB E + n) (hxq : q < x ∨ x + 524 ≤ q) (hJ : isJ E h x T) (hok : okT T) (hfo : h q = gJ E 1 fo) (hwr : -2147483648 ≤ w ∧ w < 2147483648) (hkr : -2147483648 ≤ k ∧ k < 2147483648) (hsr : -2147483648 ≤ s ∧ s < 2147483648) (hwhatr : -2147483648 ≤ what ∧ what < 2147483648) : gMH E mL_ifWritten [(0, 14, 17, 13), (0, 14, 21, 19)] [.ref x, .int (gi w), .int (gi k), .int (gi s), .int (gi what), .ref q] n none h (gLH E h x q n (oIfW T w k s what)) gNo := by
  have j1 := hJ.1
  unfold isJo at j1
  refine gMH_of (by decide) (Nat.le_of_ble_eq_true rfl) (fun F C => ?_)
  refine k_aload 2 C dL_ifWritten_0 rfl rfl ?_
  refine k_iconst 3 C dL_ifWritten_2 rfl ?_
  refine k_aload_n 4 C dL_ifWritten_3 rfl rfl ?_
  refine k_iload_n 5 C dL_ifWritten_4 rfl rfl ?_
  refine k_iload_n 6 C dL_ifWritten_5 rfl rfl ?_
  refine k_iload_n 7 C dL_ifWritten_6 rfl rfl ?_
  refine k_iload 9 C dL_ifWritten_7 rfl rfl ?_
  refine k_callV (As := [.int (gi w), .int (gi k), .int (gi s), .int (gi what)]) (rest := [.int (gi 0), .ref q]) 12 C dL_ifWritten_9 rfl lk_RL_65 gi_X4_ifWritten gv_X4_ifWritten ⟨_, _, rfl⟩ (by omega) j1 rfl ⟨⟨by decide, by decide⟩, by decide, by decide⟩ (Nat.le_of_ble_eq_true rfl) rfl (c_X4_ifWritten (σ := none) x T w k s what hl hxb hJ hok hwr hkr hsr hwhatr) (fun X h8 hq8 => ?_) (fun v8 n8 σ8 h8 hq8 => ?_)
  · obtain ⟨eX, eN, eJ, eK⟩ := hq8
    rcases oIfW_c T w k s what with eO | eO | eO
    · exact absurd eO eN
    · rw [eO] at eX
      have eX : X = xIO := eX
      subst eX
      refine kCat_1 ⟨by decide, by decide⟩ (by decide) gcl_13 (by simp [gNest]) (fun r => ?_)
      refine k_astore 19 [(6, _), (0, _), (1, _), (2, _), (3, _), (4, _), (5, _)] C dL_ifWritten_17 (by decide) rfl rfl ?_
      refine k_iconst 20 C dL_ifWritten_19 rfl ?_
      exact k_iret C dL_ifWritten_20 rfl ⟨by decide, by decide⟩ ⟨by rw [eO], rfl, rfl, eJ, ⟨fo, (eK q (by omega)).trans hfo, fun z => absurd z eN⟩, fun q9 z1 z2 => eK q9 z1⟩
    · rw [eO] at eX
      have eX : X = xIA := eX
      subst eX
      refine kCat_s (by decide) gcl_13 (by decide) ?_
      refine kCat_1 ⟨by decide, by decide⟩ (by decide) gcl_19 (by simp [gNest]) (fun r => ?_)
      refine k_astore 23 [(6, _), (0, _), (1, _), (2, _), (3, _), (4, _), (5, _)] C dL_ifWritten_21 (by decide) rfl rfl ?_
      refine k_iconst 24 C dL_ifWritten_23 rfl ?_
      exact k_iret C dL_ifWritten_24 rfl ⟨by decide, by decide⟩ ⟨by rw [eO], rfl, rfl, eJ, ⟨fo, (eK q (by omega)).trans hfo, fun z => absurd z eN⟩, fun q9 z1 z2 => eK q9 z1⟩
  · obtain ⟨rfl, rfl, rfl, e0, eJ, eK⟩ := hq8
    have hfo8 := (eK q (by omega)).trans hfo
    refine k_i2l 13 C dL_ifWritten_12 rfl ?_
    refine k_last 14 C dL_ifWritten_13 hqb hfo8 (by decide) (by decide) rfl ?_
    refine k_goto 25 C dL_ifWritten_14 rfl ?_
    refine k_iconst 26 C dL_ifWritten_25 rfl ?_
    exact k_iret C dL_ifWritten_26 rfl ⟨by decide, by decide⟩ ⟨by rw [e0], rfl, rfl, eJ.kept (fun q9 z1 z2 => up_n (by omega)), ⟨_, up_s, fun _ => gup_at⟩, fun q9 z1 z2 => (up_n z2).trans (eK q9 z1)⟩
theorem oIfP_c (T : gTt) (s o k what : Int) : (oIfP T s o k what).1 = 0 ∨ (oIfP T s o k what).1 = 1 ∨ (oIfP T s o k what).1 = 2 := by
  unfold oIfP
  repeat' split
  all_goals first | exact Or.inl rfl | exact Or.inr (Or.inl rfl) | exact Or.inr (Or.inr (rfl))
set_option maxRecDepth 100000 in
set_option maxHeartbeats 4000000 in
theorem c_L_ifPulled {E : gEnv} {n : Nat} {h : gH} (x q : Nat) (T : gTt) (s o k what : Int) (fo : Int → Int64) (hl : E.1.stackTraces = false) (hxb : gB E ≤ x ∧ x + 524 ≤ gB E + n) (hqb : gB E ≤ q ∧ q < gB E + n) (hxq : q < x ∨ x + 524 ≤ q) (hJ : isJ E h x T) (hok : okT T) (hfo : h q = gJ E 1 fo) (hsr : -2147483648 ≤ s ∧ s < 2147483648) (hor : -2147483648 ≤ o ∧ o < 2147483648) (hkr : -2147483648 ≤ k ∧ k < 2147483648) (hwhatr : -2147483648 ≤ what ∧ what < 2147483648) : gMH E mL_ifPulled [(0, 14, 17, 13), (0, 14, 21, 19)] [.ref x, .int (gi s), .int (gi o), .int (gi k), .int (gi what), .ref q] n none h (gLH E h x q n (oIfP T s o k what)) gNo := by
  have j1 := hJ.1
  unfold isJo at j1
  refine gMH_of (by decide) (Nat.le_of_ble_eq_true rfl) (fun F C => ?_)
  refine k_aload 2 C dL_ifPulled_0 rfl rfl ?_
  refine k_iconst 3 C dL_ifPulled_2 rfl ?_
  refine k_aload_n 4 C dL_ifPulled_3 rfl rfl ?_
  refine k_iload_n 5 C dL_ifPulled_4 rfl rfl ?_
  refine k_iload_n 6 C dL_ifPulled_5 rfl rfl ?_
  refine k_iload_n 7 C dL_ifPulled_6 rfl rfl ?_
  refine k_iload 9 C dL_ifPulled_7 rfl rfl ?_
  refine k_callV (As := [.int (gi s), .int (gi o), .int (gi k), .int (gi what)]) (rest := [.int (gi 0), .ref q]) 12 C dL_ifPulled_9 rfl lk_RL_68 gi_X4_ifPulled gv_X4_ifPulled ⟨_, _, rfl⟩ (by omega) j1 rfl ⟨⟨by decide, by decide⟩, by decide, by decide⟩ (Nat.le_of_ble_eq_true rfl) rfl (c_X4_ifPulled (σ := none) x T s o k what hl hxb hJ hok hsr hor hkr hwhatr) (fun X h8 hq8 => ?_) (fun v8 n8 σ8 h8 hq8 => ?_)
  · obtain ⟨eX, eN, eJ, eK⟩ := hq8
    rcases oIfP_c T s o k what with eO | eO | eO
    · exact absurd eO eN
    · rw [eO] at eX
      have eX : X = xIO := eX
      subst eX
      refine kCat_1 ⟨by decide, by decide⟩ (by decide) gcl_13 (by simp [gNest]) (fun r => ?_)
      refine k_astore 19 [(6, _), (0, _), (1, _), (2, _), (3, _), (4, _), (5, _)] C dL_ifPulled_17 (by decide) rfl rfl ?_
      refine k_iconst 20 C dL_ifPulled_19 rfl ?_
      exact k_iret C dL_ifPulled_20 rfl ⟨by decide, by decide⟩ ⟨by rw [eO], rfl, rfl, eJ, ⟨fo, (eK q (by omega)).trans hfo, fun z => absurd z eN⟩, fun q9 z1 z2 => eK q9 z1⟩
    · rw [eO] at eX
      have eX : X = xIA := eX
      subst eX
      refine kCat_s (by decide) gcl_13 (by decide) ?_
      refine kCat_1 ⟨by decide, by decide⟩ (by decide) gcl_19 (by simp [gNest]) (fun r => ?_)
      refine k_astore 23 [(6, _), (0, _), (1, _), (2, _), (3, _), (4, _), (5, _)] C dL_ifPulled_21 (by decide) rfl rfl ?_
      refine k_iconst 24 C dL_ifPulled_23 rfl ?_
      exact k_iret C dL_ifPulled_24 rfl ⟨by decide, by decide⟩ ⟨by rw [eO], rfl, rfl, eJ, ⟨fo, (eK q (by omega)).trans hfo, fun z => absurd z eN⟩, fun q9 z1 z2 => eK q9 z1⟩
  · obtain ⟨rfl, rfl, rfl, e0, eJ, eK⟩ := hq8
    have hfo8 := (eK q (by omega)).trans hfo
    refine k_i2l 13 C dL_ifPulled_12 rfl ?_
    refine k_last 14 C dL_ifPulled_13 hqb hfo8 (by decide) (by decide) rfl ?_
    refine k_goto 25 C dL_ifPulled_14 rfl ?_
    refine k_iconst 26 C dL_ifPulled_25 rfl ?_
    exact k_iret C dL_ifPulled_26 rfl ⟨by decide, by decide⟩ ⟨by rw [e0], rfl, rfl, eJ.kept (fun q9 z1 z2 => up_n (by omega)), ⟨_, up_s, fun _ => gup_at⟩, fun q9 z1 z2 => (up_n z2).trans (eK q9 z1)⟩
theorem oWhy_c (T : gTt) (w k : Int) : (oWhy T w k).1 = 0 ∨ (oWhy T w k).1 = 1 := by
  unfold oWhy
  repeat' split
  all_goals first | exact Or.inl rfl | exact Or.inr (rfl)
set_option maxRecDepth 100000 in
set_option maxHeartbeats 4000000 in
theorem c_L_whyNot {E : gEnv} {n : Nat} {h : gH} (x q : Nat) (T : gTt) (w k : Int) (fo : Int → Int64) (hl : E.1.stackTraces = false) (hxb : gB E ≤ x ∧ x + 524 ≤ gB E + n) (hqb : gB E ≤ q ∧ q < gB E + n) (hxq : q < x ∨ x + 524 ≤ q) (hJ : isJ E h x T) (hok : okT T) (hfo : h q = gJ E 1 fo) (hwr : -2147483648 ≤ w ∧ w < 2147483648) (hkr : -2147483648 ≤ k ∧ k < 2147483648) : gMH E mL_whyNot [(0, 10, 13, 13)] [.ref x, .int (gi w), .int (gi k), .ref q] n none h (gLH E h x q n (oWhy T w k)) gNo := by
  have j1 := hJ.1
  unfold isJo at j1
  refine gMH_of (by decide) (Nat.le_of_ble_eq_true rfl) (fun F C => ?_)
  refine k_aload_n 1 C dL_whyNot_0 rfl rfl ?_
  refine k_iconst 2 C dL_whyNot_1 rfl ?_
  refine k_aload_n 3 C dL_whyNot_2 rfl rfl ?_
  refine k_iload_n 4 C dL_whyNot_3 rfl rfl ?_
  refine k_iload_n 5 C dL_whyNot_4 rfl rfl ?_
  refine k_callV (As := [.int (gi w), .int (gi k)]) (rest := [.int (gi 0), .ref q]) 8 C dL_whyNot_5 rfl lk_RL_71 gi_X4_whyNot gv_X4_whyNot ⟨_, _, rfl⟩ (by omega) j1 rfl ⟨⟨by decide, by decide⟩, by decide, by decide⟩ (Nat.le_of_ble_eq_true rfl) rfl (c_X4_whyNot (σ := none) x T w k hl hxb hJ hok hwr hkr) (fun X h8 hq8 => ?_) (fun v8 n8 σ8 h8 hq8 => ?_)
  · obtain ⟨eX, eN, eJ, eK⟩ := hq8
    rcases oWhy_c T w k with eO | eO
    · exact absurd eO eN
    · rw [eO] at eX
      have eX : X = xIO := eX
      subst eX
      refine kCat_1 ⟨by decide, by decide⟩ (by decide) gcl_13 (by simp [gNest]) (fun r => ?_)
      refine k_astore 15 [(4, _), (0, _), (1, _), (2, _), (3, _)] C dL_whyNot_13 (by decide) rfl rfl ?_
      refine k_iconst 16 C dL_whyNot_15 rfl ?_
      exact k_iret C dL_whyNot_16 rfl ⟨by decide, by decide⟩ ⟨by rw [eO], rfl, rfl, eJ, ⟨fo, (eK q (by omega)).trans hfo, fun z => absurd z eN⟩, fun q9 z1 z2 => eK q9 z1⟩
  · obtain ⟨rfl, rfl, rfl, e0, eJ, eK⟩ := hq8
    have hfo8 := (eK q (by omega)).trans hfo
    refine k_i2l 9 C dL_whyNot_8 rfl ?_
    refine k_last 10 C dL_whyNot_9 hqb hfo8 (by decide) (by decide) rfl ?_
    refine k_goto 17 C dL_whyNot_10 rfl ?_
    refine k_iconst 18 C dL_whyNot_17 rfl ?_
    exact k_iret C dL_whyNot_18 rfl ⟨by decide, by decide⟩ ⟨by rw [e0], rfl, rfl, eJ.kept (fun q9 z1 z2 => up_n (by omega)), ⟨_, up_s, fun _ => gup_at⟩, fun q9 z1 z2 => (up_n z2).trans (eK q9 z1)⟩
