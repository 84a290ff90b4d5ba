/-! the law whole -/
set_option maxRecDepth 100000 in
set_option maxHeartbeats 4000000 in
theorem law_go {E : gEnv} {F : gFr} {Q : State → Prop} {sb Ls : Nat} {xs : Nat → Int32} {h : gH} {σ : Option Nat} (C : gC E F mL_law) (hX : va_X sb Ls xs F.2.2.1 F.2.2.1.heap) (hsb : sb < gB E) (hl : E.1.stackTraces = false) (hLs : Ls ≤ 260) (KE : ∀ (b : Nat) (fz : Heap) (h : gH) (L : List (Nat × Value)), Z E b fz F mL_law Q 525 none h 87447 504955 462 L [.int (gi 1)]) : G E F mL_law Q 0 σ h 0 0 0 [(0, .ref sb)] [] := by
  refine z_in C (fun fz => ?_)
  refine z_callS (As := []) (rest := []) 3 C dL_law_0 rfl lk_RL_182 gs_L_keys rfl ⟨⟨by decide, by decide⟩, by decide, by decide⟩ (Nat.le_of_ble_eq_true rfl) rfl (c_L_keys (E := gRe E (gB E)) hl) (fun _ _ z => z) (fun v1 n1 σ1 h1 hq1 => ?_)
  obtain ⟨rfl, rfl, rfl, -⟩ := hq1
  refine z_if_eq 12 6 C dL_law_3 rfl rfl (by decide) (fun c9 => absurd c9 (by decide)) (fun _ => ?_)
  refine z_callS (As := []) (rest := []) 9 C dL_law_6 rfl lk_RL_186 gs_L_texts rfl ⟨⟨by decide, by decide⟩, by decide, by decide⟩ (Nat.le_of_ble_eq_true rfl) rfl (c_L_texts (E := gRe E (gB E)) hl) (fun _ _ z => z) (fun v2 n2 σ2 h2 hq2 => ?_)
  obtain ⟨rfl, rfl, rfl, -⟩ := hq2
  refine z_if_ne 14 12 C dL_law_9 rfl rfl (by decide) (fun _ => ?_) (fun c9 => absurd c9 (by decide))
  refine z_fresh h2 (fun b fz2 _ _ _ _ => ?_)
  refine z_new 17 C dL_law_14 nw_RL_10 rfl (by decide) (by decide) rfl ?_
  refine z_dup 18 C dL_law_17 rfl rfl ?_
  refine z_callI (As := []) (rest := [.ref (b + 0)]) 21 C dL_law_18 rfl lk_RL_101 gi_X4_init rfl rfl rfl ⟨⟨by decide, by decide⟩, by decide, by decide⟩ (Nat.le_of_ble_eq_true rfl) rfl (c_X4_init (E := gRe E b) (σ := none) (b + 0) rfl (Nat.le_add_right _ _) up_s) (fun _ _ z => z) (fun v3 n3 σ3 h3 hq3 => ?_)
  obtain ⟨rfl, rfl, rfl, hJ3, -⟩ := hq3
  refine z_astore_n 22 [(1, .ref b), (0, _)] C dL_law_21 (by decide) rfl rfl ?_
  refine z_bipush 24 C dL_law_22 (by decide) rfl ?_
  refine z_newal (m := 64) 26 C dL_law_24 ⟨rfl, by decide⟩ (by decide) (by decide) rfl ?_
  refine z_astore_n 27 [(2, _), (1, _), (0, _)] C dL_law_26 (by decide) rfl rfl ?_
  refine z_loc [(0, _), (1, .ref b), (2, .ref (b + 524))] ⟨rfl, rfl, rfl, trivial⟩ ?_
  refine z_iconst 28 C dL_law_27 rfl ?_
  refine z_istore_n 29 [(3, _), (0, _), (1, _), (2, _)] C dL_law_28 (by decide) rfl rfl ?_
  refine z_iconst 30 C dL_law_29 rfl ?_
  refine z_istore 32 [(4, _), (3, _), (0, _), (1, _), (2, _)] C dL_law_30 (by decide) rfl rfl ?_
  refine z_loc [(0, _), (1, _), (2, _), (3, .int (gi ((0 : Nat) : Int))), (4, .int (gi ((0 : Nat) : Int)))] ⟨rfl, rfl, rfl, rfl, rfl, trivial⟩ ?_
  refine z_nos ?_
  refine z_cst (20525 + 2277 * 0) (103423 + 13662 * 0) rfl rfl ?_
  have hB : ∀ f9 : Int → Int64, zB E F mL_law b b 525 (rW E b f9) := fun f9 => ⟨C, rfl, hl, ⟨Nat.le_refl _, Nat.le_succ _⟩, fun h h1 hk hr => (hk (b + 524) (Or.inr (Nat.le_refl _))).trans hr⟩
  exact law_lp hX hsb hLs hB (fun St T A c fw h9 z1 z2 z3 z4 z5 z6 => law_fin hB z1 z2 z3 z4 z5 z6 (KE b fz2)) 25 0 (fun _ => gS0) gT0 0 0 (fun _ => 0) _ (by decide) (by decide) okT_0 ⟨rfl, rfl, by decide, by decide, fun i hi => absurd hi (Nat.not_lt_zero _)⟩ (Nat.le_refl _) (fun j hj => absurd hj (Nat.not_lt_zero _)) (hJ3.kept (fun q _ q2 => up_n (Nat.ne_of_lt q2))) up_s
