/-! SiblingJoinsModel: firstError, runAll -/
theorem runL_nil {S : gSt} : runL S [] = (0, S) := rfl
set_option maxRecDepth 100000 in
set_option maxHeartbeats 4000000 in
theorem c_X5_firstError {E : gEnv} {n : Nat} {σ : Option Nat} {h : gH} (m : Nat) (T : gTt) (c0 : Int) (hmb : gB E ≤ m ∧ m + 7 ≤ gB E + n) (hM : isM E h m T c0) (hok : okT T) (hI : gIv T.1)  : gM E mX5_firstError [.ref m] n σ h (gRM E h m n σ (oFirst T)) (gNo) := by
  obtain ⟨g, hs, f, fp, X0, -⟩ := hM
  have m0 := X0.1
  unfold isMo at m0
  have hokS := hok.1
  refine gM_of (by decide) (Nat.le_of_ble_eq_true rfl) (fun F C => ?_)
  refine g_aload_n 1 C dX5_firstError_0 rfl rfl ?_
  refine g_iconst 2 C dX5_firstError_1 rfl ?_
  refine g_putf 5 C dX5_firstError_2 fp_RX5_32 rfl (by omega) m0 rfl rfl (Nat.le_of_ble_eq_true rfl) rfl ?_
  refine g_ab (fun z => isMx E z m T (gup g 6 0) hs f fp ∧ gKp m (m + 7) h z) ⟨X0.obj up_s (gKp_up (by omega)) (gup_ne (by decide)) (gup_ne (by decide)), gKp_up (by omega)⟩ (fun h1 q1 => ?_)
  obtain ⟨X1, K1⟩ := q1
  obtain ⟨x1, z1, x3, ⟨fs, x4⟩, x5, x6, x7, ⟨ft, x8, x8e⟩, x9, ⟨fm, x10⟩, ⟨fo, x11⟩⟩ := id X1
  have m1 := x1
  unfold isMo at m1
  have g6 : gup g 6 0 6 = 0 := gup_at
  refine g_aload_n 6 C dX5_firstError_5 rfl rfl ?_
  have hch : ∀ j : Int, 0 ≤ j → j < (T.2.2.1 : Int) → 33 ≤ ft j ∧ ft j ≤ 126 := fun j j0 j1 => by
    rw [x8e j j0 j1]
    exact hok.2.2.2.2 j j0 j1
  refine g_V0r 9 0 0 C dX5_firstError_6 rfl lk_RX5_167 gi_X5_isText gv_X5_isText ⟨_, _, rfl⟩ (by omega) m1 ⟨⟨by decide, by decide⟩, by decide, by decide⟩ (Nat.le_of_ble_eq_true rfl) rfl rfl rfl (c_X5_isText m (gup g 6 0) hs ft fo T.2.2.1 hmb x1 x8 x11 x9 hok.2.2.2.1 hch) g_no (fun h2 e6 => ?_)
  obtain ⟨g9, fo9, t1, t2, t3, t4, t5, t6⟩ := e6
  have eW : tW ft T.2.2.1 = tWh T := by
    unfold tW
    rw [scP_ext _ x8e]
    rfl
  have eE : scE ft T.2.2.1 = scE T.2.2.2 T.2.2.1 := scE_ext _ x8e
  have eL : rsP ft gP0 0 T.2.2.1 = rsP T.2.2.2 gP0 0 T.2.2.1 := rsP_ext _ _ _ (fun j j0 j1 => x8e j (by omega) (by omega))
  rw [eW] at t5 t6 ⊢
  rw [eE] at t5 t6
  rw [eL] at t5
  have X2 : isMx E h2 m T g9 hs f fp := ⟨t1, (t3 _ (by omega) (by omega)).trans z1, x3, ⟨fs, (t3 _ (by omega) (by omega)).trans x4⟩, (t3 _ (by omega) (by omega)).trans x5, (t4 3 (by decide) (by decide) (by decide)).trans x6, x7, ⟨ft, (t3 _ (by omega) (by omega)).trans x8, x8e⟩, (t4 5 (by decide) (by decide) (by decide)).trans x9, ⟨fm, (t3 _ (by omega) (by omega)).trans x10⟩, ⟨fo9, t2⟩⟩
  have g96 : g9 6 = 0 := (t4 6 (by decide) (by decide) (by decide)).trans g6
  have g95 : g9 5 = (T.2.2.1 : Int) := (t4 5 (by decide) (by decide) (by decide)).trans x9
  have K2 : gKp m (m + 7) h h2 := gKp_tr K1 (fun q hq => t3 q (by omega) (by omega))
  have m2 := t1
  unfold isMo at m2
  refine g_istore_n 10 [(1, _), (0, _)] C dX5_firstError_9 (by decide) rfl rfl ?_
  refine g_iload_n 11 C dX5_firstError_10 rfl rfl ?_
  refine g_if_ne 28 14 C dX5_firstError_11 rfl rfl (gbi_r _) (fun c11 => ?_) (fun c11 => ?_)
  · skip
    have eb := gbi_1 c11
    refine g_aload_n 29 C dX5_firstError_28 rfl rfl ?_
    refine g_getf 32 C dX5_firstError_29 fl_RX5_135 rfl (by omega) m2 rfl rfl ?_
    exact g_iret C dX5_firstError_32 rfl ⟨by decide, by decide⟩ (mret rfl (by rw [g95, (t5 eb).1]) ⟨_, _, _, _, X2, g96⟩ K2)
  · skip
    have eb := gbi_0 c11
    have t6 := t6 eb
    refine g_aload_n 15 C dX5_firstError_14 rfl rfl ?_
    refine g_getf 18 C dX5_firstError_15 fl_RX5_141 rfl (by omega) m2 rfl rfl ?_
    refine g_if_eq 28 21 C dX5_firstError_18 rfl rfl (by rcases t6 with z | z <;> omega) (fun c18 => ?_) (fun c18 => ?_)
    · skip
      refine g_aload_n 29 C dX5_firstError_28 rfl rfl ?_
      refine g_getf 32 C dX5_firstError_29 fl_RX5_135 rfl (by omega) m2 rfl rfl ?_
      exact g_iret C dX5_firstError_32 rfl ⟨by decide, by decide⟩ (mret rfl (by rw [show scE T.2.2.2 T.2.2.1 = T.2.2.1 by rcases t6 with z | z; exact z.2; exact absurd z.1 (by omega), g95]) ⟨_, _, _, _, X2, g96⟩ K2)
    · skip
      refine g_aload_n 22 C dX5_firstError_21 rfl rfl ?_
      refine g_getf 25 C dX5_firstError_22 fl_RX5_138 rfl (by omega) m2 rfl rfl ?_
      refine g_goto 32 C dX5_firstError_25 rfl ?_
      exact g_iret C dX5_firstError_32 rfl ⟨by decide, by decide⟩ (mret rfl (by rw [show g9 11 = (scE T.2.2.2 T.2.2.1 : Int) by rcases t6 with z | z; exact absurd z.1 c18; exact z.2]) ⟨_, _, _, _, X2, g96⟩ K2)
set_option maxRecDepth 100000 in
set_option maxHeartbeats 4000000 in
theorem c_X5_runAll {E : gEnv} {n : Nat} {σ : Option Nat} {h : gH} (m : Nat) (T : gTt) (c0 : Int) (hmb : gB E ≤ m ∧ m + 7 ≤ gB E + n) (hM : isM E h m T c0) (hok : okT T) (hI : gIv T.1)  : gM E mX5_runAll [.ref m] n σ h (gRM E h m n σ (oRunAll T)) (gNo) := by
  obtain ⟨g, hs, f, fp, X0, -⟩ := hM
  have m0 := X0.1
  unfold isMo at m0
  have hokS := hok.1
  refine gM_of (by decide) (Nat.le_of_ble_eq_true rfl) (fun F C => ?_)
  refine g_aload_n 1 C dX5_runAll_0 rfl rfl ?_
  refine g_iconst 2 C dX5_runAll_1 rfl ?_
  refine g_putf 5 C dX5_runAll_2 fp_RX5_32 rfl (by omega) m0 rfl rfl (Nat.le_of_ble_eq_true rfl) rfl ?_
  refine g_ab (fun z => isMx E z m T (gup g 6 0) hs f fp ∧ gKp m (m + 7) h z) ⟨X0.obj up_s (gKp_up (by omega)) (gup_ne (by decide)) (gup_ne (by decide)), gKp_up (by omega)⟩ (fun h1 q1 => ?_)
  obtain ⟨X1, K1⟩ := q1
  obtain ⟨x1, z1, x3, ⟨fs, x4⟩, x5, x6, x7, ⟨ft, x8, x8e⟩, x9, ⟨fm, x10⟩, ⟨fo, x11⟩⟩ := id X1
  have m1 := x1
  unfold isMo at m1
  have g6 : gup g 6 0 6 = 0 := gup_at
  refine g_aload_n 6 C dX5_runAll_5 rfl rfl ?_
  have hch : ∀ j : Int, 0 ≤ j → j < (T.2.2.1 : Int) → 33 ≤ ft j ∧ ft j ≤ 126 := fun j j0 j1 => by
    rw [x8e j j0 j1]
    exact hok.2.2.2.2 j j0 j1
  refine g_V0r 9 0 0 C dX5_runAll_6 rfl lk_RX5_167 gi_X5_isText gv_X5_isText ⟨_, _, rfl⟩ (by omega) m1 ⟨⟨by decide, by decide⟩, by decide, by decide⟩ (Nat.le_of_ble_eq_true rfl) rfl rfl rfl (c_X5_isText m (gup g 6 0) hs ft fo T.2.2.1 hmb x1 x8 x11 x9 hok.2.2.2.1 hch) g_no (fun h2 e6 => ?_)
  obtain ⟨g9, fo9, t1, t2, t3, t4, t5, t6⟩ := e6
  have eW : tW ft T.2.2.1 = tWh T := by
    unfold tW
    rw [scP_ext _ x8e]
    rfl
  have eE : scE ft T.2.2.1 = scE T.2.2.2 T.2.2.1 := scE_ext _ x8e
  have eL : rsP ft gP0 0 T.2.2.1 = rsP T.2.2.2 gP0 0 T.2.2.1 := rsP_ext _ _ _ (fun j j0 j1 => x8e j (by omega) (by omega))
  rw [eW] at t5 t6 ⊢
  rw [eE] at t5 t6
  rw [eL] at t5
  have X2 : isMx E h2 m T g9 hs f fp := ⟨t1, (t3 _ (by omega) (by omega)).trans z1, x3, ⟨fs, (t3 _ (by omega) (by omega)).trans x4⟩, (t3 _ (by omega) (by omega)).trans x5, (t4 3 (by decide) (by decide) (by decide)).trans x6, x7, ⟨ft, (t3 _ (by omega) (by omega)).trans x8, x8e⟩, (t4 5 (by decide) (by decide) (by decide)).trans x9, ⟨fm, (t3 _ (by omega) (by omega)).trans x10⟩, ⟨fo9, t2⟩⟩
  have g96 : g9 6 = 0 := (t4 6 (by decide) (by decide) (by decide)).trans g6
  have g95 : g9 5 = (T.2.2.1 : Int) := (t4 5 (by decide) (by decide) (by decide)).trans x9
  have K2 : gKp m (m + 7) h h2 := gKp_tr K1 (fun q hq => t3 q (by omega) (by omega))
  have m2 := t1
  unfold isMo at m2
  refine g_if_ne 18 12 C dX5_runAll_9 rfl rfl (gbi_r _) (fun c9 => ?_) (fun c9 => ?_)
  · skip
    have eb := gbi_1 c9
    obtain ⟨-, p14, p7, pT⟩ := t5 eb
    refine g_aload_n 19 C dX5_runAll_18 rfl rfl ?_
    refine g_aload_n 20 C dX5_runAll_19 rfl rfl ?_
    refine g_getf 23 C dX5_runAll_20 fl_RX5_7 rfl (by omega) m2 rfl rfl ?_
    refine g_V1v 26 0 0 C dX5_runAll_23 rfl lk_RX5_95 gi_X5_saves gv_X5_saves ⟨_, _, rfl⟩ (by omega) m2 ⟨⟨by decide, by decide⟩, by decide, by decide⟩ (Nat.le_of_ble_eq_true rfl) rfl rfl rfl (c_X5_saves m g9 hs fp T.2.1 (m + 1) f T.1 hmb t1 X2.2.2.2.2.1 X2.2.2.2.2.2.1 hok.2.1 x7 hok.2.2.1 (Or.inl rfl) X2.2.1 x3 hokS) g_no (fun h3 e23 => ?_)
    obtain ⟨y1, ⟨fp2, y2, y3⟩, y4⟩ := e23
    have X3 : isMx E h3 m (tSave T) (gup g9 3 (((tDrop T.2.1).1 : Int) + 1)) hs f fp2 := X2.sav y1 y2 y3 y4 gup_at (gup_ne (by decide))
    have K3 : gKp m (m + 7) h h3 := gKp_tr K2 (fun q hq => y4 q (by omega) (by omega))
    have g36 : gup g9 3 (((tDrop T.2.1).1 : Int) + 1) 6 = 0 := (gup_ne (by decide)).trans g96
    have g314 : gup g9 3 (((tDrop T.2.1).1 : Int) + 1) 14 = ((rsP T.2.2.2 gP0 0 T.2.2.1).length : Int) := (gup_ne (by decide)).trans p14
    have tl3 : h3 (m + 6) = gI E 60 fo9 := (y4 _ (by omega) (by omega)).trans t2
    generalize gup g9 3 (((tDrop T.2.1).1 : Int) + 1) = g3 at y1 X3 g36 g314
    have m3 := y1
    unfold isMo at m3
    refine g_aload_n 27 C dX5_runAll_26 rfl rfl ?_
    refine g_iconst 28 C dX5_runAll_27 rfl ?_
    refine g_putf 31 C dX5_runAll_28 fp_RX5_135 rfl (by omega) m3 rfl rfl (Nat.le_of_ble_eq_true rfl) rfl ?_
    refine g_ab (fun z => isMo z m (gup g3 5 0) hs ∧ gKp m (m + 1) h3 z) ⟨up_s, gKp_up (by omega)⟩ (fun h4 q4 => ?_)
    obtain ⟨n4, k4⟩ := q4
    have X4 : isMx E h4 m (T.1, (tSave T).2.1, ((0 : Nat), T.2.2.2)) (gup g3 5 0) hs f fp2 := by
      obtain ⟨a1, a2, a3, ⟨as, a4⟩, a5, a6, a7, ⟨at_, a8, a8e⟩, a9, ⟨am, a10⟩, ⟨ao, a11⟩⟩ := X3
      exact ⟨n4, (k4 _ (by omega)).trans a2, a3, ⟨as, (k4 _ (by omega)).trans a4⟩, (k4 _ (by omega)).trans a5, (gup_ne (by decide)).trans a6, a7, ⟨at_, (k4 _ (by omega)).trans a8, fun j j0 j1 => absurd j1 (show ¬ j < ((0 : Nat) : Int) by omega)⟩, gup_at, ⟨am, (k4 _ (by omega)).trans a10⟩, ⟨ao, (k4 _ (by omega)).trans a11⟩⟩
    have K4 : gKp m (m + 7) h h4 := gKp_tr K3 (gKp_wd k4 (by omega) (by omega))
    have g46 : gup g3 5 0 6 = 0 := (gup_ne (by decide)).trans g36
    have g414 : gup g3 5 0 14 = ((rsP T.2.2.2 gP0 0 T.2.2.1).length : Int) := (gup_ne (by decide)).trans g314
    have tl4 : h4 (m + 6) = gI E 60 fo9 := (k4 _ (by omega)).trans tl3
    generalize gup g3 5 0 = g4 at n4 X4 g46 g414
    generalize hLL : (rsP T.2.2.2 gP0 0 T.2.2.1) = LL at p7 pT g414
    refine g_iconst 32 C dX5_runAll_31 rfl ?_
    refine g_istore_n 33 [(1, _), (0, _)] C dX5_runAll_32 (by decide) rfl rfl ?_
    have lp33 : ∀ (k9 : Nat) (q : Nat) (h5 : gH) (f5 : Int → Int) (S1 : gSt), (q ≤ LL.length) → (isMx E h5 m (S1, (tSave T).2.1, ((0 : Nat), T.2.2.2)) g4 hs f5 fp2) → (h5 (m + 6) = gI E 60 fo9) → (okS S1) → (gIv S1) → (runL T.1 LL = (q + (runL S1 (LL.drop q)).1, (runL S1 (LL.drop q)).2)) → (gKp m (m + 7) h h5) → LL.length - q < k9 → G E F mX5_runAll (gQ E F mX5_runAll n (gRM E h m n σ (oRunAll T)) (gNo)) n σ h5 0 0 33 [(1, .int (gi (q : Int))), (0, .ref m)] [] := by
      intro k9
      induction k9 with
      | zero => intro q h5 f5 S1 hq X5 htl5 hoS hIS hd hk h0; exact absurd h0 (Nat.not_lt_zero _)
      | succ k9 ih33 =>
        intro q h5 f5 S1 hq X5 htl5 hoS hIS hd hk hk33
        have n5 := X5.1
        have m5 := n5
        unfold isMo at m5
        refine g_iload_n 34 C dX5_runAll_33 rfl rfl ?_
        refine g_aload_n 35 C dX5_runAll_34 rfl rfl ?_
        refine g_getf 38 C dX5_runAll_35 fl_RX5_152 rfl (by omega) m5 rfl rfl ?_
        rw [g414]
        have hN60 := hok.2.2.2.1
        refine g_icmp_ge 55 41 C dX5_runAll_38 rfl rfl (by omega) (by omega) (fun c38 => ?_) (fun c38 => ?_)
        · skip
          have hq9 : LL.drop q = [] := List.drop_eq_nil_of_le (by omega)
          rw [hq9, runL_nil] at hd
          refine g_iload_n 56 C dX5_runAll_55 rfl rfl ?_
          exact g_iret C dX5_runAll_56 rfl ⟨by decide, by decide⟩ (mret (T' := (S1, (tSave T).2.1, ((0 : Nat), T.2.2.2))) (c := 0) (v := (q : Int)) (by unfold oRunAll; rw [if_pos eb]; unfold tRun; rw [hLL, hd]; rfl) rfl ⟨_, _, _, _, X5, g46⟩ (hk))
        · skip
          have hq1 : q < LL.length := by omega
          obtain ⟨P, hP⟩ : ∃ P, LL[q]? = some P := ⟨_, List.getElem?_eq_getElem hq1⟩
          obtain ⟨pT1, pT2⟩ := pT q P hP
          have hdr : LL.drop q = P :: LL.drop (q + 1) := by
            rw [List.drop_eq_getElem_cons hq1]
            congr 1
            exact Option.some.inj ((List.getElem?_eq_getElem hq1).symm.trans hP)
          rw [hdr] at hd
          refine g_aload_n 42 C dX5_runAll_41 rfl rfl ?_
          refine g_iload_n 43 C dX5_runAll_42 rfl rfl ?_
          refine g_V1r 46 0 0 C dX5_runAll_43 rfl lk_RX5_170 gi_X5_does gv_X5_does ⟨_, _, rfl⟩ (by omega) m5 ⟨⟨by decide, by decide⟩, by decide, by decide⟩ (Nat.le_of_ble_eq_true rfl) rfl rfl rfl (c_X5_does m (S1, (tSave T).2.1, ((0 : Nat), T.2.2.2)) g4 hs f5 fp2 fo9 (q : Int) P hmb X5 hoS hIS htl5 (by have z := hok.2.2.2.1; omega) pT1 pT2) g_no (fun h6 e43 => ?_)
          obtain ⟨⟨f6, X6, tl6⟩, k6⟩ := e43
          dsimp only at X6
          refine g_if_eq 55 49 C dX5_runAll_46 rfl rfl (gbi_r _) (fun c46 => ?_) (fun c46 => ?_)
          · skip
            have hno : rpS S1 P = none := by
              cases e : rpS S1 P with
              | none => rfl
              | some Q8 => have z := gbi_0 c46; rw [show (rpS (S1, (tSave T).2.1, ((0 : Nat), T.2.2.2)).1 P) = some Q8 from e] at z; cases z
            rw [runL_no hno] at hd
            rw [hno] at X6
            have X6 : isMx E h6 m (S1, (tSave T).2.1, ((0 : Nat), T.2.2.2)) g4 hs f6 fp2 := X6
            refine g_iload_n 56 C dX5_runAll_55 rfl rfl ?_
            exact g_iret C dX5_runAll_56 rfl ⟨by decide, by decide⟩ (mret (T' := (S1, (tSave T).2.1, ((0 : Nat), T.2.2.2))) (c := 0) (v := (q : Int)) (by unfold oRunAll; rw [if_pos eb]; unfold tRun; rw [hLL, hd]; rfl) rfl ⟨_, _, _, _, X6, g46⟩ (gKp_tr hk k6))
          · skip
            obtain ⟨S2, hS2⟩ := Option.isSome_iff_exists.mp (gbi_1 c46)
            have hS2 : rpS S1 P = some S2 := hS2
            rw [runL_so hS2] at hd
            rw [hS2] at X6
            have X6 : isMx E h6 m (S2, (tSave T).2.1, ((0 : Nat), T.2.2.2)) g4 hs f6 fp2 := X6
            refine g_iinc 52 [(1, _), (0, _)] C dX5_runAll_49 rfl (by decide) rfl rfl ?_
            refine g_goto 33 C dX5_runAll_52 rfl ?_
            refine g_loc [(1, _), (0, _)] ⟨rfl, rfl, trivial⟩ ?_
            exact ih33 (q + 1) h6 f6 S2 (by omega) X6 tl6 (okS_rp hoS pT2 hS2) (gIv_rp hoS hIS pT2 hS2) (by rw [hd]; dsimp only; congr 1; omega) (gKp_tr hk k6) (by omega)
    refine g_loc [(1, _), (0, _)] ⟨rfl, rfl, trivial⟩ ?_
    exact lp33 _ 0 h4 f T.1 (Nat.zero_le _) X4 tl4 hokS hI (by rw [List.drop_zero, Nat.zero_add]) K4 (Nat.lt_succ_self _)
  · skip
    have eb := gbi_0 c9
    refine g_aload_n 13 C dX5_runAll_12 rfl rfl ?_
    refine g_iconst 14 C dX5_runAll_13 rfl ?_
    refine g_V1r 17 0 0 C dX5_runAll_14 rfl lk_RX5_39 gi_X5_fails gv_X5_fails ⟨_, _, rfl⟩ (by omega) m2 ⟨⟨by decide, by decide⟩, by decide, by decide⟩ (Nat.le_of_ble_eq_true rfl) rfl rfl rfl (c_X5_fails m g9 hs 1 (by omega) t1) g_no (fun h3 e14 => ?_)
    obtain ⟨n1, n2⟩ := e14
    exact g_iret C dX5_runAll_17 rfl ⟨by decide, by decide⟩ (mret (by unfold oRunAll; exact if_neg (by rw [eb]; decide)) rfl ⟨_, _, _, _, X2.obj n1 n2 (gup_ne (by decide)) (gup_ne (by decide)), gup_at⟩ (gKp_tr K2 (gKp_wd n2 (by omega) (by omega))))
