/-! SiblingJoins$Copy: the compound ones -/
theorem tkS_t {V : Int → Int} {acc : List (Int × Int)} {x : Int × Int} (h : isN V acc x.1 = true) : tkS V acc x = ins4 x acc := if_pos h
theorem tkS_f {V : Int → Int} {acc : List (Int × Int)} {x : Int × Int} (h : isN V acc x.1 = false) : tkS V acc x = acc := if_neg (by rw [h]; decide)
theorem mxs_s {mk vl : Int → Int} {i : Nat} {a : Int} : mxs (lst mk vl (i + 1)) a = if mxs (lst mk vl i) a < vl (i : Int) then vl (i : Int) else mxs (lst mk vl i) a := by unfold mxs; rw [lst_succ, List.foldl_append]; rfl
theorem mns_s {mk vl : Int → Int} {i : Nat} {a : Int} : mns (lst mk vl (i + 1)) a = if vl (i : Int) < mns (lst mk vl i) a then vl (i : Int) else mns (lst mk vl i) a := by unfold mns; rw [lst_succ, List.foldl_append]; rfl
theorem sms_s {mk vl : Int → Int} {i : Nat} {a : Int} : sms (lst mk vl (i + 1)) a = sms (lst mk vl i) a + vl (i : Int) := by unfold sms; rw [lst_succ, List.foldl_append]; rfl
set_option maxRecDepth 100000 in
set_option maxHeartbeats 4000000 in
theorem c_X0_dropCoveredBy {E : gEnv} {n : Nat} {σ : Option Nat} {h : gH} (c : Nat) (V : Int → Int) (l : List (Int × Int)) (a : Nat) (f : Int → Int) (hcb : gB E ≤ c ∧ c + 4 ≤ gB E + n) (hC : isC E h c V l) (hok : okL l) (hab : gB E ≤ a ∧ a < gB E + n) (hac : a < c ∨ c + 4 ≤ a) (ha : h a = gI E 5 f) (hf : okV f)  : gM E mX0_dropCoveredBy [.ref c, .ref a] n σ h (gD none n σ (fun h9 => isC E h9 c V (l.filter (fun p : Int × Int => !(cov f p.1))) ∧ gKp c (c + 4) h h9)) (gNo) := by
  have hC9 := hC
  obtain ⟨mk, vl, hl, q⟩ := hC
  have hlen := hok.1
  refine gM_of (by decide) (Nat.le_of_ble_eq_true rfl) (fun F C => ?_)
  refine g_aload_n 1 C dX0_dropCoveredBy_0 rfl rfl ?_
  refine g_getf 4 C dX0_dropCoveredBy_1 fl_RX0_27 rfl (by omega) q.1 rfl rfl ?_
  refine g_iconst 5 C dX0_dropCoveredBy_4 rfl ?_
  refine g_isub 6 C dX0_dropCoveredBy_5 rfl ?_
  refine g_istore_n 7 [(2, _), (0, _), (1, _)] C dX0_dropCoveredBy_6 (by decide) rfl rfl ?_
  have lp7 : ∀ (k9 : Nat) (i : Int) (h1 : gH) (l1 : List (Int × Int)), (-1 ≤ i ∧ i < l.length) → l1 = l.take (i + 1).toNat ++ (l.drop (i + 1).toNat).filter (fun p : Int × Int => !(cov f p.1)) → isC E h1 c V l1 → gKp c (c + 4) h h1 → (i + 1).toNat < k9 → G E F mX0_dropCoveredBy (gQ E F mX0_dropCoveredBy n (gD none n σ (fun h9 => isC E h9 c V (l.filter (fun p : Int × Int => !(cov f p.1))) ∧ gKp c (c + 4) h h9)) (gNo)) n σ h1 0 0 7 [(2, .int (gi i)), (0, .ref c), (1, .ref a)] [] := by
    intro k9
    induction k9 with
    | zero => intro i h1 l1 hi e1 hC1 hk h0; exact absurd h0 (Nat.not_lt_zero _)
    | succ k9 ih7 =>
      intro i h1 l1 hi e1 hC1 hk hk7
      have hlen1 : l1.length ≤ 4 := by rw [e1]; exact (flt_ok hok).1
      refine g_iload_n 8 C dX0_dropCoveredBy_7 rfl rfl ?_
      refine g_if_lt 35 11 C dX0_dropCoveredBy_8 rfl rfl (by omega) (fun c8 => ?_) (fun c8 => ?_)
      · skip
        exact g_vret C dX0_dropCoveredBy_35 rfl ⟨by decide, by decide⟩ (⟨rfl, rfl, rfl, by rw [show (i + 1).toNat = 0 by omega] at e1; rw [e1, List.take_zero, List.drop_zero, List.nil_append] at hC1; exact hC1, hk⟩)
      · skip
        obtain ⟨p, rfl⟩ : ∃ p : Nat, i = (p : Int) := ⟨i.toNat, by omega⟩
        rw [show ((p : Int) + 1).toNat = p + 1 by omega] at e1
        have hok1 : okL l1 := by rw [e1]; exact flt_ok hok
        have hp1 : p < l1.length := by rw [e1]; exact flt_len (by omega)
        have hC7 := hC1
        obtain ⟨mk1, vl1, hl1, q1⟩ := hC1
        have hx : l[p]? = some (mk1 (p : Int), vl1 (p : Int)) := by
          rw [← flt_at (q := (fun p : Int × Int => !(cov f p.1))) (show p < l.length by omega), ← e1, hl1]
          exact lst_get hp1
        have hv := okL_at hl1 hok1 hp1
        refine g_aload_n 12 C dX0_dropCoveredBy_11 rfl rfl ?_
        refine g_aload_n 13 C dX0_dropCoveredBy_12 rfl rfl ?_
        refine g_getf 16 C dX0_dropCoveredBy_13 fl_RX0_15 rfl (by omega) q1.1 rfl rfl ?_
        refine g_iload_n 17 C dX0_dropCoveredBy_16 rfl rfl ?_
        refine g_iald 18 C dX0_dropCoveredBy_17 (by omega) q1.2.2.1 (by omega) (by decide) rfl ?_
        refine g_SN2r 21 0 0 C dX0_dropCoveredBy_18 rfl ln_RX0_35 gs_X4_covers ⟨⟨by decide, by decide⟩, by decide, by decide⟩ (Nat.le_of_ble_eq_true rfl) rfl rfl rfl (c_X4_covers a f (mk1 (p : Int)) hab ((hk a (by omega)).trans ha) (by omega) hf) g_no (fun h9 e18 => ?_)
        subst e18
        refine g_if_eq 29 24 C dX0_dropCoveredBy_21 rfl rfl (gbi_r _) (fun c21 => ?_) (fun c21 => ?_)
        · skip
          have e9 : l1 = l.take (((p : Int) + -1) + 1).toNat ++ (l.drop (((p : Int) + -1) + 1).toNat).filter (fun p : Int × Int => !(cov f p.1)) := by rw [show (((p : Int) + -1) + 1).toNat = p by omega, e1]; exact (flt_k hx (by rw [gbi_0 c21]; rfl)).symm
          have hC8 := hC7
          have hk8 := hk
          refine g_iinc 32 [(2, _), (0, _), (1, _)] C dX0_dropCoveredBy_29 rfl (by decide) rfl rfl ?_
          refine g_goto 7 C dX0_dropCoveredBy_32 rfl ?_
          refine g_loc [(2, .int (gi ((p : Int) + -1))), (0, _), (1, _)] ⟨rfl, rfl, rfl, trivial⟩ ?_
          exact ih7 ((p : Int) + -1) _ _ (by omega) e9 hC8 hk8 (by omega)
        · skip
          have e9 : l1.eraseIdx p = l.take (((p : Int) + -1) + 1).toNat ++ (l.drop (((p : Int) + -1) + 1).toNat).filter (fun p : Int × Int => !(cov f p.1)) := by rw [show (((p : Int) + -1) + 1).toNat = p by omega, e1]; exact (flt_r hx (by rw [gbi_1 c21]; rfl)).symm
          refine g_aload_n 25 C dX0_dropCoveredBy_24 rfl rfl ?_
          refine g_iload_n 26 C dX0_dropCoveredBy_25 rfl rfl ?_
          refine g_V1v 29 0 0 C dX0_dropCoveredBy_26 rfl lk_RX0_49 gi_X0_remove gv_X0_remove ⟨_, _, rfl⟩ (by omega) q1.1 ⟨⟨by decide, by decide⟩, by decide, by decide⟩ (Nat.le_of_ble_eq_true rfl) rfl rfl rfl (c_X0_remove c V l1 p hcb hC7 hok1 hp1) g_no (fun h8 e26 => ?_)
          obtain ⟨hC8, hk8⟩ := e26
          have hk8 := gKp_tr hk hk8
          refine g_iinc 32 [(2, _), (0, _), (1, _)] C dX0_dropCoveredBy_29 rfl (by decide) rfl rfl ?_
          refine g_goto 7 C dX0_dropCoveredBy_32 rfl ?_
          refine g_loc [(2, .int (gi ((p : Int) + -1))), (0, _), (1, _)] ⟨rfl, rfl, rfl, trivial⟩ ?_
          exact ih7 ((p : Int) + -1) _ _ (by omega) e9 hC8 hk8 (by omega)
  refine g_loc [(2, _), (0, _), (1, _)] ⟨rfl, rfl, rfl, trivial⟩ ?_
  exact lp7 _ ((l.length : Int) + -1) h l (by omega) (by rw [show ((l.length : Int) + -1 + 1).toNat = l.length by omega, List.take_length, List.drop_length]; simp) hC9 gKp_rf (Nat.lt_succ_self _)
set_option maxRecDepth 100000 in
set_option maxHeartbeats 4000000 in
theorem c_X0_takeFrom {E : gEnv} {n : Nat} {σ : Option Nat} {h : gH} (c : Nat) (V : Int → Int) (l : List (Int × Int)) (d : Nat) (V2 : Int → Int) (l2 : List (Int × Int)) (hcb : gB E ≤ c ∧ c + 4 ≤ gB E + n) (hC : isC E h c V l) (hok : okL l) (hdb : gB E ≤ d ∧ d + 4 ≤ gB E + n) (hD : isC E h d V2 l2) (hok2 : okL l2) (hcd : c + 4 ≤ d ∨ d + 4 ≤ c) (hV : okV V) (hV2 : okV V2) : gM E mX0_takeFrom [.ref c, .ref d] n σ h (gD none n σ (fun h9 => isC E h9 c (vmx V V2) (tkL V V2 l l2) ∧ gKp c (c + 4) h h9)) (gNo) := by
  have hC9 := hC
  obtain ⟨mk, vl, hl, q⟩ := hC
  have hlen := hok.1
  have hlen2 := hok2.1
  refine gM_of (by decide) (Nat.le_of_ble_eq_true rfl) (fun F C => ?_)
  refine g_aload_n 1 C dX0_takeFrom_0 rfl rfl ?_
  refine g_getf 4 C dX0_takeFrom_1 fl_RX0_27 rfl (by omega) q.1 rfl rfl ?_
  refine g_iconst 5 C dX0_takeFrom_4 rfl ?_
  refine g_isub 6 C dX0_takeFrom_5 rfl ?_
  refine g_istore_n 7 [(2, _), (0, _), (1, _)] C dX0_takeFrom_6 (by decide) rfl rfl ?_
  have lp7 : ∀ (k9 : Nat) (i : Int) (h1 : gH) (l1 : List (Int × Int)), (-1 ≤ i ∧ i < l.length) → l1 = l.take (i + 1).toNat ++ (l.drop (i + 1).toNat).filter (fun p : Int × Int => !(drp V2 l2 p.1)) → isC E h1 c V l1 → gKp c (c + 4) h h1 → (i + 1).toNat < k9 → G E F mX0_takeFrom (gQ E F mX0_takeFrom n (gD none n σ (fun h9 => isC E h9 c (vmx V V2) (tkL V V2 l l2) ∧ gKp c (c + 4) h h9)) (gNo)) n σ h1 0 0 7 [(2, .int (gi i)), (0, .ref c), (1, .ref d)] [] := by
    intro k9
    induction k9 with
    | zero => intro i h1 l1 hi e1 hC1 hk h0; exact absurd h0 (Nat.not_lt_zero _)
    | succ k9 ih7 =>
      intro i h1 l1 hi e1 hC1 hk hk7
      have hlen1 : l1.length ≤ 4 := by rw [e1]; exact (flt_ok hok).1
      refine g_iload_n 8 C dX0_takeFrom_7 rfl rfl ?_
      refine g_if_lt 35 11 C dX0_takeFrom_8 rfl rfl (by omega) (fun c8 => ?_) (fun c8 => ?_)
      · skip
        refine g_iconst 36 C dX0_takeFrom_35 rfl ?_
        refine g_istore_n 37 [(2, _), (0, _), (1, _)] C dX0_takeFrom_36 (by decide) rfl rfl ?_
        have lp37 : ∀ (k9 : Nat) (i2 : Nat) (h3 : gH), i2 ≤ l2.length → isC E h3 c V ((l2.take i2).foldl (tkS V) (tkA V2 l l2)) → gKp c (c + 4) h h3 → l2.length - i2 < k9 → G E F mX0_takeFrom (gQ E F mX0_takeFrom n (gD none n σ (fun h9 => isC E h9 c (vmx V V2) (tkL V V2 l l2) ∧ gKp c (c + 4) h h9)) (gNo)) n σ h3 0 0 37 [(2, .int (gi (i2 : Int))), (0, .ref c), (1, .ref d)] [] := by
          intro k9
          induction k9 with
          | zero => intro i2 h3 hi2 hC3 hk3 h0; exact absurd h0 (Nat.not_lt_zero _)
          | succ k9 ih37 =>
            intro i2 h3 hi2 hC3 hk3 hk37
            have hD3 : isC E h3 d V2 l2 := hD.kept (fun q9 z1 z2 => hk3 q9 (by omega))
            have hD4 := hD3
            obtain ⟨mk2, vl2, hl2, q2⟩ := hD3
            have hC4 := hC3
            obtain ⟨mk3, vl3, hl3, q3⟩ := hC3
            have hok3 : okL ((l2.take i2).foldl (tkS V) (tkA V2 l l2)) := okL_fold _ _ (okL_filter hok) (fun x hx => hok2.2 x (List.mem_of_mem_take hx))
            refine g_iload_n 38 C dX0_takeFrom_37 rfl rfl ?_
            refine g_aload_n 39 C dX0_takeFrom_38 rfl rfl ?_
            refine g_getf 42 C dX0_takeFrom_39 fl_RX0_27 rfl (by omega) q2.1 rfl rfl ?_
            refine g_icmp_ge 80 45 C dX0_takeFrom_42 rfl rfl (by omega) (by omega) (fun c42 => ?_) (fun c42 => ?_)
            · skip
              refine g_aload_n 81 C dX0_takeFrom_80 rfl rfl ?_
              refine g_getf 84 C dX0_takeFrom_81 fl_RX0_9 rfl (by omega) q3.1 rfl rfl ?_
              refine g_aload_n 85 C dX0_takeFrom_84 rfl rfl ?_
              refine g_getf 88 C dX0_takeFrom_85 fl_RX0_9 rfl (by omega) q2.1 rfl rfl ?_
              refine g_SN2v 91 0 0 C dX0_takeFrom_88 rfl ln_RX0_57 gs_X4_mergeInto ⟨⟨by decide, by decide⟩, by decide, by decide⟩ (Nat.le_of_ble_eq_true rfl) rfl rfl rfl (c_X4_mergeInto (c + 1) (d + 1) V V2 (by omega) (by omega) q3.2.1 q2.2.1 (by omega) hV hV2) g_no (fun h6 e88 => ?_)
              obtain ⟨hm6, hk6⟩ := e88
              exact g_vret C dX0_takeFrom_91 rfl ⟨by decide, by decide⟩ (⟨rfl, rfl, rfl, by rw [show l2.take i2 = l2 from List.take_of_length_le (by omega)] at hl3 q3; exact ⟨mk3, vl3, hl3, (hk6 c (by omega)).trans q3.1, hm6, (hk6 _ (by omega)).trans q3.2.2.1, (hk6 _ (by omega)).trans q3.2.2.2⟩, gKp_tr hk3 (gKp_wd hk6 (by omega) (by omega))⟩)
            · skip
              have hx2 : l2[i2]? = some (mk2 (i2 : Int), vl2 (i2 : Int)) := by rw [hl2]; exact lst_get (by omega)
              have hv2 := okL_at hl2 hok2 (j := i2) (by omega)
              have ef := take_fold (V := V) (acc := tkA V2 l l2) hx2
              refine g_aload_n 46 C dX0_takeFrom_45 rfl rfl ?_
              refine g_aload_n 47 C dX0_takeFrom_46 rfl rfl ?_
              refine g_getf 50 C dX0_takeFrom_47 fl_RX0_15 rfl (by omega) q2.1 rfl rfl ?_
              refine g_iload_n 51 C dX0_takeFrom_50 rfl rfl ?_
              refine g_iald 52 C dX0_takeFrom_51 (by omega) q2.2.2.1 (by omega) (by decide) rfl ?_
              refine g_V1r 55 0 0 C dX0_takeFrom_52 rfl lk_RX0_46 gi_X0_isNew gv_X0_isNew ⟨_, _, rfl⟩ (by omega) q3.1 ⟨⟨by decide, by decide⟩, by decide, by decide⟩ (Nat.le_of_ble_eq_true rfl) rfl rfl rfl (c_X0_isNew c V _ (mk2 (i2 : Int)) hcb hC4 hok3 (by omega) hV) g_no (fun h4 e52 => ?_)
              subst e52
              refine g_if_eq 74 58 C dX0_takeFrom_55 rfl rfl (gbi_r _) (fun c55 => ?_) (fun c55 => ?_)
              · skip
                have hC5 : isC E h4 c V ((l2.take (i2 + 1)).foldl (tkS V) (tkA V2 l l2)) := by rw [ef, tkS_f (x := (mk2 (i2 : Int), vl2 (i2 : Int))) (gbi_0 c55)]; exact hC4
                have hk5 := hk3
                refine g_iinc 77 [(2, _), (0, _), (1, _)] C dX0_takeFrom_74 rfl (by decide) rfl rfl ?_
                refine g_goto 37 C dX0_takeFrom_77 rfl ?_
                refine g_loc [(2, _), (0, _), (1, _)] ⟨rfl, rfl, rfl, trivial⟩ ?_
                exact ih37 (i2 + 1) _ (by omega) hC5 hk5 (by omega)
              · skip
                skip
                refine g_aload_n 59 C dX0_takeFrom_58 rfl rfl ?_
                refine g_aload_n 60 C dX0_takeFrom_59 rfl rfl ?_
                refine g_getf 63 C dX0_takeFrom_60 fl_RX0_15 rfl (by omega) q2.1 rfl rfl ?_
                refine g_iload_n 64 C dX0_takeFrom_63 rfl rfl ?_
                refine g_iald 65 C dX0_takeFrom_64 (by omega) q2.2.2.1 (by omega) (by decide) rfl ?_
                refine g_aload_n 66 C dX0_takeFrom_65 rfl rfl ?_
                refine g_getf 69 C dX0_takeFrom_66 fl_RX0_18 rfl (by omega) q2.1 rfl rfl ?_
                refine g_iload_n 70 C dX0_takeFrom_69 rfl rfl ?_
                refine g_iald 71 C dX0_takeFrom_70 (by omega) q2.2.2.2 (by omega) (by decide) rfl ?_
                refine g_V2v 74 0 0 C dX0_takeFrom_71 rfl lk_RX0_53 gi_X0_insert gv_X0_insert ⟨_, _, rfl⟩ (by omega) q3.1 ⟨⟨by decide, by decide⟩, by decide, by decide⟩ (Nat.le_of_ble_eq_true rfl) rfl rfl rfl (c_X0_insert c V _ (mk2 (i2 : Int)) (vl2 (i2 : Int)) hcb hC4 hok3 (by omega)) g_no (fun h5 e71 => ?_)
                obtain ⟨hC6, hk6⟩ := e71
                have hC5 : isC E h5 c V ((l2.take (i2 + 1)).foldl (tkS V) (tkA V2 l l2)) := by rw [ef, tkS_t (x := (mk2 (i2 : Int), vl2 (i2 : Int))) (gbi_1 c55)]; exact hC6
                have hk5 := gKp_tr hk3 hk6
                refine g_iinc 77 [(2, _), (0, _), (1, _)] C dX0_takeFrom_74 rfl (by decide) rfl rfl ?_
                refine g_goto 37 C dX0_takeFrom_77 rfl ?_
                refine g_loc [(2, _), (0, _), (1, _)] ⟨rfl, rfl, rfl, trivial⟩ ?_
                exact ih37 (i2 + 1) _ (by omega) hC5 hk5 (by omega)
        refine g_loc [(2, _), (0, _), (1, _)] ⟨rfl, rfl, rfl, trivial⟩ ?_
        exact lp37 _ 0 h1 (Nat.zero_le _) (by rw [show (i + 1).toNat = 0 by omega] at e1; rw [e1, List.take_zero, List.drop_zero, List.nil_append] at hC1; exact hC1) hk (Nat.lt_succ_self _)
      · skip
        obtain ⟨p, rfl⟩ : ∃ p : Nat, i = (p : Int) := ⟨i.toNat, by omega⟩
        rw [show ((p : Int) + 1).toNat = p + 1 by omega] at e1
        have hok1 : okL l1 := by rw [e1]; exact flt_ok hok
        have hp1 : p < l1.length := by rw [e1]; exact flt_len (by omega)
        have hC7 := hC1
        obtain ⟨mk1, vl1, hl1, q1⟩ := hC1
        have hx : l[p]? = some (mk1 (p : Int), vl1 (p : Int)) := by
          rw [← flt_at (q := (fun p : Int × Int => !(drp V2 l2 p.1))) (show p < l.length by omega), ← e1, hl1]
          exact lst_get hp1
        have hv := okL_at hl1 hok1 hp1
        have hD1 : isC E h1 d V2 l2 := hD.kept (fun q9 z1 z2 => hk q9 (by omega))
        refine g_aload_n 12 C dX0_takeFrom_11 rfl rfl ?_
        refine g_aload_n 13 C dX0_takeFrom_12 rfl rfl ?_
        refine g_getf 16 C dX0_takeFrom_13 fl_RX0_15 rfl (by omega) q1.1 rfl rfl ?_
        refine g_iload_n 17 C dX0_takeFrom_16 rfl rfl ?_
        refine g_iald 18 C dX0_takeFrom_17 (by omega) q1.2.2.1 (by omega) (by decide) rfl ?_
        obtain ⟨mkd, vld, hld, qd⟩ := id hD1
        have hD1q := qd.1
        refine g_V1r 21 0 0 C dX0_takeFrom_18 rfl lk_RX0_43 gi_X0_hasDropped gv_X0_hasDropped ⟨_, _, rfl⟩ (by omega) hD1q ⟨⟨by decide, by decide⟩, by decide, by decide⟩ (Nat.le_of_ble_eq_true rfl) rfl rfl rfl (c_X0_hasDropped d V2 l2 (mk1 (p : Int)) (by omega) hD1 hok2 (by omega) hV2) g_no (fun h9 e18 => ?_)
        subst e18
        refine g_if_eq 29 24 C dX0_takeFrom_21 rfl rfl (gbi_r _) (fun c21 => ?_) (fun c21 => ?_)
        · skip
          have e9 : l1 = l.take (((p : Int) + -1) + 1).toNat ++ (l.drop (((p : Int) + -1) + 1).toNat).filter (fun p : Int × Int => !(drp V2 l2 p.1)) := by rw [show (((p : Int) + -1) + 1).toNat = p by omega, e1]; exact (flt_k hx (by rw [gbi_0 c21]; rfl)).symm
          have hC8 := hC7
          have hk8 := hk
          refine g_iinc 32 [(2, _), (0, _), (1, _)] C dX0_takeFrom_29 rfl (by decide) rfl rfl ?_
          refine g_goto 7 C dX0_takeFrom_32 rfl ?_
          refine g_loc [(2, .int (gi ((p : Int) + -1))), (0, _), (1, _)] ⟨rfl, rfl, rfl, trivial⟩ ?_
          exact ih7 ((p : Int) + -1) _ _ (by omega) e9 hC8 hk8 (by omega)
        · skip
          have e9 : l1.eraseIdx p = l.take (((p : Int) + -1) + 1).toNat ++ (l.drop (((p : Int) + -1) + 1).toNat).filter (fun p : Int × Int => !(drp V2 l2 p.1)) := by rw [show (((p : Int) + -1) + 1).toNat = p by omega, e1]; exact (flt_r hx (by rw [gbi_1 c21]; rfl)).symm
          refine g_aload_n 25 C dX0_takeFrom_24 rfl rfl ?_
          refine g_iload_n 26 C dX0_takeFrom_25 rfl rfl ?_
          refine g_V1v 29 0 0 C dX0_takeFrom_26 rfl lk_RX0_49 gi_X0_remove gv_X0_remove ⟨_, _, rfl⟩ (by omega) q1.1 ⟨⟨by decide, by decide⟩, by decide, by decide⟩ (Nat.le_of_ble_eq_true rfl) rfl rfl rfl (c_X0_remove c V l1 p hcb hC7 hok1 hp1) g_no (fun h8 e26 => ?_)
          obtain ⟨hC8, hk8⟩ := e26
          have hk8 := gKp_tr hk hk8
          refine g_iinc 32 [(2, _), (0, _), (1, _)] C dX0_takeFrom_29 rfl (by decide) rfl rfl ?_
          refine g_goto 7 C dX0_takeFrom_32 rfl ?_
          refine g_loc [(2, .int (gi ((p : Int) + -1))), (0, _), (1, _)] ⟨rfl, rfl, rfl, trivial⟩ ?_
          exact ih7 ((p : Int) + -1) _ _ (by omega) e9 hC8 hk8 (by omega)
  refine g_loc [(2, _), (0, _), (1, _)] ⟨rfl, rfl, rfl, trivial⟩ ?_
  exact lp7 _ ((l.length : Int) + -1) h l (by omega) (by rw [show ((l.length : Int) + -1 + 1).toNat = l.length by omega, List.take_length, List.drop_length]; simp) hC9 gKp_rf (Nat.lt_succ_self _)
set_option maxRecDepth 100000 in
set_option maxHeartbeats 4000000 in
theorem c_X0_valueBy {E : gEnv} {n : Nat} {σ : Option Nat} {h : gH} (c : Nat) (V : Int → Int) (l : List (Int × Int)) (rule : Int) (x0 : Int × Int) (hcb : gB E ≤ c ∧ c + 4 ≤ gB E + n) (hC : isC E h c V l) (hok : okL l) (hr : 0 ≤ rule ∧ rule ≤ 3) (hx : l[0]? = some x0) : gM E mX0_valueBy [.ref c, .int (gi rule)] n σ h (gD (some (.int (gi (jval rule x0.2 l)))) n σ (fun h9 => h9 = h)) (gNo) := by
  obtain ⟨mk, vl, hl, q⟩ := hC
  have hlen := hok.1
  have hpos : 0 < l.length := (List.getElem?_eq_some_iff.mp hx).1
  have hx0 : x0 = (mk 0, vl 0) := by rw [hl] at hx; exact (Option.some.inj ((lst_get hpos).symm.trans hx)).symm
  have hxv : x0.2 = vl 0 := by rw [hx0]
  have hv0 : 0 ≤ mk 0 ∧ mk 0 < 5000 ∧ 0 ≤ vl 0 ∧ vl 0 ≤ 99 := okL_at hl hok hpos
  refine gM_of (by decide) (Nat.le_of_ble_eq_true rfl) (fun F C => ?_)
  refine g_aload_n 1 C dX0_valueBy_0 rfl rfl ?_
  refine g_getf 4 C dX0_valueBy_1 fl_RX0_18 rfl (by omega) q.1 rfl rfl ?_
  refine g_iconst 5 C dX0_valueBy_4 rfl ?_
  refine g_iald 6 C dX0_valueBy_5 (by omega) q.2.2.2 (by omega) (by decide) rfl ?_
  refine g_istore_n 7 [(2, _), (0, _), (1, _)] C dX0_valueBy_6 (by decide) rfl rfl ?_
  refine g_aload_n 8 C dX0_valueBy_7 rfl rfl ?_
  refine g_getf 11 C dX0_valueBy_8 fl_RX0_18 rfl (by omega) q.1 rfl rfl ?_
  refine g_iconst 12 C dX0_valueBy_11 rfl ?_
  refine g_iald 13 C dX0_valueBy_12 (by omega) q.2.2.2 (by omega) (by decide) rfl ?_
  refine g_istore_n 14 [(3, _), (2, _), (0, _), (1, _)] C dX0_valueBy_13 (by decide) rfl rfl ?_
  refine g_iconst 15 C dX0_valueBy_14 rfl ?_
  refine g_istore 17 [(4, _), (3, _), (2, _), (0, _), (1, _)] C dX0_valueBy_15 (by decide) rfl rfl ?_
  refine g_iconst 18 C dX0_valueBy_17 rfl ?_
  refine g_istore 20 [(5, _), (4, _), (3, _), (2, _), (0, _), (1, _)] C dX0_valueBy_18 (by decide) rfl rfl ?_
  have lp20 : ∀ (k9 : Nat) (i : Nat), i ≤ l.length → (0 ≤ mxs (lst mk vl i) (vl 0) ∧ mxs (lst mk vl i) (vl 0) ≤ 99) → (0 ≤ mns (lst mk vl i) (vl 0) ∧ mns (lst mk vl i) (vl 0) ≤ 99) → (0 ≤ sms (lst mk vl i) 0 ∧ sms (lst mk vl i) 0 ≤ 99 * (i : Int)) → l.length - i < k9 → G E F mX0_valueBy (gQ E F mX0_valueBy n (gD (some (.int (gi (jval rule x0.2 l)))) n σ (fun h9 => h9 = h)) (gNo)) n σ h 0 0 20 [(5, .int (gi (i : Int))), (4, .int (gi (sms (lst mk vl i) 0))), (3, .int (gi (mns (lst mk vl i) (vl 0)))), (2, .int (gi (mxs (lst mk vl i) (vl 0)))), (0, .ref c), (1, .int (gi rule))] [] := by
    intro k9
    induction k9 with
    | zero => intro i hi hM hN hS h0; exact absurd h0 (Nat.not_lt_zero _)
    | succ k9 ih20 =>
      intro i hi hM hN hS hk20
      refine g_iload 22 C dX0_valueBy_20 rfl rfl ?_
      refine g_aload_n 23 C dX0_valueBy_22 rfl rfl ?_
      refine g_getf 26 C dX0_valueBy_23 fl_RX0_27 rfl (by omega) q.1 rfl rfl ?_
      refine g_icmp_ge 71 29 C dX0_valueBy_26 rfl rfl (by omega) (by omega) (fun c26 => ?_) (fun c26 => ?_)
      · skip
        have ei : lst mk vl i = l := by rw [show i = l.length by omega]; exact hl.symm
        rw [ei] at hM hN hS
        refine g_iload_n 72 C dX0_valueBy_71 rfl rfl ?_
        rw [ei]
        by_cases z72_0 : rule = 0
        · skip
          refine g_table 100 C dX0_valueBy_72 (by omega) (by omega) (by omega) (off := 28) (by rw [z72_0]; rfl) rfl ?_
          refine g_iload_n 101 C dX0_valueBy_100 rfl rfl ?_
          exact g_iret C dX0_valueBy_101 rfl ⟨by decide, by decide⟩ (by rw [hxv, show jval rule (vl 0) l = mxs l (vl 0) from if_pos z72_0]; exact ⟨rfl, rfl, rfl, rfl⟩)
        by_cases z72_1 : rule = 1
        · skip
          refine g_table 102 C dX0_valueBy_72 (by omega) (by omega) (by omega) (off := 30) (by rw [z72_1]; rfl) rfl ?_
          refine g_iload_n 103 C dX0_valueBy_102 rfl rfl ?_
          exact g_iret C dX0_valueBy_103 rfl ⟨by decide, by decide⟩ (by rw [hxv, show jval rule (vl 0) l = mns l (vl 0) by unfold jval; rw [if_neg z72_0, if_pos z72_1]]; exact ⟨rfl, rfl, rfl, rfl⟩)
        by_cases z72_2 : rule = 2
        · skip
          refine g_table 104 C dX0_valueBy_72 (by omega) (by omega) (by omega) (off := 32) (by rw [z72_2]; rfl) rfl ?_
          refine g_iload 106 C dX0_valueBy_104 rfl rfl ?_
          refine g_bipush 108 C dX0_valueBy_106 (by decide) rfl ?_
          refine g_irem 109 C dX0_valueBy_108 (by omega) (by omega) rfl ?_
          exact g_iret C dX0_valueBy_109 rfl ⟨by decide, by decide⟩ (by rw [hxv, show jval rule (vl 0) l = sms l 0 % 100 by unfold jval; rw [if_neg z72_0, if_neg z72_1, if_pos z72_2]]; exact ⟨rfl, rfl, rfl, rfl⟩)
        refine g_tableD 110 C dX0_valueBy_72 (by omega) (by omega) rfl ?_
        refine g_aload_n 111 C dX0_valueBy_110 rfl rfl ?_
        refine g_getf 114 C dX0_valueBy_111 fl_RX0_18 rfl (by omega) q.1 rfl rfl ?_
        refine g_iconst 115 C dX0_valueBy_114 rfl ?_
        refine g_iald 116 C dX0_valueBy_115 (by omega) q.2.2.2 (by omega) (by decide) rfl ?_
        exact g_iret C dX0_valueBy_116 rfl ⟨by decide, by decide⟩ (by rw [hxv, show jval rule (vl 0) l = vl 0 by unfold jval; rw [if_neg z72_0, if_neg z72_1, if_neg z72_2]]; exact ⟨rfl, rfl, rfl, rfl⟩)
      · skip
        have hv := okL_at hl hok (j := i) (by omega)
        refine g_iload_n 30 C dX0_valueBy_29 rfl rfl ?_
        refine g_aload_n 31 C dX0_valueBy_30 rfl rfl ?_
        refine g_getf 34 C dX0_valueBy_31 fl_RX0_18 rfl (by omega) q.1 rfl rfl ?_
        refine g_iload 36 C dX0_valueBy_34 rfl rfl ?_
        refine g_iald 37 C dX0_valueBy_36 (by omega) q.2.2.2 (by omega) (by decide) rfl ?_
        refine g_max 40 C dX0_valueBy_37 rfl sp_RX0_61 (by decide) (Nat.le_of_ble_eq_true rfl) (by decide) (by decide) (by omega) (by omega) rfl ?_
        refine g_istore_n 41 [(2, _), (5, _), (4, _), (3, _), (0, _), (1, _)] C dX0_valueBy_40 (by decide) rfl rfl ?_
        refine g_iload_n 42 C dX0_valueBy_41 rfl rfl ?_
        refine g_aload_n 43 C dX0_valueBy_42 rfl rfl ?_
        refine g_getf 46 C dX0_valueBy_43 fl_RX0_18 rfl (by omega) q.1 rfl rfl ?_
        refine g_iload 48 C dX0_valueBy_46 rfl rfl ?_
        refine g_iald 49 C dX0_valueBy_48 (by omega) q.2.2.2 (by omega) (by decide) rfl ?_
        refine g_min 52 C dX0_valueBy_49 rfl sp_RX0_67 (by decide) (Nat.le_of_ble_eq_true rfl) (by decide) (by decide) (by omega) (by omega) rfl ?_
        refine g_istore_n 53 [(3, _), (2, _), (5, _), (4, _), (0, _), (1, _)] C dX0_valueBy_52 (by decide) rfl rfl ?_
        refine g_iload 55 C dX0_valueBy_53 rfl rfl ?_
        refine g_aload_n 56 C dX0_valueBy_55 rfl rfl ?_
        refine g_getf 59 C dX0_valueBy_56 fl_RX0_18 rfl (by omega) q.1 rfl rfl ?_
        refine g_iload 61 C dX0_valueBy_59 rfl rfl ?_
        refine g_iald 62 C dX0_valueBy_61 (by omega) q.2.2.2 (by omega) (by decide) rfl ?_
        refine g_iadd 63 C dX0_valueBy_62 rfl ?_
        refine g_istore 65 [(4, _), (3, _), (2, _), (5, _), (0, _), (1, _)] C dX0_valueBy_63 (by decide) rfl rfl ?_
        refine g_iinc 68 [(5, _), (4, _), (3, _), (2, _), (0, _), (1, _)] C dX0_valueBy_65 rfl (by decide) rfl rfl ?_
        refine g_goto 20 C dX0_valueBy_68 rfl ?_
        refine g_loc [(5, _), (4, .int (gi (sms (lst mk vl (i + 1)) 0))), (3, .int (gi (mns (lst mk vl (i + 1)) (vl 0)))), (2, .int (gi (mxs (lst mk vl (i + 1)) (vl 0)))), (0, _), (1, _)] ⟨rfl, (by rw [sms_s]; rfl), (by rw [mns_s]; rfl), (by rw [mxs_s]; rfl), rfl, rfl, trivial⟩ ?_
        exact ih20 (i + 1) (by omega) (by rw [mxs_s]; split <;> omega) (by rw [mns_s]; split <;> omega) (by rw [sms_s]; omega) (by omega)
  refine g_loc [(5, _), (4, _), (3, _), (2, _), (0, _), (1, _)] ⟨rfl, rfl, rfl, rfl, rfl, rfl, trivial⟩ ?_
  exact lp20 _ 0 (Nat.zero_le _) ⟨hv0.2.2.1, hv0.2.2.2⟩ ⟨hv0.2.2.1, hv0.2.2.2⟩ ⟨Int.le_refl _, Int.le_refl _⟩ (Nat.lt_succ_self _)
set_option maxRecDepth 100000 in
set_option maxHeartbeats 4000000 in
theorem c_X0_become {E : gEnv} {n : Nat} {σ : Option Nat} {h : gH} (c : Nat) (V : Int → Int) (l : List (Int × Int)) (d : Nat) (V2 : Int → Int) (l2 : List (Int × Int)) (hcb : gB E ≤ c ∧ c + 4 ≤ gB E + n) (hC : isC E h c V l) (hok : okL l) (hdb : gB E ≤ d ∧ d + 4 ≤ gB E + n) (hD : isC E h d V2 l2) (hok2 : okL l2) (hcd : c + 4 ≤ d ∨ d + 4 ≤ c) : gM E mX0_become [.ref c, .ref d] n none h (gD none n none (fun h9 => isC E h9 c V2 l2 ∧ gKp c (c + 4) h h9)) (gNo) := by
  obtain ⟨mk, vl, hl, q⟩ := hC
  have hlen := hok.1
  obtain ⟨mk2, vl2, hl2, q2⟩ := hD
  have hlen2 := hok2.1
  refine gM_of (by decide) (Nat.le_of_ble_eq_true rfl) (fun F C => ?_)
  refine g_aload_n 1 C dX0_become_0 rfl rfl ?_
  refine g_getf 4 C dX0_become_1 fl_RX0_9 rfl (by omega) q2.1 rfl rfl ?_
  refine g_iconst 5 C dX0_become_4 rfl ?_
  refine g_aload_n 6 C dX0_become_5 rfl rfl ?_
  refine g_getf 9 C dX0_become_6 fl_RX0_9 rfl (by omega) q.1 rfl rfl ?_
  refine g_iconst 10 C dX0_become_9 rfl ?_
  refine g_iconst 11 C dX0_become_10 rfl ?_
  refine g_copy 14 C dX0_become_11 rfl sp_RX0_21 (by omega) q2.2.1 (by omega) q.2.1 (by omega) (by omega) (by omega) (by omega) (by omega) (by decide) (by decide) (Nat.le_of_ble_eq_true rfl) rfl ?_
  have qa := q.V (gcpy V2 V 0 0 5)
  have qa2 := q2.kept (h1 := va_up h (c + 1) (gI E 5 (gcpy V2 V 0 0 5))) (fun q9 z1 z2 => up_n (by omega))
  refine g_aload_n 15 C dX0_become_14 rfl rfl ?_
  refine g_getf 18 C dX0_become_15 fl_RX0_15 rfl (by omega) qa2.1 rfl rfl ?_
  refine g_iconst 19 C dX0_become_18 rfl ?_
  refine g_aload_n 20 C dX0_become_19 rfl rfl ?_
  refine g_getf 23 C dX0_become_20 fl_RX0_15 rfl (by omega) qa.1 rfl rfl ?_
  refine g_iconst 24 C dX0_become_23 rfl ?_
  refine g_iconst 25 C dX0_become_24 rfl ?_
  refine g_copy 28 C dX0_become_25 rfl sp_RX0_21 (by omega) qa2.2.2.1 (by omega) qa.2.2.1 (by omega) (by omega) (by omega) (by omega) (by omega) (by decide) (by decide) (Nat.le_of_ble_eq_true rfl) rfl ?_
  have qb := qa.mk (gcpy mk2 mk 0 0 4)
  have qb2 := qa2.kept (h1 := va_up _ (c + 2) (gI E 4 (gcpy mk2 mk 0 0 4))) (fun q9 z1 z2 => up_n (by omega))
  refine g_aload_n 29 C dX0_become_28 rfl rfl ?_
  refine g_getf 32 C dX0_become_29 fl_RX0_18 rfl (by omega) qb2.1 rfl rfl ?_
  refine g_iconst 33 C dX0_become_32 rfl ?_
  refine g_aload_n 34 C dX0_become_33 rfl rfl ?_
  refine g_getf 37 C dX0_become_34 fl_RX0_18 rfl (by omega) qb.1 rfl rfl ?_
  refine g_iconst 38 C dX0_become_37 rfl ?_
  refine g_iconst 39 C dX0_become_38 rfl ?_
  refine g_copy 42 C dX0_become_39 rfl sp_RX0_21 (by omega) qb2.2.2.2 (by omega) qb.2.2.2 (by omega) (by omega) (by omega) (by omega) (by omega) (by decide) (by decide) (Nat.le_of_ble_eq_true rfl) rfl ?_
  have qc := qb.vl (gcpy vl2 vl 0 0 4)
  have qc2 := qb2.kept (h1 := va_up _ (c + 3) (gI E 4 (gcpy vl2 vl 0 0 4))) (fun q9 z1 z2 => up_n (by omega))
  refine g_aload_n 43 C dX0_become_42 rfl rfl ?_
  refine g_aload_n 44 C dX0_become_43 rfl rfl ?_
  refine g_getf 47 C dX0_become_44 fl_RX0_27 rfl (by omega) qc2.1 rfl rfl ?_
  refine g_putf 50 C dX0_become_47 fp_RX0_27 rfl (by omega) qc.1 rfl rfl (Nat.le_of_ble_eq_true rfl) rfl ?_
  have qd := qc.sz (l2.length : Int)
  exact g_vret C dX0_become_50 rfl ⟨by decide, by decide⟩ (⟨rfl, rfl, rfl, ⟨_, _, by
      rw [lst_cong (mk := gcpy mk2 mk 0 0 4) (vl := gcpy vl2 vl 0 0 4) (mk' := mk2) (vl' := vl2) (fun j hj => ⟨by rw [gcpy_in (by omega)]; congr 1; omega, by rw [gcpy_in (by omega)]; congr 1; omega⟩)]
      exact hl2, qd.1, qd.2.1.trans (gI_ext (fun j h0 h5 => by rw [gcpy_in (by omega)]; congr 1; omega)), qd.2.2.1, qd.2.2.2⟩, gKp_tr (gKp_up (by omega)) (gKp_tr (gKp_up (by omega)) (gKp_tr (gKp_up (by omega)) (gKp_up (by omega))))⟩)
set_option maxRecDepth 100000 in
set_option maxHeartbeats 4000000 in
theorem c_X0_init {E : gEnv} {n : Nat} {σ : Option Nat} {h : gH} (c : Nat) (hcn : c + 1 = gB E + n) (hcb : gB E ≤ c) (hc : h c = gO 0 [.null, .null, .null, .int 0]) : gM E mX0_init [.ref c] n (some (gB E + n)) h (gD none (n + 1 + 1 + 1) (some (gB E + (n + 1 + 1 + 1))) (fun h9 => isC E h9 c (fun _ => 0) [] ∧ gKp c (c + 4) h h9)) (gNo) := by
  refine gM_of (by decide) (Nat.le_of_ble_eq_true rfl) (fun F C => ?_)
  refine g_aload_n 1 C dX0_init_0 rfl rfl ?_
  refine g_objInit 4 C dX0_init_1 rfl sp_RX0_3 (by decide) (Nat.le_of_ble_eq_true rfl) rfl ?_
  refine g_aload_n 5 C dX0_init_4 rfl rfl ?_
  refine g_iconst 6 C dX0_init_5 rfl ?_
  refine g_newai (m := 5) 8 C dX0_init_6 (by omega) (by decide) (by decide) rfl ?_
  refine g_putF 11 C dX0_init_8 fp_RX0_9 rfl rfl (by omega) ((up_n (by omega)).trans hc) rfl rfl (Nat.le_of_ble_eq_true rfl) rfl ?_
  refine g_aload_n 12 C dX0_init_11 rfl rfl ?_
  refine g_iconst 13 C dX0_init_12 rfl ?_
  refine g_newai (m := 4) 15 C dX0_init_13 (by omega) (by decide) (by decide) rfl ?_
  refine g_putF 18 C dX0_init_15 fp_RX0_15 rfl rfl (by omega) ((up_n (by omega)).trans up_s) rfl rfl (Nat.le_of_ble_eq_true rfl) rfl ?_
  refine g_aload_n 19 C dX0_init_18 rfl rfl ?_
  refine g_iconst 20 C dX0_init_19 rfl ?_
  refine g_newai (m := 4) 22 C dX0_init_20 (by omega) (by decide) (by decide) rfl ?_
  refine g_putF 25 C dX0_init_22 fp_RX0_18 rfl rfl (by omega) ((up_n (by omega)).trans up_s) rfl rfl (Nat.le_of_ble_eq_true rfl) rfl ?_
  exact g_vret C dX0_init_25 rfl ⟨by decide, by decide⟩ (⟨rfl, rfl, rfl, ⟨fun _ => 0, fun _ => 0, rfl, by rw [up_e rfl, show gB E + n = c + 1 by omega, show gB E + (n + 1) = c + 2 by omega, show gB E + (n + 1 + 1) = c + 3 by omega]; rfl, by rw [up_n (by omega), up_n (by omega), up_n (by omega), up_n (by omega), up_n (by omega), up_e (by omega)], by rw [up_n (by omega), up_n (by omega), up_n (by omega), up_e (by omega)], by rw [up_n (by omega), up_e (by omega)]⟩, gKp_tr (gKp_up (by omega)) (gKp_tr (gKp_up (by omega)) (gKp_tr (gKp_up (by omega)) (gKp_tr (gKp_up (by omega)) (gKp_tr (gKp_up (by omega)) (gKp_up (by omega))))))⟩)
