/-! SiblingJoins: the looks, runAll, the constructor -/
/-- two parts that are alike do the same, if what is left of the text is taken, and whole -/
theorem okP_whole {P : gPt} {c : Int} (hc : c = 59) (hP : okP P) (h : (pTk P c).isSome) : pLen P.2.1 ≤ (P.1 : Int) := by
  subst hc
  obtain ⟨p, b, w, k, s, v⟩ := P
  obtain ⟨h1, h2, -⟩ := hP
  dsimp only at h1 h2
  rcases pl_cases h1 h2 with rfl | rfl | rfl | rfl | rfl | rfl | ⟨rfl, rfl⟩ | ⟨rfl, rfl⟩ | ⟨rfl, rfl⟩ | ⟨rfl, rfl⟩ | ⟨rfl, rfl⟩
  · rw [tk0, if_neg (by decide)] at h
    cases h
  · rw [tk1, if_neg (by decide)] at h
    cases h
  · rw [tk2, if_neg (by decide)] at h
    cases h
  · rw [tk3, if_neg (by decide)] at h
    cases h
  · rw [tk4, if_neg (by decide)] at h
    cases h
  · rw [tk5, if_neg (by decide)] at h
    cases h
  · rw [tk6t, if_neg (by decide)] at h
    cases h
  · show (6 : Int) ≤ 6
    decide
  · rw [tk7, if_neg (by decide)] at h
    cases h
  · show (8 : Int) ≤ 8
    decide
  · show (8 : Int) ≤ 9
    decide
theorem peq_rp {P Q : gPt} {S : gSt} (h : peq P Q) (hw : pLen P.2.1 ≤ (P.1 : Int)) : rpS S P = rpS S Q := by
  obtain ⟨p, b, w, k, s, v⟩ := P
  obtain ⟨p', b', w', k', s', v'⟩ := Q
  obtain ⟨e1, e2, e3, e4, e5, e6⟩ := h
  dsimp only at e1 e2 e3 e4 e5 e6 hw
  have hl := pLen_r b
  cases e2 (by omega)
  cases e3 (by omega)
  cases e4 (by omega)
  cases e5 (by omega)
  cases b
  · rfl
  · have hl2 : (8 : Int) ≤ (p : Int) := hw
    cases e6 (by omega)
    cases e1
    rfl
theorem peq_run {f : Int → Int} : ∀ (d i : Nat) (P Q : gPt) (S : gSt), okP P → okP Q → peq P Q → scP f i = some Q → (∃ R : gPt, scP f (i + d) = some R ∧ pLen R.2.1 ≤ (R.1 : Int)) → runL S (rsP f P i d) = runL S (rsP f Q i d) := by
  intro d
  induction d with
  | zero =>
    intro i P Q S hP hQ h hs hR
    obtain ⟨R, r1, r2⟩ := hR
    cases hs.symm.trans r1
    have hw : pLen P.2.1 ≤ (P.1 : Int) := by
      have hl := pLen_r Q.2.1
      have e1 : P.1 = Q.1 := h.1
      rw [h.2.1 (by omega), e1]
      exact r2
    have e := peq_rp (S := S) h hw
    show runL S [P] = runL S [Q]
    cases e2 : rpS S Q with
    | none => rw [runL_no (e.trans e2), runL_no e2]
    | some S' => rw [runL_so (e.trans e2), runL_so e2]
  | succ d ih =>
    intro i P Q S hP hQ h hs hR
    have hq := peq_tk (c := f (i : Int)) h hP
    have hst := scP_st hs
    obtain ⟨R, r1, r2⟩ := hR
    obtain ⟨Q', hQ'⟩ : ∃ Q', pTk Q (f (i : Int)) = some Q' := by
      cases e : pTk Q (f (i : Int)) with
      | some Q' => exact ⟨Q', rfl⟩
      | none =>
        rw [e] at hst
        have z := scP_no hst d
        rw [show i + 1 + d = i + (d + 1) by omega, r1] at z
        cases z
    obtain ⟨P', hP'⟩ : ∃ P', pTk P (f (i : Int)) = some P' := by
      cases e : pTk P (f (i : Int)) with
      | some P' => exact ⟨P', rfl⟩
      | none => rw [e, hQ'] at hq; exact hq.elim
    rw [hP', hQ'] at hq
    have hq : peq P' Q' := hq
    have go := fun S => ih (i + 1) P' Q' S (okP_tk hP hP') (okP_tk hQ hQ') hq (hst.trans hQ') ⟨R, by rw [show i + 1 + d = i + (d + 1) by omega]; exact r1, r2⟩
    by_cases hc : f (i : Int) = 59
    · rw [rsP_y hc, rsP_y hc, hP', hQ']
      have e := peq_rp (S := S) h (okP_whole hc hP (by rw [hP']; rfl))
      show runL S (P :: rsP f P' (i + 1) d) = runL S (Q :: rsP f Q' (i + 1) d)
      cases e2 : rpS S Q with
      | none => rw [runL_no (e.trans e2), runL_no e2]
      | some S' => rw [runL_so (e.trans e2), runL_so e2, go]
    · rw [rsP_n hc, rsP_n hc, hP', hQ']
      exact go S
theorem scE_le {f : Int → Int} : ∀ n : Nat, scE f n ≤ n := by
  intro n
  induction n with
  | zero => exact Nat.le_refl _
  | succ n ih =>
    unfold scE
    split
    · exact Nat.le_refl _
    · omega
theorem scE_lt {f : Int → Int} {n : Nat} (h : scP f n = none) : scE f n < n := by
  cases n with
  | zero => cases h
  | succ n =>
    have e : scE f (n + 1) = scE f n := if_neg (by rw [h]; decide)
    have := scE_le (f := f) n
    omega
theorem c_sibI {E : gEnv} {n : Nat} {σ : Option Nat} {h : gH} (a : Nat) (K : gKy) (s p what : Int) (hab : gB E ≤ a ∧ a + 21 ≤ gB E + n) (hK : isK E h a K) (hok : okK K) (hs : 0 ≤ s ∧ s < 3) (hp : 0 ≤ p ∧ p ≤ 3) (hwh : 0 ≤ what ∧ what ≤ 4) : gM E mX1_siblingFact [.ref a, .int (gi s), .int (gi p), .int (gi what)] n σ h (gD (some (.int (gi (sibF K s p what)))) n σ (fun h9 => h9 = h)) gNo := by
  obtain ⟨q, rfl⟩ : ∃ q : Nat, p = (q : Int) := ⟨p.toNat, by omega⟩
  exact c_X1_siblingFact a K s q what hab hK hok hs (by omega) hwh
set_option maxRecDepth 100000 in
set_option maxHeartbeats 4000000 in
theorem c_X4_sibling {E : gEnv} {n : Nat} {σ : Option Nat} {h : gH} (x : Nat) (T : gTt) (s k p what : Int) (hl : E.1.stackTraces = false) (hxb : gB E ≤ x ∧ x + 524 ≤ gB E + n) (hJ : isJ E h x T) (hok : okT T) (hsr : -2147483648 ≤ s ∧ s < 2147483648) (hkr : -2147483648 ≤ k ∧ k < 2147483648) (hpr : -2147483648 ≤ p ∧ p < 2147483648) (hwhatr : -2147483648 ≤ what ∧ what < 2147483648) : gM E mX4_sibling [.ref x, .int (gi s), .int (gi k), .int (gi p), .int (gi what)] n none h (gRT E h x n (oSibling T s k p what)) (gXT E h x (exc xIO xIA xIA) (oSibling T s k p what)) := by
  have hok9 := hok
  have hJ9 := hJ
  obtain ⟨j1, j2, j3, j4, j5, j6⟩ := hJ
  obtain ⟨o1, o2, o3, o4, o5⟩ := hok
  unfold isJo at j1
  have j29 := j2
  obtain ⟨-, ⟨jkk, jk, jkf⟩, jK⟩ := j2
  have j2 := j29
  refine gM_of (by decide) (Nat.le_of_ble_eq_true rfl) (fun F C => ?_)
  refine g_iload_n 1 C dX4_sibling_0 rfl rfl ?_
  refine g_iconst 2 C dX4_sibling_1 rfl ?_
  refine g_S2v 5 1 6 C dX4_sibling_2 rfl lk_RX4_103 gs_X4_checkIndex ⟨⟨by decide, by decide⟩, by decide, by decide⟩ (Nat.le_of_ble_eq_true rfl) rfl rfl rfl (c_X4_checkIndex s 3 hl hsr (by decide)) (g_thr (n0 := 0) (fun X h9 z9 => thr_ok 1 hJ9 (show oSibling T s k p what = (1, 0, T) by unfold oSibling; exact if_neg (fun z8 => z9.2.2 z8.1)) (z9.1.trans (by first | rfl | decide)) (by decide) z9.2.1)) (fun h9 e2 => ?_)
  obtain ⟨e2, hv2⟩ := e2
  subst e2
  refine g_iload_n 6 C dX4_sibling_5 rfl rfl ?_
  refine g_iconst 7 C dX4_sibling_6 rfl ?_
  refine g_S2v 10 2 12 C dX4_sibling_7 rfl lk_RX4_103 gs_X4_checkIndex ⟨⟨by decide, by decide⟩, by decide, by decide⟩ (Nat.le_of_ble_eq_true rfl) rfl rfl rfl (c_X4_checkIndex k 3 hl hkr (by decide)) (g_thr (n0 := 0) (fun X h9 z9 => thr_ok 1 hJ9 (show oSibling T s k p what = (1, 0, T) by unfold oSibling; exact if_neg (fun z8 => z9.2.2 z8.2)) (z9.1.trans (by first | rfl | decide)) (by decide) z9.2.1)) (fun h9 e7 => ?_)
  obtain ⟨e7, hv7⟩ := e7
  subst e7
  refine g_iload_n 11 C dX4_sibling_10 rfl rfl ?_
  refine g_iconst 12 C dX4_sibling_11 rfl ?_
  refine g_S2v 15 3 18 C dX4_sibling_12 rfl lk_RX4_61 gs_X4_checkUpTo ⟨⟨by decide, by decide⟩, by decide, by decide⟩ (Nat.le_of_ble_eq_true rfl) rfl rfl rfl (c_X4_checkUpTo p 3 hl hpr (by decide)) (g_thr (n0 := 0) (fun X h9 z9 => thr_ok 2 hJ9 (show oSibling T s k p what = (2, 0, T) by unfold oSibling; rw [if_pos ⟨hv2, hv7⟩]; exact if_neg (fun z8 => z9.2.2 z8.1)) (z9.1.trans (by first | rfl | decide)) (by decide) z9.2.1)) (fun h9 e12 => ?_)
  obtain ⟨e12, hv12⟩ := e12
  subst e12
  refine g_iload 17 C dX4_sibling_15 rfl rfl ?_
  refine g_iconst 18 C dX4_sibling_17 rfl ?_
  refine g_S2v 21 4 24 C dX4_sibling_18 rfl lk_RX4_61 gs_X4_checkUpTo ⟨⟨by decide, by decide⟩, by decide, by decide⟩ (Nat.le_of_ble_eq_true rfl) rfl rfl rfl (c_X4_checkUpTo what 4 hl hwhatr (by decide)) (g_thr (n0 := 0) (fun X h9 z9 => thr_ok 2 hJ9 (show oSibling T s k p what = (2, 0, T) by unfold oSibling; rw [if_pos ⟨hv2, hv7⟩]; exact if_neg (fun z8 => z9.2.2 z8.2)) (z9.1.trans (by first | rfl | decide)) (by decide) z9.2.1)) (fun h9 e18 => ?_)
  obtain ⟨e18, hv18⟩ := e18
  subst e18
  refine g_aload_n 22 C dX4_sibling_21 rfl rfl ?_
  refine g_getf 25 C dX4_sibling_22 fl_RX4_10 rfl (by omega) j1 rfl rfl ?_
  refine g_getf 28 C dX4_sibling_25 fl_RX4_41 rfl (by omega) j2.1 rfl rfl ?_
  refine g_iload_n 29 C dX4_sibling_28 rfl rfl ?_
  refine g_aald 30 C dX4_sibling_29 (by omega) jk rfl rfl (by omega) (by decide) (jkf (k) (by omega) (by omega)) rfl ?_
  refine g_iload_n 31 C dX4_sibling_30 rfl rfl ?_
  refine g_iload_n 32 C dX4_sibling_31 rfl rfl ?_
  refine g_iload 34 C dX4_sibling_32 rfl rfl ?_
  refine g_V3r 37 4 24 C dX4_sibling_34 rfl lk_RX4_159 gi_X1_siblingFact gv_X1_siblingFact ⟨_, _, rfl⟩ (by omega) (jK (k) (by omega) (by omega)).1 ⟨⟨by decide, by decide⟩, by decide, by decide⟩ (Nat.le_of_ble_eq_true rfl) rfl rfl rfl (c_sibI (x + 1 + 2 + 21 * (k).toNat) (T.1.1 k) s p what (by omega) (jK k (by omega) (by omega)) (o1 k (by omega) (by omega)) hv2 hv12 hv18) g_no (fun h9 e34 => ?_)
  subst e34
  exact g_iret C dX4_sibling_37 rfl ⟨by decide, by decide⟩ (ret_ok (by unfold oSibling; rw [if_pos ⟨hv2, hv7⟩]; exact if_pos ⟨hv12, hv18⟩) rfl (hJ9) (gKp_rf))
set_option maxRecDepth 100000 in
set_option maxHeartbeats 4000000 in
theorem c_X4_vector {E : gEnv} {n : Nat} {σ : Option Nat} {h : gH} (x : Nat) (T : gTt) (s k w : Int) (hl : E.1.stackTraces = false) (hxb : gB E ≤ x ∧ x + 524 ≤ gB E + n) (hJ : isJ E h x T) (hok : okT T) (hsr : -2147483648 ≤ s ∧ s < 2147483648) (hkr : -2147483648 ≤ k ∧ k < 2147483648) (hwr : -2147483648 ≤ w ∧ w < 2147483648) : gM E mX4_vector [.ref x, .int (gi s), .int (gi k), .int (gi w)] n none h (gRT E h x n (oVector T s k w)) (gXT E h x (exc xIO xIO xIO) (oVector T s k w)) := by
  have hok9 := hok
  have hJ9 := hJ
  obtain ⟨j1, j2, j3, j4, j5, j6⟩ := hJ
  obtain ⟨o1, o2, o3, o4, o5⟩ := hok
  unfold isJo at j1
  have j29 := j2
  obtain ⟨-, ⟨jkk, jk, jkf⟩, jK⟩ := j2
  have j2 := j29
  refine gM_of (by decide) (Nat.le_of_ble_eq_true rfl) (fun F C => ?_)
  refine g_iload_n 1 C dX4_vector_0 rfl rfl ?_
  refine g_iload_n 2 C dX4_vector_1 rfl rfl ?_
  refine g_iload_n 3 C dX4_vector_2 rfl rfl ?_
  refine g_S3v 6 3 18 C dX4_vector_3 rfl lk_RX4_34 gs_X4_checkWriterKeyStore ⟨⟨by decide, by decide⟩, by decide, by decide⟩ (Nat.le_of_ble_eq_true rfl) rfl rfl rfl (c_X4_checkWriterKeyStore w k s hl hwr hkr hsr) (g_thr (n0 := 0) (fun X h9 z9 => thr_ok 1 hJ9 (show oVector T s k w = (1, 0, T) by unfold oVector; exact if_neg z9.2.2) (z9.1.trans (by first | rfl | decide)) (by decide) z9.2.1)) (fun h9 e3 => ?_)
  obtain ⟨e3, hv3⟩ := e3
  subst e3
  refine g_aload_n 7 C dX4_vector_6 rfl rfl ?_
  refine g_getf 10 C dX4_vector_7 fl_RX4_10 rfl (by omega) j1 rfl rfl ?_
  have hKk := jK k (by omega) (by omega)
  have hoK := o1 k (by omega) (by omega)
  obtain ⟨oW, oN, oV, oL⟩ := id hoK
  obtain ⟨k1, ⟨kc, k2, kfc⟩, ⟨kn, k3, kfk⟩, k4, k5, k6⟩ := id hKk
  try dsimp only at k4 k5 k6
  have hcs := k6 s (by omega) (by omega)
  have hls : isC E _ ((x + 1 + 2 + 21 * (k).toNat) + 9 + 4 * (s).toNat) ((T.1.1 k).2.2.1 s) ((T.1.1 k).2.2.2 s) := hcs
  refine g_getf 13 C dX4_vector_10 fl_RX4_41 rfl (by omega) j2.1 rfl rfl ?_
  refine g_iload_n 14 C dX4_vector_13 rfl rfl ?_
  refine g_aald 15 C dX4_vector_14 (by omega) jk rfl rfl (by omega) (by decide) (jkf (k) (by omega) (by omega)) rfl ?_
  refine g_getf 18 C dX4_vector_15 fl_RX4_51 rfl (by omega) k1 rfl rfl ?_
  refine g_iload_n 19 C dX4_vector_18 rfl rfl ?_
  refine g_aald 20 C dX4_vector_19 (by omega) k2 rfl rfl (by omega) (by decide) (kfc (s) (by omega) (by omega)) rfl ?_
  refine g_getf 23 C dX4_vector_20 fl_RX4_162 rfl (by omega) (isC.h0 hls) rfl rfl ?_
  refine g_iload_n 24 C dX4_vector_23 rfl rfl ?_
  refine g_iald 25 C dX4_vector_24 (by omega) (isC.h1 hls) (by omega) (by decide) rfl ?_
  exact g_iret C dX4_vector_25 rfl ⟨by decide, by decide⟩ (ret_ok (by unfold oVector; exact if_pos hv3) rfl (hJ9) (gKp_rf))
set_option maxRecDepth 100000 in
set_option maxHeartbeats 4000000 in
theorem c_X4_knows {E : gEnv} {n : Nat} {σ : Option Nat} {h : gH} (x : Nat) (T : gTt) (w k o : Int) (hl : E.1.stackTraces = false) (hxb : gB E ≤ x ∧ x + 524 ≤ gB E + n) (hJ : isJ E h x T) (hok : okT T) (hwr : -2147483648 ≤ w ∧ w < 2147483648) (hkr : -2147483648 ≤ k ∧ k < 2147483648) (hor : -2147483648 ≤ o ∧ o < 2147483648) : gM E mX4_knows [.ref x, .int (gi w), .int (gi k), .int (gi o)] n none h (gRT E h x n (oKnows T w k o)) (gXT E h x (exc xIO xIO xIO) (oKnows T w k o)) := by
  have hok9 := hok
  have hJ9 := hJ
  obtain ⟨j1, j2, j3, j4, j5, j6⟩ := hJ
  obtain ⟨o1, o2, o3, o4, o5⟩ := hok
  unfold isJo at j1
  have j29 := j2
  obtain ⟨-, ⟨jkk, jk, jkf⟩, jK⟩ := j2
  have j2 := j29
  refine gM_of (by decide) (Nat.le_of_ble_eq_true rfl) (fun F C => ?_)
  refine g_iload_n 1 C dX4_knows_0 rfl rfl ?_
  refine g_iconst 2 C dX4_knows_1 rfl ?_
  refine g_S2v 5 1 6 C dX4_knows_2 rfl lk_RX4_103 gs_X4_checkIndex ⟨⟨by decide, by decide⟩, by decide, by decide⟩ (Nat.le_of_ble_eq_true rfl) rfl rfl rfl (c_X4_checkIndex w 5 hl hwr (by decide)) (g_thr (n0 := 0) (fun X h9 z9 => thr_ok 1 hJ9 (show oKnows T w k o = (1, 0, T) by unfold oKnows; exact if_neg (fun z8 => z9.2.2 z8.1)) (z9.1.trans (by first | rfl | decide)) (by decide) z9.2.1)) (fun h9 e2 => ?_)
  obtain ⟨e2, hv2⟩ := e2
  subst e2
  refine g_iload_n 6 C dX4_knows_5 rfl rfl ?_
  refine g_iconst 7 C dX4_knows_6 rfl ?_
  refine g_S2v 10 2 12 C dX4_knows_7 rfl lk_RX4_103 gs_X4_checkIndex ⟨⟨by decide, by decide⟩, by decide, by decide⟩ (Nat.le_of_ble_eq_true rfl) rfl rfl rfl (c_X4_checkIndex k 3 hl hkr (by decide)) (g_thr (n0 := 0) (fun X h9 z9 => thr_ok 1 hJ9 (show oKnows T w k o = (1, 0, T) by unfold oKnows; exact if_neg (fun z8 => z9.2.2 z8.2.1)) (z9.1.trans (by first | rfl | decide)) (by decide) z9.2.1)) (fun h9 e7 => ?_)
  obtain ⟨e7, hv7⟩ := e7
  subst e7
  refine g_iload_n 11 C dX4_knows_10 rfl rfl ?_
  refine g_iconst 12 C dX4_knows_11 rfl ?_
  refine g_S2v 15 3 18 C dX4_knows_12 rfl lk_RX4_103 gs_X4_checkIndex ⟨⟨by decide, by decide⟩, by decide, by decide⟩ (Nat.le_of_ble_eq_true rfl) rfl rfl rfl (c_X4_checkIndex o 5 hl hor (by decide)) (g_thr (n0 := 0) (fun X h9 z9 => thr_ok 1 hJ9 (show oKnows T w k o = (1, 0, T) by unfold oKnows; exact if_neg (fun z8 => z9.2.2 z8.2.2)) (z9.1.trans (by first | rfl | decide)) (by decide) z9.2.1)) (fun h9 e12 => ?_)
  obtain ⟨e12, hv12⟩ := e12
  subst e12
  refine g_aload_n 16 C dX4_knows_15 rfl rfl ?_
  refine g_getf 19 C dX4_knows_16 fl_RX4_10 rfl (by omega) j1 rfl rfl ?_
  have hKk := jK k (by omega) (by omega)
  have hoK := o1 k (by omega) (by omega)
  obtain ⟨oW, oN, oV, oL⟩ := id hoK
  obtain ⟨k1, ⟨kc, k2, kfc⟩, ⟨kn, k3, kfk⟩, k4, k5, k6⟩ := id hKk
  try dsimp only at k4 k5 k6
  refine g_getf 22 C dX4_knows_19 fl_RX4_41 rfl (by omega) j2.1 rfl rfl ?_
  refine g_iload_n 23 C dX4_knows_22 rfl rfl ?_
  refine g_aald 24 C dX4_knows_23 (by omega) jk rfl rfl (by omega) (by decide) (jkf (k) (by omega) (by omega)) rfl ?_
  refine g_getf 27 C dX4_knows_24 fl_RX4_165 rfl (by omega) k1 rfl rfl ?_
  refine g_iload_n 28 C dX4_knows_27 rfl rfl ?_
  refine g_aald 29 C dX4_knows_28 (by omega) k3 rfl rfl (by omega) (by decide) (kfk (w) (by omega) (by omega)) rfl ?_
  refine g_iload_n 30 C dX4_knows_29 rfl rfl ?_
  refine g_iald 31 C dX4_knows_30 (by omega) (k4 w (by omega) (by omega)) (by omega) (by decide) rfl ?_
  exact g_iret C dX4_knows_31 rfl ⟨by decide, by decide⟩ (ret_ok (by unfold oKnows; exact if_pos ⟨hv2, hv7, hv12⟩) rfl (hJ9) (gKp_rf))
set_option maxRecDepth 100000 in
set_option maxHeartbeats 4000000 in
theorem c_X4_key {E : gEnv} {n : Nat} {σ : Option Nat} {h : gH} (x : Nat) (T : gTt) (k what : Int) (hl : E.1.stackTraces = false) (hxb : gB E ≤ x ∧ x + 524 ≤ gB E + n) (hJ : isJ E h x T) (hok : okT T) (hkr : -2147483648 ≤ k ∧ k < 2147483648) (hwhatr : -2147483648 ≤ what ∧ what < 2147483648) : gM E mX4_key [.ref x, .int (gi k), .int (gi what)] n none h (gRT E h x n (oKey T k what)) (gXT E h x (exc xIO xIA xIA) (oKey T k what)) := by
  have hok9 := hok
  have hJ9 := hJ
  obtain ⟨j1, j2, j3, j4, j5, j6⟩ := hJ
  obtain ⟨o1, o2, o3, o4, o5⟩ := hok
  unfold isJo at j1
  have j29 := j2
  obtain ⟨-, ⟨jkk, jk, jkf⟩, jK⟩ := j2
  have j2 := j29
  refine gM_of (by decide) (Nat.le_of_ble_eq_true rfl) (fun F C => ?_)
  refine g_iload_n 1 C dX4_key_0 rfl rfl ?_
  refine g_iconst 2 C dX4_key_1 rfl ?_
  refine g_S2v 5 1 6 C dX4_key_2 rfl lk_RX4_103 gs_X4_checkIndex ⟨⟨by decide, by decide⟩, by decide, by decide⟩ (Nat.le_of_ble_eq_true rfl) rfl rfl rfl (c_X4_checkIndex k 3 hl hkr (by decide)) (g_thr (n0 := 0) (fun X h9 z9 => thr_ok 1 hJ9 (show oKey T k what = (1, 0, T) by unfold oKey; exact if_neg z9.2.2) (z9.1.trans (by first | rfl | decide)) (by decide) z9.2.1)) (fun h9 e2 => ?_)
  obtain ⟨e2, hv2⟩ := e2
  subst e2
  refine g_iload_n 6 C dX4_key_5 rfl rfl ?_
  refine g_bipush 8 C dX4_key_6 (by decide) rfl ?_
  refine g_S2v 11 2 12 C dX4_key_8 rfl lk_RX4_61 gs_X4_checkUpTo ⟨⟨by decide, by decide⟩, by decide, by decide⟩ (Nat.le_of_ble_eq_true rfl) rfl rfl rfl (c_X4_checkUpTo what 7 hl hwhatr (by decide)) (g_thr (n0 := 0) (fun X h9 z9 => thr_ok 2 hJ9 (show oKey T k what = (2, 0, T) by unfold oKey; rw [if_pos hv2]; exact if_neg z9.2.2) (z9.1.trans (by first | rfl | decide)) (by decide) z9.2.1)) (fun h9 e8 => ?_)
  obtain ⟨e8, hv8⟩ := e8
  subst e8
  refine g_aload_n 12 C dX4_key_11 rfl rfl ?_
  refine g_getf 15 C dX4_key_12 fl_RX4_10 rfl (by omega) j1 rfl rfl ?_
  refine g_getf 18 C dX4_key_15 fl_RX4_41 rfl (by omega) j2.1 rfl rfl ?_
  refine g_iload_n 19 C dX4_key_18 rfl rfl ?_
  refine g_aald 20 C dX4_key_19 (by omega) jk rfl rfl (by omega) (by decide) (jkf (k) (by omega) (by omega)) rfl ?_
  refine g_iload_n 21 C dX4_key_20 rfl rfl ?_
  refine g_V1r 24 2 12 C dX4_key_21 rfl lk_RX4_169 gi_X1_keyFact gv_X1_keyFact ⟨_, _, rfl⟩ (by omega) (jK (k) (by omega) (by omega)).1 ⟨⟨by decide, by decide⟩, by decide, by decide⟩ (Nat.le_of_ble_eq_true rfl) rfl rfl rfl (c_X1_keyFact (x + 1 + 2 + 21 * (k).toNat) (T.1.1 k) what (by omega) (jK k (by omega) (by omega)) (o1 k (by omega) (by omega)) hv8) g_no (fun h9 e21 => ?_)
  subst e21
  exact g_iret C dX4_key_24 rfl ⟨by decide, by decide⟩ (ret_ok (by unfold oKey; rw [if_pos hv2]; exact if_pos hv8) rfl (hJ9) (gKp_rf))
set_option maxRecDepth 100000 in
set_option maxHeartbeats 4000000 in
theorem c_X4_count {E : gEnv} {n : Nat} {σ : Option Nat} {h : gH} (x : Nat) (T : gTt) (what : Int) (hl : E.1.stackTraces = false) (hxb : gB E ≤ x ∧ x + 524 ≤ gB E + n) (hJ : isJ E h x T) (hok : okT T) (hwhatr : -2147483648 ≤ what ∧ what < 2147483648) : gM E mX4_count [.ref x, .int (gi what)] n none h (gRT E h x n (oCount T what)) (gXT E h x (exc xIA xIA xIA) (oCount T what)) := by
  have hok9 := hok
  have hJ9 := hJ
  obtain ⟨j1, j2, j3, j4, j5, j6⟩ := hJ
  obtain ⟨o1, o2, o3, o4, o5⟩ := hok
  unfold isJo at j1
  have j29 := j2
  obtain ⟨-, ⟨jkk, jk, jkf⟩, jK⟩ := j2
  have j2 := j29
  refine gM_of (by decide) (Nat.le_of_ble_eq_true rfl) (fun F C => ?_)
  refine g_iload_n 1 C dX4_count_0 rfl rfl ?_
  refine g_bipush 3 C dX4_count_1 (by decide) rfl ?_
  refine g_S2v 6 1 6 C dX4_count_3 rfl lk_RX4_61 gs_X4_checkUpTo ⟨⟨by decide, by decide⟩, by decide, by decide⟩ (Nat.le_of_ble_eq_true rfl) rfl rfl rfl (c_X4_checkUpTo what 7 hl hwhatr (by decide)) (g_thr (n0 := 0) (fun X h9 z9 => thr_ok 1 hJ9 (show oCount T what = (1, 0, T) by unfold oCount; exact if_neg z9.2.2) (z9.1.trans (by first | rfl | decide)) (by decide) z9.2.1)) (fun h9 e3 => ?_)
  obtain ⟨e3, hv3⟩ := e3
  subst e3
  refine g_aload_n 7 C dX4_count_6 rfl rfl ?_
  refine g_iload_n 8 C dX4_count_7 rfl rfl ?_
  refine g_V1r 11 1 6 C dX4_count_8 rfl lk_RX4_172 gi_X4_tally gv_X4_tally ⟨_, _, rfl⟩ (by omega) j1 ⟨⟨by decide, by decide⟩, by decide, by decide⟩ (Nat.le_of_ble_eq_true rfl) rfl rfl rfl (c_X4_tally x T what hxb hJ9 hok9 hv3) g_no (fun h9 e8 => ?_)
  subst e8
  exact g_iret C dX4_count_11 rfl ⟨by decide, by decide⟩ (ret_ok (by unfold oCount; exact if_pos hv3) rfl (hJ9) (gKp_rf))
set_option maxRecDepth 100000 in
set_option maxHeartbeats 4000000 in
theorem c_X4_ifWritten {E : gEnv} {n : Nat} {σ : Option Nat} {h : gH} (x : Nat) (T : gTt) (w k s what : Int) (hl : E.1.stackTraces = false) (hxb : gB E ≤ x ∧ x + 524 ≤ gB E + n) (hJ : isJ E h x T) (hok : okT T) (hwr : -2147483648 ≤ w ∧ w < 2147483648) (hkr : -2147483648 ≤ k ∧ k < 2147483648) (hsr : -2147483648 ≤ s ∧ s < 2147483648) (hwhatr : -2147483648 ≤ what ∧ what < 2147483648) : gM E mX4_ifWritten [.ref x, .int (gi w), .int (gi k), .int (gi s), .int (gi what)] n none h (gRT E h x n (oIfW T w k s what)) (gXT E h x (exc xIO xIA xIA) (oIfW T w k s what)) := by
  have hok9 := hok
  have hJ9 := hJ
  obtain ⟨j1, j2, j3, j4, j5, j6⟩ := hJ
  obtain ⟨o1, o2, o3, o4, o5⟩ := hok
  unfold isJo at j1
  have j29 := j2
  obtain ⟨-, ⟨jkk, jk, jkf⟩, jK⟩ := j2
  have j2 := j29
  refine gM_of (by decide) (Nat.le_of_ble_eq_true rfl) (fun F C => ?_)
  refine g_iload_n 1 C dX4_ifWritten_0 rfl rfl ?_
  refine g_iload_n 2 C dX4_ifWritten_1 rfl rfl ?_
  refine g_iload_n 3 C dX4_ifWritten_2 rfl rfl ?_
  refine g_S3v 6 3 18 C dX4_ifWritten_3 rfl lk_RX4_34 gs_X4_checkWriterKeyStore ⟨⟨by decide, by decide⟩, by decide, by decide⟩ (Nat.le_of_ble_eq_true rfl) rfl rfl rfl (c_X4_checkWriterKeyStore w k s hl hwr hkr hsr) (g_thr (n0 := 0) (fun X h9 z9 => thr_ok 1 hJ9 (show oIfW T w k s what = (1, 0, T) by unfold oIfW; exact if_neg z9.2.2) (z9.1.trans (by first | rfl | decide)) (by decide) z9.2.1)) (fun h9 e3 => ?_)
  obtain ⟨e3, hv3⟩ := e3
  subst e3
  refine g_iload 8 C dX4_ifWritten_6 rfl rfl ?_
  refine g_iconst 9 C dX4_ifWritten_8 rfl ?_
  refine g_S2v 12 4 24 C dX4_ifWritten_9 rfl lk_RX4_61 gs_X4_checkUpTo ⟨⟨by decide, by decide⟩, by decide, by decide⟩ (Nat.le_of_ble_eq_true rfl) rfl rfl rfl (c_X4_checkUpTo what 1 hl hwhatr (by decide)) (g_thr (n0 := 0) (fun X h9 z9 => thr_ok 2 hJ9 (show oIfW T w k s what = (2, 0, T) by unfold oIfW; rw [if_pos hv3]; exact if_neg z9.2.2) (z9.1.trans (by first | rfl | decide)) (by decide) z9.2.1)) (fun h9 e9 => ?_)
  obtain ⟨e9, hv9⟩ := e9
  subst e9
  refine g_aload_n 13 C dX4_ifWritten_12 rfl rfl ?_
  refine g_getf 16 C dX4_ifWritten_13 fl_RX4_10 rfl (by omega) j1 rfl rfl ?_
  refine g_getf 19 C dX4_ifWritten_16 fl_RX4_41 rfl (by omega) j2.1 rfl rfl ?_
  refine g_iload_n 20 C dX4_ifWritten_19 rfl rfl ?_
  refine g_aald 21 C dX4_ifWritten_20 (by omega) jk rfl rfl (by omega) (by decide) (jkf (k) (by omega) (by omega)) rfl ?_
  refine g_iload_n 22 C dX4_ifWritten_21 rfl rfl ?_
  refine g_iload_n 23 C dX4_ifWritten_22 rfl rfl ?_
  refine g_iload 25 C dX4_ifWritten_23 rfl rfl ?_
  refine g_V3r 28 4 24 C dX4_ifWritten_25 rfl lk_RX4_175 gi_X1_writeOutlook gv_X1_writeOutlook ⟨_, _, rfl⟩ (by omega) (jK (k) (by omega) (by omega)).1 ⟨⟨by decide, by decide⟩, by decide, by decide⟩ (Nat.le_of_ble_eq_true rfl) rfl rfl rfl (c_X1_writeOutlook (x + 1 + 2 + 21 * (k).toNat) (T.1.1 k) w s what (by omega) (jK k (by omega) (by omega)) (o1 k (by omega) (by omega)) hv3.1 hv3.2.2 hv9) g_no (fun h9 e25 => ?_)
  subst e25
  exact g_iret C dX4_ifWritten_28 rfl ⟨by decide, by decide⟩ (ret_ok (by unfold oIfW; rw [if_pos hv3]; exact if_pos hv9) rfl (hJ9) (gKp_rf))
set_option maxRecDepth 100000 in
set_option maxHeartbeats 4000000 in
theorem c_X4_ifPulled {E : gEnv} {n : Nat} {σ : Option Nat} {h : gH} (x : Nat) (T : gTt) (s o k what : Int) (hl : E.1.stackTraces = false) (hxb : gB E ≤ x ∧ x + 524 ≤ gB E + n) (hJ : isJ E h x T) (hok : okT T) (hsr : -2147483648 ≤ s ∧ s < 2147483648) (hor : -2147483648 ≤ o ∧ o < 2147483648) (hkr : -2147483648 ≤ k ∧ k < 2147483648) (hwhatr : -2147483648 ≤ what ∧ what < 2147483648) : gM E mX4_ifPulled [.ref x, .int (gi s), .int (gi o), .int (gi k), .int (gi what)] n none h (gRT E h x n (oIfP T s o k what)) (gXT E h x (exc xIO xIA xIA) (oIfP T s o k what)) := by
  have hok9 := hok
  have hJ9 := hJ
  obtain ⟨j1, j2, j3, j4, j5, j6⟩ := hJ
  obtain ⟨o1, o2, o3, o4, o5⟩ := hok
  unfold isJo at j1
  have j29 := j2
  obtain ⟨-, ⟨jkk, jk, jkf⟩, jK⟩ := j2
  have j2 := j29
  refine gM_of (by decide) (Nat.le_of_ble_eq_true rfl) (fun F C => ?_)
  refine g_iload_n 1 C dX4_ifPulled_0 rfl rfl ?_
  refine g_iload_n 2 C dX4_ifPulled_1 rfl rfl ?_
  refine g_iload_n 3 C dX4_ifPulled_2 rfl rfl ?_
  refine g_S3v 6 4 24 C dX4_ifPulled_3 rfl lk_RX4_79 gs_X4_checkTwoStores ⟨⟨by decide, by decide⟩, by decide, by decide⟩ (Nat.le_of_ble_eq_true rfl) rfl rfl rfl (c_X4_checkTwoStores s o k hl hsr hor hkr) (g_thr (n0 := 0) (fun X h9 z9 => by
    obtain ⟨z1, z2⟩ := z9
    rcases z2 with ⟨z3, z4⟩ | ⟨z3, z4, z5⟩
    · exact thr_ok 1 hJ9 (by unfold oIfP; exact if_neg z4) (z3.trans (by first | rfl | decide)) (by decide) z1
    · exact thr_ok 2 hJ9 (by unfold oIfP; rw [if_pos z4]; exact if_neg (fun z8 => z8.1 z5)) (z3.trans (by first | rfl | decide)) (by decide) z1)) (fun h9 e3 => ?_)
  obtain ⟨e3, hv3⟩ := e3
  subst e3
  refine g_iload 8 C dX4_ifPulled_6 rfl rfl ?_
  refine g_iconst 9 C dX4_ifPulled_8 rfl ?_
  refine g_S2v 12 5 30 C dX4_ifPulled_9 rfl lk_RX4_61 gs_X4_checkUpTo ⟨⟨by decide, by decide⟩, by decide, by decide⟩ (Nat.le_of_ble_eq_true rfl) rfl rfl rfl (c_X4_checkUpTo what 2 hl hwhatr (by decide)) (g_thr (n0 := 0) (fun X h9 z9 => thr_ok 2 hJ9 (show oIfP T s o k what = (2, 0, T) by unfold oIfP; rw [if_pos hv3.1]; exact if_neg (fun z8 => z9.2.2 z8.2)) (z9.1.trans (by first | rfl | decide)) (by decide) z9.2.1)) (fun h9 e9 => ?_)
  obtain ⟨e9, hv9⟩ := e9
  subst e9
  refine g_aload_n 13 C dX4_ifPulled_12 rfl rfl ?_
  refine g_getf 16 C dX4_ifPulled_13 fl_RX4_10 rfl (by omega) j1 rfl rfl ?_
  refine g_getf 19 C dX4_ifPulled_16 fl_RX4_41 rfl (by omega) j2.1 rfl rfl ?_
  refine g_iload_n 20 C dX4_ifPulled_19 rfl rfl ?_
  refine g_aald 21 C dX4_ifPulled_20 (by omega) jk rfl rfl (by omega) (by decide) (jkf (k) (by omega) (by omega)) rfl ?_
  refine g_iload_n 22 C dX4_ifPulled_21 rfl rfl ?_
  refine g_iload_n 23 C dX4_ifPulled_22 rfl rfl ?_
  refine g_iload 25 C dX4_ifPulled_23 rfl rfl ?_
  refine g_V3r 28 5 30 C dX4_ifPulled_25 rfl lk_RX4_178 gi_X1_pullOutlook gv_X1_pullOutlook ⟨_, _, rfl⟩ (by omega) (jK (k) (by omega) (by omega)).1 ⟨⟨by decide, by decide⟩, by decide, by decide⟩ (Nat.le_of_ble_eq_true rfl) rfl rfl rfl (c_X1_pullOutlook (x + 1 + 2 + 21 * (k).toNat) (T.1.1 k) s o what (by omega) (jK k (by omega) (by omega)) (o1 k (by omega) (by omega)) hv3.1.1 hv3.1.2.1 hv9) g_no (fun h9 e25 => ?_)
  subst e25
  exact g_iret C dX4_ifPulled_28 rfl ⟨by decide, by decide⟩ (ret_ok (by unfold oIfP; rw [if_pos hv3.1]; exact if_pos ⟨hv3.2, hv9⟩) rfl (hJ9) (gKp_rf))
set_option maxRecDepth 100000 in
set_option maxHeartbeats 4000000 in
theorem c_X4_whyNot {E : gEnv} {n : Nat} {σ : Option Nat} {h : gH} (x : Nat) (T : gTt) (w k : Int) (hl : E.1.stackTraces = false) (hxb : gB E ≤ x ∧ x + 524 ≤ gB E + n) (hJ : isJ E h x T) (hok : okT T) (hwr : -2147483648 ≤ w ∧ w < 2147483648) (hkr : -2147483648 ≤ k ∧ k < 2147483648) : gM E mX4_whyNot [.ref x, .int (gi w), .int (gi k)] n none h (gRT E h x n (oWhy T w k)) (gXT E h x (exc xIO xIO xIO) (oWhy T w k)) := by
  have hok9 := hok
  have hJ9 := hJ
  obtain ⟨j1, j2, j3, j4, j5, j6⟩ := hJ
  obtain ⟨o1, o2, o3, o4, o5⟩ := hok
  unfold isJo at j1
  have j29 := j2
  obtain ⟨-, ⟨jkk, jk, jkf⟩, jK⟩ := j2
  have j2 := j29
  refine gM_of (by decide) (Nat.le_of_ble_eq_true rfl) (fun F C => ?_)
  refine g_iload_n 1 C dX4_whyNot_0 rfl rfl ?_
  refine g_iconst 2 C dX4_whyNot_1 rfl ?_
  refine g_S2v 5 1 6 C dX4_whyNot_2 rfl lk_RX4_103 gs_X4_checkIndex ⟨⟨by decide, by decide⟩, by decide, by decide⟩ (Nat.le_of_ble_eq_true rfl) rfl rfl rfl (c_X4_checkIndex w 5 hl hwr (by decide)) (g_thr (n0 := 0) (fun X h9 z9 => thr_ok 1 hJ9 (show oWhy T w k = (1, 0, T) by unfold oWhy; exact if_neg (fun z8 => z9.2.2 z8.1)) (z9.1.trans (by first | rfl | decide)) (by decide) z9.2.1)) (fun h9 e2 => ?_)
  obtain ⟨e2, hv2⟩ := e2
  subst e2
  refine g_iload_n 6 C dX4_whyNot_5 rfl rfl ?_
  refine g_iconst 7 C dX4_whyNot_6 rfl ?_
  refine g_S2v 10 2 12 C dX4_whyNot_7 rfl lk_RX4_103 gs_X4_checkIndex ⟨⟨by decide, by decide⟩, by decide, by decide⟩ (Nat.le_of_ble_eq_true rfl) rfl rfl rfl (c_X4_checkIndex k 3 hl hkr (by decide)) (g_thr (n0 := 0) (fun X h9 z9 => thr_ok 1 hJ9 (show oWhy T w k = (1, 0, T) by unfold oWhy; exact if_neg (fun z8 => z9.2.2 z8.2)) (z9.1.trans (by first | rfl | decide)) (by decide) z9.2.1)) (fun h9 e7 => ?_)
  obtain ⟨e7, hv7⟩ := e7
  subst e7
  refine g_aload_n 11 C dX4_whyNot_10 rfl rfl ?_
  refine g_getf 14 C dX4_whyNot_11 fl_RX4_10 rfl (by omega) j1 rfl rfl ?_
  refine g_getf 17 C dX4_whyNot_14 fl_RX4_41 rfl (by omega) j2.1 rfl rfl ?_
  refine g_iload_n 18 C dX4_whyNot_17 rfl rfl ?_
  refine g_aald 19 C dX4_whyNot_18 (by omega) jk rfl rfl (by omega) (by decide) (jkf (k) (by omega) (by omega)) rfl ?_
  refine g_iload_n 20 C dX4_whyNot_19 rfl rfl ?_
  refine g_V1r 23 2 12 C dX4_whyNot_20 rfl lk_RX4_109 gi_X1_hindrance gv_X1_hindrance ⟨_, _, rfl⟩ (by omega) (jK (k) (by omega) (by omega)).1 ⟨⟨by decide, by decide⟩, by decide, by decide⟩ (Nat.le_of_ble_eq_true rfl) rfl rfl rfl (c_X1_hindrance (x + 1 + 2 + 21 * (k).toNat) (T.1.1 k) w (by omega) (jK k (by omega) (by omega)) (o1 k (by omega) (by omega)) hv2) g_no (fun h9 e20 => ?_)
  subst e20
  exact g_iret C dX4_whyNot_23 rfl ⟨by decide, by decide⟩ (ret_ok (by unfold oWhy; exact if_pos ⟨hv2, hv7⟩) rfl (hJ9) (gKp_rf))
set_option maxRecDepth 100000 in
set_option maxHeartbeats 4000000 in
theorem c_X4_runAll {E : gEnv} {n : Nat} {σ : Option Nat} {h : gH} (x : Nat) (T : gTt) (hl : E.1.stackTraces = false) (hxb : gB E ≤ x ∧ x + 524 ≤ gB E + n) (hJ : isJ E h x T) (hok : okT T)  : gM E mX4_runAll [.ref x] n none h (gRT E h x n (oRunAll T)) (gXT E h x (exc xIA xIA xIA) (oRunAll T)) := by
  have hok9 := hok
  have hJ9 := hJ
  obtain ⟨j1, j2, j3, j4, j5, j6⟩ := hJ
  obtain ⟨o1, o2, o3, o4, o5⟩ := hok
  unfold isJo at j1
  have j29 := j2
  obtain ⟨-, ⟨jkk, jk, jkf⟩, jK⟩ := j2
  have j2 := j29
  refine gM_of (by decide) (Nat.le_of_ble_eq_true rfl) (fun F C => ?_)
  refine g_aload_n 1 C dX4_runAll_0 rfl rfl ?_
  refine g_V0r 4 0 0 C dX4_runAll_1 rfl lk_RX4_142 gi_X4_scanBuffer gv_X4_scanBuffer ⟨_, _, rfl⟩ (by omega) j1 ⟨⟨by decide, by decide⟩, by decide, by decide⟩ (Nat.le_of_ble_eq_true rfl) rfl rfl rfl (c_X4_scanBuffer x T hxb hJ9 hok9) g_no (fun h2 e1 => ?_)
  obtain ⟨hk2, P, hP, hPo, hPe⟩ := e1
  have hJ2 := hJ9.setP hP hPo hk2
  have hkA : gKp x (x + 524) h h2 := gKp_wd hk2 (by omega) (by omega)
  have l2 := (hk2 x (by omega)).trans j1
  have lP := hP
  unfold isP at lP
  have hsl := scE_le (f := T.2.2.2) T.2.2.1
  refine g_aload_n 5 C dX4_runAll_4 rfl rfl ?_
  refine g_getf 8 C dX4_runAll_5 fl_RX4_137 rfl (by omega) l2 rfl rfl ?_
  refine g_icmp_lt 21 11 C dX4_runAll_8 rfl rfl (by omega) (by omega) (fun c8 => ?_) (fun c8 => ?_)
  · skip
    have hno : tWh T = false := by
      unfold tWh
      cases e : scP T.2.2.2 T.2.2.1 with
      | none => rfl
      | some Q => exact absurd (scE_of (f := T.2.2.2) (i := T.2.2.1) (by rw [e]; rfl)) (by omega)
    exact g_throw C hl rfl gth_a (i := 5) rfl dX4_runAll_21 dX4_runAll_24 dX4_runAll_25 dX4_runAll_27 dX4_runAll_30 (by decide) (Nat.le_of_ble_eq_true rfl) (by decide) (by decide) (by rw [show oRunAll T = (1, 0, T) by unfold oRunAll; exact if_neg (by rw [hno]; decide)]; exact ⟨by first | rfl | decide, (show (1 : Int) ≠ 0 by decide), hJ2, hkA⟩)
  · skip
    obtain ⟨Pc, hPc, hpe⟩ := hPe (by omega)
    have hwe : tWh T = decide (pLen P.2.1 ≤ (P.1 : Int)) := by
      unfold tWh
      rw [hPc]
      dsimp only
      by_cases z : 1 ≤ P.1
      · rw [hpe.2.1 z, hpe.1]
      · have hl1 := pLen_r P.2.1
        have hl2 := pLen_r Pc.2.1
        have e1 := hpe.1
        rw [decide_eq_false (show ¬ pLen P.2.1 ≤ (P.1 : Int) by omega), decide_eq_false (show ¬ pLen Pc.2.1 ≤ (Pc.1 : Int) by omega)]
    refine g_aload_n 12 C dX4_runAll_11 rfl rfl ?_
    refine g_getf 15 C dX4_runAll_12 fl_RX4_30 rfl (by omega) l2 rfl rfl ?_
    refine g_V0r 18 0 0 C dX4_runAll_15 rfl lk_RX4_146 gi_X2_isWhole gv_X2_isWhole ⟨_, _, rfl⟩ (by omega) lP ⟨⟨by decide, by decide⟩, by decide, by decide⟩ (Nat.le_of_ble_eq_true rfl) rfl rfl rfl (c_X2_isWhole (x + 133) P (by omega) hP hPo) g_no (fun h9 e15 => ?_)
    subst e15
    rw [← hwe]
    refine g_if_ne 31 21 C dX4_runAll_18 rfl rfl (gbi_r _) (fun c18 => ?_) (fun c18 => ?_)
    · skip
      have hyes := gbi_1 c18
      have hwl := of_decide_eq_true (hwe.symm.trans hyes)
      refine g_aload_n 32 C dX4_runAll_31 rfl rfl ?_
      refine g_V0v 35 0 0 C dX4_runAll_32 rfl lk_RX4_38 gi_X4_save gv_X4_save ⟨_, _, rfl⟩ (by omega) l2 ⟨⟨by decide, by decide⟩, by decide, by decide⟩ (Nat.le_of_ble_eq_true rfl) rfl rfl rfl (c_X4_save (σ := none) x T hxb hJ2 hok9) g_no (fun h3 e32 => ?_)
      obtain ⟨hJ3, hk3, -⟩ := e32
      have hJ39 := hJ3
      obtain ⟨n1, n2, n3, n4, n5, ⟨P3, n6, n7⟩⟩ := hJ3
      unfold isJo at n1
      have hos := (okT_save hok9).1
      refine g_aload_n 36 C dX4_runAll_35 rfl rfl ?_
      refine g_V0r 39 0 0 C dX4_runAll_36 rfl lk_RX4_151 gi_X4_runParts gv_X4_runParts ⟨_, _, rfl⟩ (by omega) n1 ⟨⟨by decide, by decide⟩, by decide, by decide⟩ (Nat.le_of_ble_eq_true rfl) rfl rfl rfl (c_X4_runParts x (tSave T) P3 hxb hJ39 hos n6 n7) g_no (fun h4 e36 => ?_)
      obtain ⟨hJ4, hoR, hk4⟩ := e36
      have hwc : pLen Pc.2.1 ≤ (Pc.1 : Int) := by
        have z := hyes
        unfold tWh at z
        rw [hPc] at z
        exact of_decide_eq_true z
      have hr : runL (tSave T).1 (rsP (tSave T).2.2.2 (0, P3.2) 0 (tSave T).2.2.1) = tRun T := peq_run T.2.2.1 0 (0, P3.2) gP0 T.1 (okP_rs n7) okP_0 peq_0 rfl ⟨Pc, by rw [Nat.zero_add]; exact hPc, hwc⟩
      rw [hr] at hJ4 ⊢
      have l4 : isJo h4 x (tSave T).2.1.1 T.2.2.1 := hJ4.1
      have hJ5 := fun (h5 : gH) (z : isJo h5 x (tSave T).2.1.1 0) (zk : gKp x (x + 1) h4 h5) => hJ4.setO z zk (Nat.le_refl _) (Nat.zero_le _)
      unfold isJo at l4
      refine g_istore_n 40 [(1, _), (0, _)] C dX4_runAll_39 (by decide) rfl rfl ?_
      refine g_aload_n 41 C dX4_runAll_40 rfl rfl ?_
      refine g_iconst 42 C dX4_runAll_41 rfl ?_
      refine g_putf 45 C dX4_runAll_42 fp_RX4_137 rfl (by omega) l4 rfl rfl (Nat.le_of_ble_eq_true rfl) rfl ?_
      refine g_iload_n 46 C dX4_runAll_45 rfl rfl ?_
      exact g_iret C dX4_runAll_46 rfl ⟨by decide, by decide⟩ (ret_ok (by unfold oRunAll; exact if_pos hyes) rfl (hJ5 _ up_s (gKp_up (by omega))) (gKp_tr hkA (gKp_tr hk3 (gKp_tr hk4 (gKp_up (by omega))))))
    · skip
      have hno := gbi_0 c18
      exact g_throw C hl rfl gth_a (i := 5) rfl dX4_runAll_21 dX4_runAll_24 dX4_runAll_25 dX4_runAll_27 dX4_runAll_30 (by decide) (Nat.le_of_ble_eq_true rfl) (by decide) (by decide) (by rw [show oRunAll T = (1, 0, T) by unfold oRunAll; exact if_neg (by rw [hno]; decide)]; exact ⟨by first | rfl | decide, (show (1 : Int) ≠ 0 by decide), hJ2, hkA⟩)
