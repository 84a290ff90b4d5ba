/-! SiblingJoins: the public calls; what each of them answers, and leaves -/
/-- 0 or which throw; the answer; what is left -/
abbrev gOut : Type := Int × Int × gTt
def exc (a b c : String) (k : Int) : String := if k = 1 then a else if k = 2 then b else c
abbrev WKS (w k s : Int) : Prop := (0 ≤ w ∧ w < 5) ∧ (0 ≤ k ∧ k < 3) ∧ (0 ≤ s ∧ s < 3)
abbrev SOK (s o k : Int) : Prop := (0 ≤ s ∧ s < 3) ∧ (0 ≤ o ∧ o < 3) ∧ (0 ≤ k ∧ k < 3)
abbrev WK (w k : Int) : Prop := (0 ≤ w ∧ w < 5) ∧ (0 ≤ k ∧ k < 3)
def tKey (S : gSt) (k : Int) (K : gKy) : gSt := (gup S.1 k K, S.2)
def tInc (S : gSt) (j : Int) : gSt := (S.1, gup S.2 j (S.2 j + 1))
def jv0 (l : List (Int × Int)) : Int := (l[0]?.getD (0, 0)).2
def jVal (K : gKy) (s rule : Int) : Int := jval rule (jv0 (K.2.2.2 s)) (K.2.2.2 s)
def oRead (T : gTt) (w k s : Int) : gOut := if WKS w k s then (0, sLen T.1 k s, tKey T.1 k (kLearn (T.1.1 k) w s), (tSave T).2) else (1, 0, T)
def oWrite (T : gTt) (w k s v : Int) : gOut := if WKS w k s then (if 0 ≤ v ∧ v ≤ 99 then (if (T.1.1 k).1 w < 999 ∧ wOut (T.1.1 k) w s 1 ≤ 4 then (0, wDrop (T.1.1 k) w s, sRep T.1 w k s v, (tSave T).2) else (3, 0, T)) else (2, 0, T)) else (1, 0, T)
def oPull (T : gTt) (s o k : Int) : gOut := if SOK s o k then (if s = o then (2, 0, T) else if pOut (T.1.1 k) s o 2 ≤ 4 then (0, pLost (T.1.1 k) s o, sBri T.1 s o k, (tSave T).2) else (3, 0, T)) else (1, 0, T)
def oJoin (T : gTt) (w k s rule : Int) : gOut := if WKS w k s then (if 0 ≤ rule ∧ rule ≤ 3 then (if sLen T.1 k s = 0 ∨ 999 ≤ (T.1.1 k).1 w then (3, 0, T) else (0, jVal (T.1.1 k) s rule, tInc (sRep (tKey T.1 k (kLearn (T.1.1 k) w s)) w k s (jVal (T.1.1 k) s rule)) 4, (tSave T).2)) else (2, 0, T)) else (1, 0, T)
def oLose (T : gTt) (w k : Int) : gOut := if WK w k then (0, kUnlS (T.1.1 k) w, tKey T.1 k (kUnl (T.1.1 k) w), (tSave T).2) else (1, 0, T)
def oForget (T : gTt) (w k : Int) : gOut := if WK w k then (if hind (T.1.1 k) w = 0 then (0, (T.1.1 k).1 w, tInc (tKey T.1 k (kErase (T.1.1 k) w)) 5, (tSave T).2) else (2, 0, T)) else (1, 0, T)
def oPullAll (T : gTt) : gOut := match bAr T.1 27 with
  | none => (1, 0, T)
  | some U => (0, U.2 3 - T.1.2 3, U, (tSave T).2)
def oAppend (T : gTt) (c : Int) : gOut := if 33 ≤ c ∧ c ≤ 126 then (if T.2.2.1 < 60 then (0, (T.2.2.1 : Int) + 1, T.1, T.2.1, (T.2.2.1 + 1, gup T.2.2.2 (T.2.2.1 : Int) c)) else (2, 0, T)) else (1, 0, T)
def oClear (T : gTt) : gOut := (0, (T.2.2.1 : Int), T.1, T.2.1, (0, T.2.2.2))
def oFirst (T : gTt) : gOut := (0, (scE T.2.2.2 T.2.2.1 : Nat), T)
def tWh (T : gTt) : Bool := match scP T.2.2.2 T.2.2.1 with
  | none => false
  | some P => decide (pLen P.2.1 ≤ (P.1 : Int))
def tRun (T : gTt) : Nat × gSt := runL T.1 (rsP T.2.2.2 gP0 0 T.2.2.1)
def oRunAll (T : gTt) : gOut := if tWh T = true then (0, ((tRun T).1 : Nat), (tRun T).2, (tSave T).2.1, (0, T.2.2.2)) else (1, 0, T)
def oUndo (T : gTt) : gOut := if T.2.1.1 = 0 then (1, 0, T) else (0, (T.2.1.1 : Int) - 1, T.2.1.2 ((T.2.1.1 : Int) - 1), (T.2.1.1 - 1, T.2.1.2), T.2.2)
def oSibling (T : gTt) (s k p what : Int) : gOut := if (0 ≤ s ∧ s < 3) ∧ (0 ≤ k ∧ k < 3) then (if (0 ≤ p ∧ p ≤ 3) ∧ (0 ≤ what ∧ what ≤ 4) then (0, sibF (T.1.1 k) s p what, T) else (2, 0, T)) else (1, 0, T)
def oVector (T : gTt) (s k w : Int) : gOut := if WKS w k s then (0, (T.1.1 k).2.2.1 s w, T) else (1, 0, T)
def oKnows (T : gTt) (w k o : Int) : gOut := if (0 ≤ w ∧ w < 5) ∧ (0 ≤ k ∧ k < 3) ∧ (0 ≤ o ∧ o < 5) then (0, (T.1.1 k).2.1 w o, T) else (1, 0, T)
def oKey (T : gTt) (k what : Int) : gOut := if 0 ≤ k ∧ k < 3 then (if 0 ≤ what ∧ what ≤ 7 then (0, keyF (T.1.1 k) what, T) else (2, 0, T)) else (1, 0, T)
def oCount (T : gTt) (what : Int) : gOut := if 0 ≤ what ∧ what ≤ 7 then (0, tTal T what, T) else (1, 0, T)
def oIfW (T : gTt) (w k s what : Int) : gOut := if WKS w k s then (if 0 ≤ what ∧ what ≤ 1 then (0, wOut (T.1.1 k) w s what, T) else (2, 0, T)) else (1, 0, T)
def oIfP (T : gTt) (s o k what : Int) : gOut := if SOK s o k then (if s ≠ o ∧ (0 ≤ what ∧ what ≤ 2) then (0, pOut (T.1.1 k) s o what, T) else (2, 0, T)) else (1, 0, T)
def oWhy (T : gTt) (w k : Int) : gOut := if WK w k then (0, hind (T.1.1 k) w, T) else (1, 0, T)
abbrev gRT (E : gEnv) (h : gH) (x n : Nat) (O : gOut) : gQt := gD (some (.int (gi O.2.1))) n none (fun h9 => O.1 = 0 ∧ isJ E h9 x O.2.2 ∧ gKp x (x + 524) h h9)
abbrev gXT (E : gEnv) (h : gH) (x : Nat) (f : Int → String) (O : gOut) : String → gH → Prop := fun X h9 => X = f O.1 ∧ O.1 ≠ 0 ∧ isJ E h9 x O.2.2 ∧ gKp x (x + 524) h h9
theorem thr_ok {E : gEnv} {h h9 : gH} {x : Nat} {T : gTt} {X : String} {O : gOut} {f : Int → String} (c : Int) (hJ : isJ E h x T) (e : O = (c, 0, T)) (hX : X = f c) (hc : c ≠ 0) (hh : h9 = h) : gXT E h x f O X h9 := by
  subst e
  subst hh
  exact ⟨hX, hc, hJ, gKp_rf⟩
theorem ret_ok {E : gEnv} {h h9 : gH} {x n : Nat} {T' : gTt} {O : gOut} {v : Int} {r : Value} (e : O = (0, v, T')) (hr : r = .int (gi v)) (hJ : isJ E h9 x T') (hk : gKp x (x + 524) h h9) : gRT E h x n O (some r) n none h9 := by
  subst e
  subst hr
  exact ⟨rfl, rfl, rfl, rfl, hJ, hk⟩
theorem hind_r (K : gKy) (w : Int) : 0 ≤ hind K w ∧ hind K w ≤ 2 := by
  unfold hind
  split
  · decide
  · split <;> decide

set_option maxRecDepth 100000 in
set_option maxHeartbeats 4000000 in
theorem c_X4_read {E : gEnv} {n : Nat} {σ : Option Nat} {h : gH} (x : Nat) (T : gTt) (w k s : Int) (hl : E.1.stackTraces = false) (hxb : gB E ≤ x ∧ x + 524 ≤ gB E + n) (hJ : isJ E h x T) (hok : okT T) (hwr : -2147483648 ≤ w ∧ w < 2147483648) (hkr : -2147483648 ≤ k ∧ k < 2147483648) (hsr : -2147483648 ≤ s ∧ s < 2147483648) : gM E mX4_read [.ref x, .int (gi w), .int (gi k), .int (gi s)] n none h (gRT E h x n (oRead T w k s)) (gXT E h x (exc xIO xIO xIO) (oRead T w k s)) := by
  have hok9 := hok
  have hJ9 := hJ
  obtain ⟨j1, j2, j3, j4, j5, j6⟩ := hJ
  obtain ⟨o1, o2, o3, o4, o5⟩ := hok
  unfold isJo at j1
  have j29 := j2
  obtain ⟨-, ⟨jkk, jk, jkf⟩, jK⟩ := j2
  have j2 := j29
  refine gM_of (by decide) (Nat.le_of_ble_eq_true rfl) (fun F C => ?_)
  refine g_iload_n 1 C dX4_read_0 rfl rfl ?_
  refine g_iload_n 2 C dX4_read_1 rfl rfl ?_
  refine g_iload_n 3 C dX4_read_2 rfl rfl ?_
  refine g_S3v 6 3 18 C dX4_read_3 rfl lk_RX4_34 gs_X4_checkWriterKeyStore ⟨⟨by decide, by decide⟩, by decide, by decide⟩ (Nat.le_of_ble_eq_true rfl) rfl rfl rfl (c_X4_checkWriterKeyStore w k s hl hwr hkr hsr) (g_thr (n0 := 0) (fun X h9 z9 => thr_ok 1 hJ9 (show oRead T w k s = (1, 0, T) by unfold oRead; exact if_neg z9.2.2) (z9.1.trans (by first | rfl | decide)) (by decide) z9.2.1)) (fun h9 e3 => ?_)
  obtain ⟨e3, hv3⟩ := e3
  subst e3
  refine g_aload_n 7 C dX4_read_6 rfl rfl ?_
  refine g_V0v 10 3 18 C dX4_read_7 rfl lk_RX4_38 gi_X4_save gv_X4_save ⟨_, _, rfl⟩ (by omega) j1 ⟨⟨by decide, by decide⟩, by decide, by decide⟩ (Nat.le_of_ble_eq_true rfl) rfl rfl rfl (c_X4_save (σ := none) x T hxb hJ9 hok9) g_no (fun h2 e7 => ?_)
  obtain ⟨hJ2, hk2, hkt⟩ := e7
  obtain ⟨j1, j2, j3, j4, j5, j6⟩ := id hJ2
  have j2 : isS E h2 (x + 1) T.1 := j2
  unfold isJo at j1
  obtain ⟨-, ⟨jkk, jk, jkf⟩, jK⟩ := id j2
  have hKk := jK k (by omega) (by omega)
  have hoK := o1 k (by omega) (by omega)
  obtain ⟨oW, oN, oV, oL⟩ := id hoK
  obtain ⟨k1, ⟨kc, k2, kfc⟩, ⟨kn, k3, kfk⟩, k4, k5, k6⟩ := id hKk
  try dsimp only at k4 k5 k6
  refine g_aload_n 11 C dX4_read_10 rfl rfl ?_
  refine g_getf 14 C dX4_read_11 fl_RX4_10 rfl (by omega) j1 rfl rfl ?_
  refine g_getf 17 C dX4_read_14 fl_RX4_41 rfl (by omega) j2.1 rfl rfl ?_
  refine g_iload_n 18 C dX4_read_17 rfl rfl ?_
  refine g_aald 19 C dX4_read_18 (by omega) jk rfl rfl (by omega) (by decide) (jkf (k) (by omega) (by omega)) rfl ?_
  refine g_astore 21 [(4, _), (0, _), (1, _), (2, _), (3, _)] C dX4_read_19 (by decide) rfl rfl ?_
  refine g_aload 23 C dX4_read_21 rfl rfl ?_
  refine g_iload_n 24 C dX4_read_23 rfl rfl ?_
  refine g_iload_n 25 C dX4_read_24 rfl rfl ?_
  refine g_V2v 28 3 18 C dX4_read_25 rfl lk_RX4_45 gi_X1_learn gv_X1_learn ⟨_, _, rfl⟩ (by omega) k1 ⟨⟨by decide, by decide⟩, by decide, by decide⟩ (Nat.le_of_ble_eq_true rfl) rfl rfl rfl (c_X1_learn (x + 1 + 2 + 21 * (k).toNat) (T.1.1 k) w s (by omega) hKk hoK hv3.1 hv3.2.2) g_no (fun h3 e25 => ?_)
  obtain ⟨hc3, hk3⟩ := e25
  have hS3 := j2.setK (k := k) (by omega) (by omega) hc3 hk3
  have hJ3 := hJ2.setS hS3 (gKp_wd hk3 (by omega) (by omega))
  obtain ⟨k1, ⟨kc, k2, kfc⟩, ⟨kn, k3, kfk⟩, k4, k5, k6⟩ := id hc3
  try dsimp only at k4 k5 k6
  have hcs := k6 s (by omega) (by omega)
  have hls : isC E h3 ((x + 1 + 2 + 21 * (k).toNat) + 9 + 4 * (s).toNat) ((T.1.1 k).2.2.1 s) ((T.1.1 k).2.2.2 s) := hcs
  refine g_aload 30 C dX4_read_28 rfl rfl ?_
  refine g_getf 33 C dX4_read_30 fl_RX4_51 rfl (by omega) k1 rfl rfl ?_
  refine g_iload_n 34 C dX4_read_33 rfl rfl ?_
  refine g_aald 35 C dX4_read_34 (by omega) k2 rfl rfl (by omega) (by decide) (kfc (s) (by omega) (by omega)) rfl ?_
  refine g_getf 38 C dX4_read_35 fl_RX4_55 rfl (by omega) (isC.h0 hls) rfl rfl ?_
  exact g_iret C dX4_read_38 rfl ⟨by decide, by decide⟩ (ret_ok (by unfold oRead; exact if_pos hv3) rfl (hJ3) (gKp_tr hk2 (gKp_wd hk3 (by omega) (by omega))))
set_option maxRecDepth 100000 in
set_option maxHeartbeats 4000000 in
theorem c_X4_write {E : gEnv} {n : Nat} {σ : Option Nat} {h : gH} (x : Nat) (T : gTt) (w k s v : Int) (hl : E.1.stackTraces = false) (hxb : gB E ≤ x ∧ x + 524 ≤ gB E + n) (hJ : isJ E h x T) (hok : okT T) (hwr : -2147483648 ≤ w ∧ w < 2147483648) (hkr : -2147483648 ≤ k ∧ k < 2147483648) (hsr : -2147483648 ≤ s ∧ s < 2147483648) (hvr : -2147483648 ≤ v ∧ v < 2147483648) : gM E mX4_write [.ref x, .int (gi w), .int (gi k), .int (gi s), .int (gi v)] n none h (gRT E h x n (oWrite T w k s v)) (gXT E h x (exc xIO xIA xIS) (oWrite T w k s v)) := by
  have hok9 := hok
  have hJ9 := hJ
  obtain ⟨j1, j2, j3, j4, j5, j6⟩ := hJ
  obtain ⟨o1, o2, o3, o4, o5⟩ := hok
  unfold isJo at j1
  have j29 := j2
  obtain ⟨-, ⟨jkk, jk, jkf⟩, jK⟩ := j2
  have j2 := j29
  refine gM_of (by decide) (Nat.le_of_ble_eq_true rfl) (fun F C => ?_)
  refine g_iload_n 1 C dX4_write_0 rfl rfl ?_
  refine g_iload_n 2 C dX4_write_1 rfl rfl ?_
  refine g_iload_n 3 C dX4_write_2 rfl rfl ?_
  refine g_S3v 6 3 18 C dX4_write_3 rfl lk_RX4_34 gs_X4_checkWriterKeyStore ⟨⟨by decide, by decide⟩, by decide, by decide⟩ (Nat.le_of_ble_eq_true rfl) rfl rfl rfl (c_X4_checkWriterKeyStore w k s hl hwr hkr hsr) (g_thr (n0 := 0) (fun X h9 z9 => thr_ok 1 hJ9 (show oWrite T w k s v = (1, 0, T) by unfold oWrite; exact if_neg z9.2.2) (z9.1.trans (by first | rfl | decide)) (by decide) z9.2.1)) (fun h9 e3 => ?_)
  obtain ⟨e3, hv3⟩ := e3
  subst e3
  refine g_iload 8 C dX4_write_6 rfl rfl ?_
  refine g_bipush 10 C dX4_write_8 (by decide) rfl ?_
  refine g_S2v 13 4 24 C dX4_write_10 rfl lk_RX4_61 gs_X4_checkUpTo ⟨⟨by decide, by decide⟩, by decide, by decide⟩ (Nat.le_of_ble_eq_true rfl) rfl rfl rfl (c_X4_checkUpTo v 99 hl hvr (by decide)) (g_thr (n0 := 0) (fun X h9 z9 => thr_ok 2 hJ9 (show oWrite T w k s v = (2, 0, T) by unfold oWrite; rw [if_pos hv3]; exact if_neg z9.2.2) (z9.1.trans (by first | rfl | decide)) (by decide) z9.2.1)) (fun h9 e10 => ?_)
  obtain ⟨e10, hv10⟩ := e10
  subst e10
  refine g_aload_n 14 C dX4_write_13 rfl rfl ?_
  refine g_getf 17 C dX4_write_14 fl_RX4_10 rfl (by omega) j1 rfl rfl ?_
  refine g_getf 20 C dX4_write_17 fl_RX4_41 rfl (by omega) j2.1 rfl rfl ?_
  refine g_iload_n 21 C dX4_write_20 rfl rfl ?_
  refine g_aald 22 C dX4_write_21 (by omega) jk rfl rfl (by omega) (by decide) (jkf (k) (by omega) (by omega)) rfl ?_
  refine g_iload_n 23 C dX4_write_22 rfl rfl ?_
  refine g_iload_n 24 C dX4_write_23 rfl rfl ?_
  refine g_V2r 27 4 24 C dX4_write_24 rfl lk_RX4_64 gi_X1_mayWrite gv_X1_mayWrite ⟨_, _, rfl⟩ (by omega) (jK (k) (by omega) (by omega)).1 ⟨⟨by decide, by decide⟩, by decide, by decide⟩ (Nat.le_of_ble_eq_true rfl) rfl rfl rfl (c_X1_mayWrite (x + 1 + 2 + 21 * (k).toNat) (T.1.1 k) w s (by omega) (jK k (by omega) (by omega)) (o1 k (by omega) (by omega)) hv3.1 hv3.2.2) g_no (fun h9 e24 => ?_)
  subst e24
  refine g_if_ne 40 30 C dX4_write_27 rfl rfl (gbi_r _) (fun c27 => ?_) (fun c27 => ?_)
  · skip
    have hm := of_decide_eq_true (gbi_1 c27)
    refine g_aload_n 41 C dX4_write_40 rfl rfl ?_
    refine g_V0v 44 4 24 C dX4_write_41 rfl lk_RX4_38 gi_X4_save gv_X4_save ⟨_, _, rfl⟩ (by omega) j1 ⟨⟨by decide, by decide⟩, by decide, by decide⟩ (Nat.le_of_ble_eq_true rfl) rfl rfl rfl (c_X4_save (σ := none) x T hxb hJ9 hok9) g_no (fun h2 e41 => ?_)
    obtain ⟨hJ2, hk2, hkt⟩ := e41
    obtain ⟨j1, j2, j3, j4, j5, j6⟩ := id hJ2
    have j2 : isS E h2 (x + 1) T.1 := j2
    unfold isJo at j1
    obtain ⟨-, ⟨jkk, jk, jkf⟩, jK⟩ := id j2
    
    refine g_aload_n 45 C dX4_write_44 rfl rfl ?_
    refine g_getf 48 C dX4_write_45 fl_RX4_10 rfl (by omega) j1 rfl rfl ?_
    refine g_iload_n 49 C dX4_write_48 rfl rfl ?_
    refine g_iload_n 50 C dX4_write_49 rfl rfl ?_
    refine g_iload_n 51 C dX4_write_50 rfl rfl ?_
    refine g_iload 53 C dX4_write_51 rfl rfl ?_
    refine g_V4r 56 4 24 C dX4_write_53 rfl lk_RX4_75 gi_X3_replace gv_X3_replace ⟨_, _, rfl⟩ (by omega) j2.1 ⟨⟨by decide, by decide⟩, by decide, by decide⟩ (Nat.le_of_ble_eq_true rfl) rfl rfl rfl (c_X3_replace (x + 1) T.1 w k s v (by omega) j2 o1 hv3.1 hv3.2.1 hv3.2.2 hm.1) g_no (fun h3 e53 => ?_)
    obtain ⟨hS3, hk3⟩ := e53
    have hJ3 := hJ2.setS hS3 (gKp_wd hk3 (by omega) (by omega))
    exact g_iret C dX4_write_56 rfl ⟨by decide, by decide⟩ (ret_ok (by unfold oWrite; rw [if_pos hv3, if_pos hv10]; exact if_pos hm) rfl (hJ3) (gKp_tr hk2 (gKp_wd hk3 (by omega) (by omega))))
  · skip
    have hm := of_decide_eq_false (gbi_0 c27)
    exact g_throw C hl rfl gth_s (i := 10) rfl dX4_write_30 dX4_write_33 dX4_write_34 dX4_write_36 dX4_write_39 (by decide) (Nat.le_of_ble_eq_true rfl) (by decide) (by decide) (thr_ok 3 hJ9 (by unfold oWrite; rw [if_pos hv3, if_pos hv10]; exact if_neg hm) (by first | rfl | decide) (by decide) rfl)
set_option maxRecDepth 100000 in
set_option maxHeartbeats 4000000 in
theorem c_X4_pull {E : gEnv} {n : Nat} {σ : Option Nat} {h : gH} (x : Nat) (T : gTt) (s o k : Int) (hl : E.1.stackTraces = false) (hxb : gB E ≤ x ∧ x + 524 ≤ gB E + n) (hJ : isJ E h x T) (hok : okT T) (hsr : -2147483648 ≤ s ∧ s < 2147483648) (hor : -2147483648 ≤ o ∧ o < 2147483648) (hkr : -2147483648 ≤ k ∧ k < 2147483648) : gM E mX4_pull [.ref x, .int (gi s), .int (gi o), .int (gi k)] n none h (gRT E h x n (oPull T s o k)) (gXT E h x (exc xIO xIA xIS) (oPull T s o k)) := by
  have hok9 := hok
  have hJ9 := hJ
  obtain ⟨j1, j2, j3, j4, j5, j6⟩ := hJ
  obtain ⟨o1, o2, o3, o4, o5⟩ := hok
  unfold isJo at j1
  have j29 := j2
  obtain ⟨-, ⟨jkk, jk, jkf⟩, jK⟩ := j2
  have j2 := j29
  refine gM_of (by decide) (Nat.le_of_ble_eq_true rfl) (fun F C => ?_)
  refine g_iload_n 1 C dX4_pull_0 rfl rfl ?_
  refine g_iload_n 2 C dX4_pull_1 rfl rfl ?_
  refine g_iload_n 3 C dX4_pull_2 rfl rfl ?_
  refine g_S3v 6 4 24 C dX4_pull_3 rfl lk_RX4_79 gs_X4_checkTwoStores ⟨⟨by decide, by decide⟩, by decide, by decide⟩ (Nat.le_of_ble_eq_true rfl) rfl rfl rfl (c_X4_checkTwoStores s o k hl hsr hor hkr) (g_thr (n0 := 0) (fun X h9 z9 => by
    obtain ⟨z1, z2⟩ := z9
    rcases z2 with ⟨z3, z4⟩ | ⟨z3, z4, z5⟩
    · exact thr_ok 1 hJ9 (by unfold oPull; exact if_neg z4) (z3.trans (by first | rfl | decide)) (by decide) z1
    · exact thr_ok 2 hJ9 (by unfold oPull; rw [if_pos z4]; exact if_pos z5) (z3.trans (by first | rfl | decide)) (by decide) z1)) (fun h9 e3 => ?_)
  obtain ⟨e3, hv3⟩ := e3
  subst e3
  refine g_aload_n 7 C dX4_pull_6 rfl rfl ?_
  refine g_getf 10 C dX4_pull_7 fl_RX4_10 rfl (by omega) j1 rfl rfl ?_
  refine g_getf 13 C dX4_pull_10 fl_RX4_41 rfl (by omega) j2.1 rfl rfl ?_
  refine g_iload_n 14 C dX4_pull_13 rfl rfl ?_
  refine g_aald 15 C dX4_pull_14 (by omega) jk rfl rfl (by omega) (by decide) (jkf (k) (by omega) (by omega)) rfl ?_
  refine g_iload_n 16 C dX4_pull_15 rfl rfl ?_
  refine g_iload_n 17 C dX4_pull_16 rfl rfl ?_
  refine g_V2r 20 4 24 C dX4_pull_17 rfl lk_RX4_82 gi_X1_mayPull gv_X1_mayPull ⟨_, _, rfl⟩ (by omega) (jK (k) (by omega) (by omega)).1 ⟨⟨by decide, by decide⟩, by decide, by decide⟩ (Nat.le_of_ble_eq_true rfl) rfl rfl rfl (c_X1_mayPull (x + 1 + 2 + 21 * (k).toNat) (T.1.1 k) s o (by omega) (jK k (by omega) (by omega)) (o1 k (by omega) (by omega)) hv3.1.1 hv3.1.2.1) g_no (fun h9 e17 => ?_)
  subst e17
  refine g_if_ne 33 23 C dX4_pull_20 rfl rfl (gbi_r _) (fun c20 => ?_) (fun c20 => ?_)
  · skip
    have hm := of_decide_eq_true (gbi_1 c20)
    refine g_aload_n 34 C dX4_pull_33 rfl rfl ?_
    refine g_V0v 37 4 24 C dX4_pull_34 rfl lk_RX4_38 gi_X4_save gv_X4_save ⟨_, _, rfl⟩ (by omega) j1 ⟨⟨by decide, by decide⟩, by decide, by decide⟩ (Nat.le_of_ble_eq_true rfl) rfl rfl rfl (c_X4_save (σ := none) x T hxb hJ9 hok9) g_no (fun h2 e34 => ?_)
    obtain ⟨hJ2, hk2, hkt⟩ := e34
    obtain ⟨j1, j2, j3, j4, j5, j6⟩ := id hJ2
    have j2 : isS E h2 (x + 1) T.1 := j2
    unfold isJo at j1
    obtain ⟨-, ⟨jkk, jk, jkf⟩, jK⟩ := id j2
    
    refine g_aload_n 38 C dX4_pull_37 rfl rfl ?_
    refine g_getf 41 C dX4_pull_38 fl_RX4_10 rfl (by omega) j1 rfl rfl ?_
    refine g_iload_n 42 C dX4_pull_41 rfl rfl ?_
    refine g_iload_n 43 C dX4_pull_42 rfl rfl ?_
    refine g_iload_n 44 C dX4_pull_43 rfl rfl ?_
    refine g_V3r 47 4 24 C dX4_pull_44 rfl lk_RX4_87 gi_X3_bring gv_X3_bring ⟨_, _, rfl⟩ (by omega) j2.1 ⟨⟨by decide, by decide⟩, by decide, by decide⟩ (Nat.le_of_ble_eq_true rfl) rfl rfl rfl (c_X3_bring (x + 1) T.1 s o k (by omega) j2 o1 hv3.1.1 hv3.1.2.1 hv3.1.2.2 hv3.2) g_no (fun h3 e44 => ?_)
    obtain ⟨hS3, hk3⟩ := e44
    have hJ3 := hJ2.setS hS3 (gKp_wd hk3 (by omega) (by omega))
    exact g_iret C dX4_pull_47 rfl ⟨by decide, by decide⟩ (ret_ok (by unfold oPull; rw [if_pos hv3.1, if_neg hv3.2]; exact if_pos hm) rfl (hJ3) (gKp_tr hk2 (gKp_wd hk3 (by omega) (by omega))))
  · skip
    have hm := of_decide_eq_false (gbi_0 c20)
    exact g_throw C hl rfl gth_s (i := 11) rfl dX4_pull_23 dX4_pull_26 dX4_pull_27 dX4_pull_29 dX4_pull_32 (by decide) (Nat.le_of_ble_eq_true rfl) (by decide) (by decide) (thr_ok 3 hJ9 (by unfold oPull; rw [if_pos hv3.1, if_neg hv3.2]; exact if_neg hm) (by first | rfl | decide) (by decide) rfl)
set_option maxRecDepth 100000 in
set_option maxHeartbeats 4000000 in
theorem c_X4_lose {E : gEnv} {n : Nat} {σ : Option Nat} {h : gH} (x : Nat) (T : gTt) (w k : Int) (hl : E.1.stackTraces = false) (hxb : gB E ≤ x ∧ x + 524 ≤ gB E + n) (hJ : isJ E h x T) (hok : okT T) (hwr : -2147483648 ≤ w ∧ w < 2147483648) (hkr : -2147483648 ≤ k ∧ k < 2147483648) : gM E mX4_lose [.ref x, .int (gi w), .int (gi k)] n none h (gRT E h x n (oLose T w k)) (gXT E h x (exc xIO xIO xIO) (oLose T w k)) := by
  have hok9 := hok
  have hJ9 := hJ
  obtain ⟨j1, j2, j3, j4, j5, j6⟩ := hJ
  obtain ⟨o1, o2, o3, o4, o5⟩ := hok
  unfold isJo at j1
  have j29 := j2
  obtain ⟨-, ⟨jkk, jk, jkf⟩, jK⟩ := j2
  have j2 := j29
  refine gM_of (by decide) (Nat.le_of_ble_eq_true rfl) (fun F C => ?_)
  refine g_iload_n 1 C dX4_lose_0 rfl rfl ?_
  refine g_iconst 2 C dX4_lose_1 rfl ?_
  refine g_S2v 5 1 6 C dX4_lose_2 rfl lk_RX4_103 gs_X4_checkIndex ⟨⟨by decide, by decide⟩, by decide, by decide⟩ (Nat.le_of_ble_eq_true rfl) rfl rfl rfl (c_X4_checkIndex w 5 hl hwr (by decide)) (g_thr (n0 := 0) (fun X h9 z9 => thr_ok 1 hJ9 (show oLose T w k = (1, 0, T) by unfold oLose; exact if_neg (fun z8 => z9.2.2 z8.1)) (z9.1.trans (by first | rfl | decide)) (by decide) z9.2.1)) (fun h9 e2 => ?_)
  obtain ⟨e2, hv2⟩ := e2
  subst e2
  refine g_iload_n 6 C dX4_lose_5 rfl rfl ?_
  refine g_iconst 7 C dX4_lose_6 rfl ?_
  refine g_S2v 10 2 12 C dX4_lose_7 rfl lk_RX4_103 gs_X4_checkIndex ⟨⟨by decide, by decide⟩, by decide, by decide⟩ (Nat.le_of_ble_eq_true rfl) rfl rfl rfl (c_X4_checkIndex k 3 hl hkr (by decide)) (g_thr (n0 := 0) (fun X h9 z9 => thr_ok 1 hJ9 (show oLose T w k = (1, 0, T) by unfold oLose; exact if_neg (fun z8 => z9.2.2 z8.2)) (z9.1.trans (by first | rfl | decide)) (by decide) z9.2.1)) (fun h9 e7 => ?_)
  obtain ⟨e7, hv7⟩ := e7
  subst e7
  refine g_aload_n 11 C dX4_lose_10 rfl rfl ?_
  refine g_V0v 14 2 12 C dX4_lose_11 rfl lk_RX4_38 gi_X4_save gv_X4_save ⟨_, _, rfl⟩ (by omega) j1 ⟨⟨by decide, by decide⟩, by decide, by decide⟩ (Nat.le_of_ble_eq_true rfl) rfl rfl rfl (c_X4_save (σ := none) x T hxb hJ9 hok9) g_no (fun h2 e11 => ?_)
  obtain ⟨hJ2, hk2, hkt⟩ := e11
  obtain ⟨j1, j2, j3, j4, j5, j6⟩ := id hJ2
  have j2 : isS E h2 (x + 1) T.1 := j2
  unfold isJo at j1
  obtain ⟨-, ⟨jkk, jk, jkf⟩, jK⟩ := id j2
  
  refine g_aload_n 15 C dX4_lose_14 rfl rfl ?_
  refine g_getf 18 C dX4_lose_15 fl_RX4_10 rfl (by omega) j1 rfl rfl ?_
  refine g_getf 21 C dX4_lose_18 fl_RX4_41 rfl (by omega) j2.1 rfl rfl ?_
  refine g_iload_n 22 C dX4_lose_21 rfl rfl ?_
  refine g_aald 23 C dX4_lose_22 (by omega) jk rfl rfl (by omega) (by decide) (jkf (k) (by omega) (by omega)) rfl ?_
  refine g_iload_n 24 C dX4_lose_23 rfl rfl ?_
  refine g_V1r 27 2 12 C dX4_lose_24 rfl lk_RX4_106 gi_X1_unlearn gv_X1_unlearn ⟨_, _, rfl⟩ (by omega) (jK (k) (by omega) (by omega)).1 ⟨⟨by decide, by decide⟩, by decide, by decide⟩ (Nat.le_of_ble_eq_true rfl) rfl rfl rfl (c_X1_unlearn (x + 1 + 2 + 21 * (k).toNat) (T.1.1 k) w (by omega) (jK k (by omega) (by omega)) (o1 k (by omega) (by omega)) hv2) g_no (fun h3 e24 => ?_)
  obtain ⟨hc3, hk3⟩ := e24
  have hS3 := j2.setK (k := k) (by omega) (by omega) hc3 hk3
  have hJ3 := hJ2.setS hS3 (gKp_wd hk3 (by omega) (by omega))
  exact g_iret C dX4_lose_27 rfl ⟨by decide, by decide⟩ (ret_ok (by unfold oLose; exact if_pos ⟨hv2, hv7⟩) rfl (hJ3) (gKp_tr hk2 (gKp_wd hk3 (by omega) (by omega))))
set_option maxRecDepth 100000 in
set_option maxHeartbeats 4000000 in
theorem c_X4_forget {E : gEnv} {n : Nat} {σ : Option Nat} {h : gH} (x : Nat) (T : gTt) (w k : Int) (hl : E.1.stackTraces = false) (hxb : gB E ≤ x ∧ x + 524 ≤ gB E + n) (hJ : isJ E h x T) (hok : okT T) (hwr : -2147483648 ≤ w ∧ w < 2147483648) (hkr : -2147483648 ≤ k ∧ k < 2147483648) : gM E mX4_forget [.ref x, .int (gi w), .int (gi k)] n none h (gRT E h x n (oForget T w k)) (gXT E h x (exc xIO xIS xIS) (oForget T w k)) := by
  have hok9 := hok
  have hJ9 := hJ
  obtain ⟨j1, j2, j3, j4, j5, j6⟩ := hJ
  obtain ⟨o1, o2, o3, o4, o5⟩ := hok
  unfold isJo at j1
  have j29 := j2
  obtain ⟨-, ⟨jkk, jk, jkf⟩, jK⟩ := j2
  have j2 := j29
  refine gM_of (by decide) (Nat.le_of_ble_eq_true rfl) (fun F C => ?_)
  refine g_iload_n 1 C dX4_forget_0 rfl rfl ?_
  refine g_iconst 2 C dX4_forget_1 rfl ?_
  refine g_S2v 5 1 6 C dX4_forget_2 rfl lk_RX4_103 gs_X4_checkIndex ⟨⟨by decide, by decide⟩, by decide, by decide⟩ (Nat.le_of_ble_eq_true rfl) rfl rfl rfl (c_X4_checkIndex w 5 hl hwr (by decide)) (g_thr (n0 := 0) (fun X h9 z9 => thr_ok 1 hJ9 (show oForget T w k = (1, 0, T) by unfold oForget; exact if_neg (fun z8 => z9.2.2 z8.1)) (z9.1.trans (by first | rfl | decide)) (by decide) z9.2.1)) (fun h9 e2 => ?_)
  obtain ⟨e2, hv2⟩ := e2
  subst e2
  refine g_iload_n 6 C dX4_forget_5 rfl rfl ?_
  refine g_iconst 7 C dX4_forget_6 rfl ?_
  refine g_S2v 10 2 12 C dX4_forget_7 rfl lk_RX4_103 gs_X4_checkIndex ⟨⟨by decide, by decide⟩, by decide, by decide⟩ (Nat.le_of_ble_eq_true rfl) rfl rfl rfl (c_X4_checkIndex k 3 hl hkr (by decide)) (g_thr (n0 := 0) (fun X h9 z9 => thr_ok 1 hJ9 (show oForget T w k = (1, 0, T) by unfold oForget; exact if_neg (fun z8 => z9.2.2 z8.2)) (z9.1.trans (by first | rfl | decide)) (by decide) z9.2.1)) (fun h9 e7 => ?_)
  obtain ⟨e7, hv7⟩ := e7
  subst e7
  refine g_aload_n 11 C dX4_forget_10 rfl rfl ?_
  refine g_getf 14 C dX4_forget_11 fl_RX4_10 rfl (by omega) j1 rfl rfl ?_
  refine g_getf 17 C dX4_forget_14 fl_RX4_41 rfl (by omega) j2.1 rfl rfl ?_
  refine g_iload_n 18 C dX4_forget_17 rfl rfl ?_
  refine g_aald 19 C dX4_forget_18 (by omega) jk rfl rfl (by omega) (by decide) (jkf (k) (by omega) (by omega)) rfl ?_
  refine g_astore_n 20 [(3, _), (0, _), (1, _), (2, _)] C dX4_forget_19 (by decide) rfl rfl ?_
  refine g_aload_n 21 C dX4_forget_20 rfl rfl ?_
  refine g_iload_n 22 C dX4_forget_21 rfl rfl ?_
  have hKk := jK k (by omega) (by omega)
  have hoK := o1 k (by omega) (by omega)
  obtain ⟨oW, oN, oV, oL⟩ := id hoK
  obtain ⟨k1, ⟨kc, k2, kfc⟩, ⟨kn, k3, kfk⟩, k4, k5, k6⟩ := id hKk
  try dsimp only at k4 k5 k6
  refine g_V1r 25 2 12 C dX4_forget_22 rfl lk_RX4_109 gi_X1_hindrance gv_X1_hindrance ⟨_, _, rfl⟩ (by omega) k1 ⟨⟨by decide, by decide⟩, by decide, by decide⟩ (Nat.le_of_ble_eq_true rfl) rfl rfl rfl (c_X1_hindrance (x + 1 + 2 + 21 * (k).toNat) (T.1.1 k) w (by omega) (jK k (by omega) (by omega)) (o1 k (by omega) (by omega)) hv2) g_no (fun h9 e22 => ?_)
  subst e22
  refine g_if_eq 38 28 C dX4_forget_25 rfl rfl (by have e := hind_r (T.1.1 k) w; omega) (fun c25 => ?_) (fun c25 => ?_)
  · skip
    refine g_aload_n 39 C dX4_forget_38 rfl rfl ?_
    refine g_V0v 42 2 12 C dX4_forget_39 rfl lk_RX4_38 gi_X4_save gv_X4_save ⟨_, _, rfl⟩ (by omega) j1 ⟨⟨by decide, by decide⟩, by decide, by decide⟩ (Nat.le_of_ble_eq_true rfl) rfl rfl rfl (c_X4_save (σ := none) x T hxb hJ9 hok9) g_no (fun h2 e39 => ?_)
    obtain ⟨hJ2, hk2, hkt⟩ := e39
    obtain ⟨j1, j2, j3, j4, j5, j6⟩ := id hJ2
    have j2 : isS E h2 (x + 1) T.1 := j2
    unfold isJo at j1
    obtain ⟨-, ⟨jkk, jk, jkf⟩, jK⟩ := id j2
    have hKk := jK k (by omega) (by omega)
    have hoK := o1 k (by omega) (by omega)
    obtain ⟨oW, oN, oV, oL⟩ := id hoK
    obtain ⟨k1, ⟨kc, k2, kfc⟩, ⟨kn, k3, kfk⟩, k4, k5, k6⟩ := id hKk
    try dsimp only at k4 k5 k6
    refine g_aload_n 43 C dX4_forget_42 rfl rfl ?_
    refine g_getf 46 C dX4_forget_43 fl_RX4_91 rfl (by omega) k1 rfl rfl ?_
    refine g_iload_n 47 C dX4_forget_46 rfl rfl ?_
    refine g_iald 48 C dX4_forget_47 (by omega) k5 (by omega) (by decide) rfl ?_
    refine g_istore 50 [(4, _), (3, _), (0, _), (1, _), (2, _)] C dX4_forget_48 (by decide) rfl rfl ?_
    refine g_aload_n 51 C dX4_forget_50 rfl rfl ?_
    refine g_iload_n 52 C dX4_forget_51 rfl rfl ?_
    refine g_V1v 55 2 12 C dX4_forget_52 rfl lk_RX4_114 gi_X1_erase gv_X1_erase ⟨_, _, rfl⟩ (by omega) k1 ⟨⟨by decide, by decide⟩, by decide, by decide⟩ (Nat.le_of_ble_eq_true rfl) rfl rfl rfl (c_X1_erase (x + 1 + 2 + 21 * (k).toNat) (T.1.1 k) w (by omega) hKk hoK hv2) g_no (fun h3 e52 => ?_)
    obtain ⟨hc3, hk3⟩ := e52
    have hS3 := j2.setK (k := k) (by omega) (by omega) hc3 hk3
    have l1 := (hk3 x (by omega)).trans j1
    refine g_aload_n 56 C dX4_forget_55 rfl rfl ?_
    refine g_getf 59 C dX4_forget_56 fl_RX4_10 rfl (by omega) l1 rfl rfl ?_
    refine g_dup 60 C dX4_forget_59 rfl rfl ?_
    refine g_getf 63 C dX4_forget_60 fl_RX4_118 rfl (by omega) hS3.1 rfl rfl ?_
    refine g_iconst 64 C dX4_forget_63 rfl ?_
    refine g_iadd 65 C dX4_forget_64 rfl ?_
    refine g_putf 68 C dX4_forget_65 fp_RX4_118 rfl (by omega) hS3.1 rfl rfl (Nat.le_of_ble_eq_true rfl) rfl ?_
    refine g_iload 70 C dX4_forget_68 rfl rfl ?_
    exact g_iret C dX4_forget_70 rfl ⟨by decide, by decide⟩ (ret_ok (by unfold oForget; rw [if_pos ⟨hv2, hv7⟩]; exact if_pos c25) rfl (hJ2.setS (hS3.setN (C' := gup T.1.2 5 (T.1.2 5 + 1)) up_s (gKp_up (by omega))) (gKp_tr (gKp_wd hk3 (by omega) (by omega)) (gKp_up (by omega)))) (gKp_tr hk2 (gKp_tr (gKp_wd hk3 (by omega) (by omega)) (gKp_up (by omega)))))
  · skip
    exact g_throw C hl rfl gth_s (i := 2) rfl dX4_forget_28 dX4_forget_31 dX4_forget_32 dX4_forget_34 dX4_forget_37 (by decide) (Nat.le_of_ble_eq_true rfl) (by decide) (by decide) (thr_ok 2 hJ9 (by unfold oForget; rw [if_pos ⟨hv2, hv7⟩]; exact if_neg c25) (by first | rfl | decide) (by decide) rfl)
