/-! types, errorOf -/
section GTY
variable {E : gEnv} {F : gFr} {t : gMt} {Q : State → Prop} {n : Nat} {σ : Option Nat} {h : gH} {kc ks pc pc' : Nat} {L : List (Nat × Value)} {st : List Value}
theorem g_lshr {x v : Int64} {y : Int32} (pc' : Nat) (C : gC E F t) (hd : decode (gCode t) pc = .ok (.lshr, 1)) (hv : x >>> (y.toInt64 &&& 63) = v) (hp : pc + 1 = pc') (k : G E F t Q n σ h kc ks pc' L (.long v :: st)) : G E F t Q n σ h kc ks pc L (.int y :: .long x :: st) := by
  subst hp
  intro H locs ls a1 a3 a4 a5
  exact lv_lshr C.1 C.2.1 hd hv (k H locs ls a1 a3 a4 a5)
theorem g_land {x y : Int64} (pc' : Nat) (C : gC E F t) (hd : decode (gCode t) pc = .ok (.land, 1)) (hp : pc + 1 = pc') (k : G E F t Q n σ h kc ks pc' L (.long (x &&& y) :: st)) : G E F t Q n σ h kc ks pc L (.long y :: .long x :: st) := by
  subst hp
  intro H locs ls a1 a3 a4 a5
  exact lv_land C.1 C.2.1 hd (k H locs ls a1 a3 a4 a5)
theorem g_l2i {x : Int64} {v : Int32} (pc' : Nat) (C : gC E F t) (hd : decode (gCode t) pc = .ok (.l2i, 1)) (hv : x.toInt32 = v) (hp : pc + 1 = pc') (k : G E F t Q n σ h kc ks pc' L (.int v :: st)) : G E F t Q n σ h kc ks pc L (.long x :: st) := by
  subst hp
  intro H locs ls a1 a3 a4 a5
  exact lv_l2i C.1 C.2.1 hd hv (k H locs ls a1 a3 a4 a5)
end GTY
/-- a buffer by its characters -/
def bL (l : List Int) : Nat × (Int → Int) := (l.length, fun j => l.getD j.toNat 0)
theorem isJ_bq {E : gEnv} {h : gH} {x : Nat} {S : gSt} {d : Nat × (Int → gSt)} {n : Nat} {f g : Int → Int} (e : ∀ j : Int, 0 ≤ j → j < (n : Int) → f j = g j) (y : isJ E h x (S, d, (n, f))) : isJ E h x (S, d, (n, g)) := by
  obtain ⟨y1, y2, y3, y4, ⟨b, y5, y5'⟩, y6⟩ := y
  exact ⟨y1, y2, y3, y4, ⟨b, y5, fun j j0 j1 => (y5' j j0 j1).trans (e j j0 j1)⟩, y6⟩
theorem okT_bq {S : gSt} {d : Nat × (Int → gSt)} {n : Nat} {f g : Int → Int} (e : ∀ j : Int, 0 ≤ j → j < (n : Int) → f j = g j) (h : okT (S, d, (n, f))) : okT (S, d, (n, g)) := ⟨h.1, h.2.1, h.2.2.1, h.2.2.2.1, fun j j0 j1 => by
  show 33 ≤ g j ∧ g j ≤ 126
  rw [← e j j0 j1]
  exact h.2.2.2.2 j j0 j1⟩
theorem bL_up (l : List Int) (c : Int) : ∀ j : Int, 0 ≤ j → j < ((l.length + 1 : Nat) : Int) → gup (bL l).2 (l.length : Int) c j = (bL (l ++ [c])).2 j := by
  intro j j0 j1
  show gup (fun j : Int => l.getD j.toNat 0) (l.length : Int) c j = (l ++ [c]).getD j.toNat 0
  by_cases e : j = (l.length : Int)
  · subst e
    rw [gup_at, Int.toNat_natCast, List.getD_eq_getElem?_getD, List.getElem?_append_right (Nat.le_refl _), Nat.sub_self]
    rfl
  · rw [gup_ne e, List.getD_eq_getElem?_getD, List.getD_eq_getElem?_getD, List.getElem?_append_left (by omega)]
theorem bL_len (l : List Int) (c : Int) : (bL (l ++ [c])).1 = l.length + 1 := by
  show (l ++ [c]).length = _
  rw [List.length_append]
  rfl
/-- one more character -/
theorem ap_o {S : gSt} {d : Nat × (Int → gSt)} {l : List Int} {c : Int} (hc : 33 ≤ c ∧ c ≤ 126) (hl : l.length < 60) : oAppend (S, d, bL l) c = (0, (l.length : Int) + 1, S, d, (l.length + 1, gup (bL l).2 (l.length : Int) c)) := by
  unfold oAppend
  rw [if_pos hc]
  exact if_pos hl
theorem ap_J {E : gEnv} {h : gH} {x : Nat} {S : gSt} {d : Nat × (Int → gSt)} {l : List Int} {c : Int} (y : isJ E h x (S, d, (l.length + 1, gup (bL l).2 (l.length : Int) c))) : isJ E h x (S, d, bL (l ++ [c])) := by
  have z := isJ_bq (bL_up l c) y
  rw [← bL_len l c] at z
  exact z
theorem ap_k {S : gSt} {d : Nat × (Int → gSt)} {l : List Int} {c : Int} (y : okT (S, d, (l.length + 1, gup (bL l).2 (l.length : Int) c))) : okT (S, d, bL (l ++ [c])) := by
  have z := okT_bq (bL_up l c) y
  rw [← bL_len l c] at z
  exact z
/-- the characters of a word -/
def sg (word : Int64) (i : Nat) : Int := ((word >>> ((gi (56 - 8 * (i : Int))).toInt64 &&& 63)) &&& 255).toInt32.toInt
def tyP (word : Int64) (i : Nat) : List Int := ((List.range i).map (sg word)).filter (fun c => !(c == 0))
theorem tyP_0 {word : Int64} {i : Nat} (h : sg word i = 0) : tyP word (i + 1) = tyP word i := by
  unfold tyP
  rw [List.range_succ, List.map_append, List.filter_append]
  simp [h]
theorem tyP_1 {word : Int64} {i : Nat} (h : ¬ sg word i = 0) : tyP word (i + 1) = tyP word i ++ [sg word i] := by
  unfold tyP
  rw [List.range_succ, List.map_append, List.filter_append]
  simp [h]
theorem tyP_len (word : Int64) (i : Nat) : (tyP word i).length ≤ i := by
  unfold tyP
  refine Nat.le_trans (List.length_filter_le _ _) ?_
  rw [List.length_map, List.length_range]
  exact Nat.le_refl _
set_option maxRecDepth 100000 in
set_option maxHeartbeats 4000000 in
theorem ty_lp {E : gEnv} {F : gFr} {Q : State → Prop} {n x : Nat} {h0 : gH} {S : gSt} {d : Nat × (Int → gSt)} {l : List Int} {word : Int64} (C : gC E F mL_types) (hl : E.1.stackTraces = false) (hxb : gB E ≤ x ∧ x + 524 ≤ gB E + n) (hw : ∀ i : Nat, i < 8 → sg word i = 0 ∨ (33 ≤ sg word i ∧ sg word i ≤ 126)) (hl8 : l.length + 8 ≤ 60)
    (KE : ∀ h : gH, okT (S, d, bL (l ++ tyP word 8)) → isJ E h x (S, d, bL (l ++ tyP word 8)) → gKp x (x + 524) h0 h → G E F mL_types Q n none h 16 96 52 [(3, .int (gi 1))] []) : ∀ (k9 i : Nat) (h : gH), i ≤ 8 → 8 - i < k9 → okT (S, d, bL (l ++ tyP word i)) → isJ E h x (S, d, bL (l ++ tyP word i)) → gKp x (x + 524) h0 h → G E F mL_types Q n none h (2 * i) (12 * i) 6 [(0, .ref x), (1, .long word), (3, .int (gi 1)), (4, .int (gi (56 - 8 * (i : Int))))] [] := by
  intro k9
  induction k9 with
  | zero => intro i h h1 h2; exact absurd h2 (Nat.not_lt_zero _)
  | succ k9 ih =>
    intro i h h1 h2 hok hJ hk
    have j1 := hJ.1
    unfold isJo at j1
    have hlen := tyP_len word i
    have hsr : -2147483648 ≤ sg word i ∧ sg word i < 2147483648 := ⟨Int32.le_toInt _, Int32.toInt_lt _⟩
    refine g_iload 8 C dL_types_6 rfl rfl ?_
    refine g_if_lt 52 11 C dL_types_8 rfl rfl (by omega) (fun c8 => ?_) (fun c8 => ?_)
    · have e8 : i = 8 := by omega
      subst e8
      refine g_loc [(3, _)] ⟨rfl, trivial⟩ ?_
      exact KE h hok hJ hk
    · have hi : i < 8 := by omega
      refine g_lload_n 12 C dL_types_11 rfl rfl ?_
      refine g_iload 14 C dL_types_12 rfl rfl ?_
      refine g_lshr 15 C dL_types_14 rfl rfl ?_
      refine g_ldc2l 18 C dL_types_15 ld_RL_116 rfl ?_
      refine g_land 19 C dL_types_18 rfl ?_
      refine g_l2i (v := gi (sg word i)) 20 C dL_types_19 (gi_asI _) rfl ?_
      refine g_istore 22 [(5, _), (0, _), (1, _), (3, _), (4, _)] C dL_types_20 (by decide) rfl rfl ?_
      refine g_iload_n 23 C dL_types_22 rfl rfl ?_
      refine g_if_eq 44 26 C dL_types_23 rfl rfl (by decide) (fun c9 => absurd c9 (by decide)) (fun _ => ?_)
      refine g_iload 28 C dL_types_26 rfl rfl ?_
      have fin : ∀ (h9 : gH) (kc ks : Nat), kc ≤ 2 * (i + 1) → ks ≤ 12 * (i + 1) → okT (S, d, bL (l ++ tyP word (i + 1))) → isJ E h9 x (S, d, bL (l ++ tyP word (i + 1))) → gKp x (x + 524) h0 h9 → G E F mL_types Q n none h9 kc ks 40 [(5, .int (gi (sg word i))), (0, .ref x), (1, .long word), (3, .int (gi 1)), (4, .int (gi (56 - 8 * (i : Int))))] [] := by
        intro h9 kc ks q1 q2 hok9 hJ9 hk9
        refine g_iconst 41 C dL_types_40 rfl ?_
        refine g_goto 45 C dL_types_41 rfl ?_
        refine g_istore_n 46 [(3, _), (5, _), (0, _), (1, _), (4, _)] C dL_types_45 (by decide) rfl rfl ?_
        refine g_iinc 49 [(4, _), (3, _), (5, _), (0, _), (1, _)] C dL_types_46 rfl (by decide) rfl rfl ?_
        refine g_goto 6 C dL_types_49 rfl ?_
        refine g_loc [(0, _), (1, _), (3, _), (4, _)] ⟨rfl, rfl, rfl, rfl, trivial⟩ ?_
        have z9 := ih (i + 1) h9 (by omega) (by omega) hok9 hJ9 hk9
        rw [show (56 - 8 * ((i + 1 : Nat) : Int)) = 56 - 8 * (i : Int) + -8 by omega] at z9
        exact g_wid q1 q2 z9
      refine g_if_eq 40 31 C dL_types_28 rfl rfl hsr (fun c9 => ?_) (fun c9 => ?_)
      · refine fin h _ _ (by omega) (by omega) ?_ ?_ hk
        · rw [tyP_0 c9]; exact hok
        · rw [tyP_0 c9]; exact hJ
      · have hr := (hw i hi).resolve_left c9
        have hll : (l ++ tyP word i).length < 60 := by rw [List.length_append]; omega
        have hO := ap_o (S := S) (d := d) hr hll
        have hM := c_X4_append (E := E) (σ := none) x (S, d, bL (l ++ tyP word i)) (sg word i) hl hxb hJ hok hsr
        have hok2 := okT_append (T := (S, d, bL (l ++ tyP word i))) (c := sg word i) hok
        rw [hO] at hM hok2
        refine g_aload_n 32 C dL_types_31 rfl rfl ?_
        refine g_iload 34 C dL_types_32 rfl rfl ?_
        refine g_V1r 37 (2 * (i + 1)) (12 * (i + 1)) C dL_types_34 rfl lk_RL_32 gi_X4_append gv_X4_append ⟨_, _, rfl⟩ (by omega) j1 ⟨⟨by decide, by decide⟩, by show 2 * i + 2 ≤ 16; omega, by show 12 * i + 12 ≤ 96; omega⟩ (Nat.le_of_ble_eq_true rfl) rfl (by show 2 * i + 2 = _; omega) (by show 12 * i + 12 = _; omega) hM (gTo_X rfl) (fun h9 e9 => ?_)
        obtain ⟨-, hJ9, hk9⟩ := e9
        refine g_if_le (x := ((l ++ tyP word i).length : Int) + 1) 44 40 C dL_types_37 rfl rfl (by omega) (fun c7 => absurd c7 (by omega)) (fun _ => ?_)
        refine fin h9 _ _ (Nat.le_refl _) (Nat.le_refl _) ?_ ?_ (gKp_tr hk hk9)
        · rw [tyP_1 c9, ← List.append_assoc]; exact ap_k hok2
        · rw [tyP_1 c9, ← List.append_assoc]; exact ap_J hJ9
def ckTy (word : Int64) : Bool := (List.range 8).all (fun i => decide (sg word i = 0 ∨ (33 ≤ sg word i ∧ sg word i ≤ 126)))
set_option maxRecDepth 100000 in
set_option maxHeartbeats 4000000 in
theorem c_L_types {E : gEnv} {n : Nat} {h : gH} {S : gSt} {d : Nat × (Int → gSt)} (x : Nat) (l l' : List Int) (word : Int64) (hk : ckTy word = true) (hl' : l ++ tyP word 8 = l') (hl8 : l.length + 8 ≤ 60) (hl : E.1.stackTraces = false) (hxb : gB E ≤ x ∧ x + 524 ≤ gB E + n) (hJ : isJ E h x (S, d, bL l)) (hok : okT (S, d, bL l)) : gM E mL_types [.ref x, .long word] n none h (gD (some (.int (gi 1))) n none (fun h9 => okT (S, d, bL l') ∧ isJ E h9 x (S, d, bL l') ∧ gKp x (x + 524) h h9)) gNo := by
  subst hl'
  have hw : ∀ i : Nat, i < 8 → sg word i = 0 ∨ (33 ≤ sg word i ∧ sg word i ≤ 126) := fun i hi => of_decide_eq_true (List.all_eq_true.mp hk i (List.mem_range.mpr hi))
  refine gM_of (by decide) (Nat.le_of_ble_eq_true rfl) (fun F C => ?_)
  refine g_iconst 1 C dL_types_0 rfl ?_
  refine g_istore_n 2 [(3, _), (0, _), (1, _)] C dL_types_1 (by decide) rfl rfl ?_
  refine g_bipush 4 C dL_types_2 (by decide) rfl ?_
  refine g_istore 6 [(4, _), (3, _), (0, _), (1, _)] C dL_types_4 (by decide) rfl rfl ?_
  refine g_loc [(0, _), (1, _), (3, _), (4, .int (gi (56 - 8 * ((0 : Nat) : Int))))] ⟨rfl, rfl, rfl, rfl, trivial⟩ ?_
  refine ty_lp (h0 := h) C hl hxb hw hl8 (fun h9 hok9 hJ9 hk9 => ?_) 9 0 h (by decide) (by decide) (by rw [show tyP word 0 = [] from rfl, List.append_nil]; exact hok) (by rw [show tyP word 0 = [] from rfl, List.append_nil]; exact hJ) gKp_rf
  refine g_iload_n 53 C dL_types_52 rfl rfl ?_
  exact g_zret C dL_types_53 rfl rfl ⟨by decide, by decide⟩ ⟨rfl, rfl, rfl, hok9, hJ9, hk9⟩
set_option maxRecDepth 100000 in
set_option maxHeartbeats 4000000 in
theorem c_L_errorOf {E : gEnv} {h : gH} (one other : Int64) (l1 l2 : List Int) (v : Int) (hk1 : ckTy one = true) (hk2 : ckTy other = true) (e1 : tyP one 8 = l1) (e2 : l1 ++ tyP other 8 = l2) (hv : ((scE (bL l2).2 (bL l2).1 : Nat) : Int) = v) (hl : E.1.stackTraces = false) : gM E mL_errorOf [.long one, .long other] 0 (some (gB E + 0)) h (fun r _ _ _ => r = some (.int (gi v))) gNo := by
  have n1 : l1.length ≤ 8 := by rw [← e1]; exact tyP_len one 8
  refine gM_of (by decide) (Nat.le_of_ble_eq_true rfl) (fun F C => ?_)
  refine g_new 3 C dL_errorOf_0 nw_RL_10 rfl (by decide) (by decide) rfl ?_
  refine g_dup 4 C dL_errorOf_3 rfl rfl ?_
  refine g_I0v 7 524 2359 C dL_errorOf_4 rfl lk_RL_101 gi_X4_init rfl rfl ⟨⟨by decide, by decide⟩, by decide, by decide⟩ (Nat.le_of_ble_eq_true rfl) rfl rfl rfl (c_X4_init (E := E) (σ := none) (gB E + 0) rfl (Nat.le_add_right _ _) up_s) g_no (fun h1 q1 => ?_)
  obtain ⟨hJ1, -⟩ := q1
  have hxb : gB E ≤ gB E + 0 ∧ gB E + 0 + 524 ≤ gB E + (0 + 1 + 523) := by omega
  have hok1 : okT (gS0, (0, fun _ => gS0), bL []) := okT_bq (f := fun _ => 0) (fun j j0 j1 => absurd j1 (show ¬ j < ((0 : Nat) : Int) by omega)) okT_0
  have hJ1 : isJ E h1 (gB E + 0) (gS0, (0, fun _ => gS0), bL []) := isJ_bq (f := fun _ => 0) (fun j j0 j1 => absurd j1 (show ¬ j < ((0 : Nat) : Int) by omega)) hJ1
  refine g_astore 9 [(4, .ref (gB E + 0)), (0, _), (2, _)] C dL_errorOf_7 (by decide) rfl rfl ?_
  refine g_nos ?_
  refine g_aload 11 C dL_errorOf_9 rfl rfl ?_
  refine g_lload_n 12 C dL_errorOf_11 rfl rfl ?_
  refine g_S2r 15 540 2455 C dL_errorOf_12 rfl lk_RL_118 gs_L_types ⟨⟨by decide, by decide⟩, by decide, by decide⟩ (Nat.le_of_ble_eq_true rfl) rfl rfl rfl (c_L_types (gB E + 0) [] l1 one hk1 (by rw [List.nil_append]; exact e1) (by decide) hl hxb hJ1 hok1) g_no (fun h2 q2 => ?_)
  obtain ⟨hok2, hJ2, -⟩ := q2
  refine g_if_eq 35 18 C dL_errorOf_15 rfl rfl (by decide) (fun c9 => absurd c9 (by decide)) (fun _ => ?_)
  refine g_aload 20 C dL_errorOf_18 rfl rfl ?_
  refine g_lload_n 21 C dL_errorOf_20 rfl rfl ?_
  refine g_S2r 24 556 2551 C dL_errorOf_21 rfl lk_RL_118 gs_L_types ⟨⟨by decide, by decide⟩, by decide, by decide⟩ (Nat.le_of_ble_eq_true rfl) rfl rfl rfl (c_L_types (gB E + 0) l1 l2 other hk2 e2 (by omega) hl hxb hJ2 hok2) g_no (fun h3 q3 => ?_)
  obtain ⟨hok3, hJ3, -⟩ := q3
  refine g_if_eq 35 27 C dL_errorOf_24 rfl rfl (by decide) (fun c9 => absurd c9 (by decide)) (fun _ => ?_)
  refine g_aload 29 C dL_errorOf_27 rfl rfl ?_
  have j1 := hJ3.1
  unfold isJo at j1
  refine g_V0r 32 556 2551 C dL_errorOf_29 rfl lk_RL_122 gi_X4_firstError gv_X4_firstError ⟨_, _, rfl⟩ (by omega) j1 ⟨⟨by decide, by decide⟩, by decide, by decide⟩ (Nat.le_of_ble_eq_true rfl) rfl rfl rfl (c_X4_firstError (E := E) (σ := none) (gB E + 0) _ hxb hJ3 hok3) g_no (fun h4 q4 => ?_)
  refine g_goto 37 C dL_errorOf_32 rfl ?_
  refine g_iret C dL_errorOf_37 rfl ⟨by decide, by decide⟩ ?_
  show some (Value.int (gi ((scE (bL l2).2 (bL l2).1 : Nat) : Int))) = _
  rw [hv]
