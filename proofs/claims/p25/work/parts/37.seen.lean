/-! the law's look at all that shows: seen -/
def sTal (S : gSt) (what : Int) : Int := if what = 0 then sAll S else if what = 1 then sMst S 3 else S.2 (what - 1)
def fSb (S : gSt) (j : Int) : Int := sibF (S.1 (j / 5 / 4 % 3)) (j / 5 / 12) (j / 5 % 4) (j % 5)
def fVc (S : gSt) (j : Int) : Int := (S.1 (j / 5 % 3)).2.2.1 (j / 15) (j % 5)
def fKn (S : gSt) (j : Int) : Int := (S.1 (j / 5 % 3)).2.1 (j / 15) (j % 5)
def fKy (S : gSt) (j : Int) : Int := keyF (S.1 (j / 8)) (j % 8)
def sn1 (S : gSt) : Int64 := fldN (sTal S) 7 7
def sn2 (S : gSt) : Int64 := fldN (fSb S) (sn1 S) 180
def sn3 (S : gSt) : Int64 := fldN (fVc S) (sn2 S) 45
def sn4 (S : gSt) : Int64 := fldN (fKn S) (sn3 S) 75
def seenS (S : gSt) : Int64 := fldN (fKy S) (sn4 S) 24
theorem oCount_at (T : gTt) (j : Int) (h : 0 ≤ j ∧ j < 7) : oCount T j = (0, sTal T.1 j, T) := by
  unfold oCount
  rw [if_pos ⟨h.1, by omega⟩]
  have e : tTal T j = sTal T.1 j := by
    unfold tTal sTal
    have h7 : ¬ j = 7 := by omega
    simp only [if_neg h7]
  rw [e]
theorem oCount_7 (T : gTt) : oCount T 7 = (0, (T.2.1.1 : Int), T) := rfl
theorem oSib_at (T : gTt) (i w : Nat) (wi : Int) (hi : i < 36) (hw : w < 5) (e : wi = (w : Int)) : oSibling T ((i : Int) / 12) ((i : Int) / 4 % 3) ((i : Int) % 4) wi = (0, fSb T.1 ((5 * i + w : Nat) : Int), T) := by
  subst e
  unfold oSibling
  rw [if_pos ⟨⟨by omega, by omega⟩, by omega, by omega⟩, if_pos ⟨⟨by omega, by omega⟩, by omega, by omega⟩]
  unfold fSb
  have e5 : ((5 * i + w : Nat) : Int) / 5 = (i : Int) := by omega
  have e6 : ((5 * i + w : Nat) : Int) % 5 = (w : Int) := by omega
  rw [e5, e6]
theorem oVec_at (T : gTt) (i : Nat) (hi : i < 45) : oVector T ((i : Int) / 15) ((i : Int) / 5 % 3) ((i : Int) % 5) = (0, fVc T.1 (i : Int), T) := by
  unfold oVector
  rw [if_pos ⟨⟨by omega, by omega⟩, ⟨by omega, by omega⟩, by omega, by omega⟩]
  rfl
theorem oKno_at (T : gTt) (i : Nat) (hi : i < 75) : oKnows T ((i : Int) / 15) ((i : Int) / 5 % 3) ((i : Int) % 5) = (0, fKn T.1 (i : Int), T) := by
  unfold oKnows
  rw [if_pos ⟨⟨by omega, by omega⟩, ⟨by omega, by omega⟩, by omega, by omega⟩]
  rfl
theorem oKey_at (T : gTt) (i : Nat) (hi : i < 24) : oKey T ((i : Int) / 8) ((i : Int) % 8) = (0, fKy T.1 (i : Int), T) := by
  unfold oKey
  rw [if_pos ⟨by omega, by omega⟩, if_pos ⟨by omega, by omega⟩]
  rfl
theorem gTo_X {E : gEnv} {F : gFr} {t : gMt} {h : gH} {x n : Nat} {f : Int → String} {O : gOut} {Q : State → Prop} (h0 : O.1 = 0) : ∀ (X : String) (h' : gH), gXT E h x f O X h' → gThr E F t n Q X h' := fun _ _ z => absurd h0 z.2.1
section SEEN
variable {E : gEnv} {F : gFr} {Q : State → Prop} {n : Nat} {h0 : gH} {x : Nat} {T : gTt}
set_option maxRecDepth 100000 in
set_option maxHeartbeats 4000000 in
theorem sn_1 (C : gC E F mL_seen) (hl : E.1.stackTraces = false) (hxb : gB E ≤ x ∧ x + 524 ≤ gB E + n) (hok : okT T)
    (KE : ∀ h : gH, isJ E h x T → gKp x (x + 524) h0 h → G E F mL_seen Q n none h 7 42 31 [(0, .ref x), (1, .long (sn1 T.1))] []) : ∀ (k9 i : Nat) (h : gH), i ≤ 7 → 7 - i < k9 → isJ E h x T → gKp x (x + 524) h0 h → G E F mL_seen Q n none h (0 + 1 * i) (0 + 6 * i) 6 [(0, .ref x), (1, .long (fldN (sTal T.1) 7 i)), (3, .int (gi (i : Int)))] [] := by
  intro k9
  induction k9 with
  | zero => intro i h h1 h2; exact absurd h2 (Nat.not_lt_zero _)
  | succ k9 ih =>
    intro i h h1 h2 hJ hk
    have j1 := hJ.1
    unfold isJo at j1
    refine g_iload_n 7 C dL_seen_6 rfl rfl ?_
    refine g_bipush 9 C dL_seen_7 (by decide) rfl ?_
    refine g_icmp_ge 31 12 C dL_seen_9 rfl rfl (by omega) (by omega) (fun c9 => ?_) (fun c9 => ?_)
    · have e9 : i = 7 := by omega
      subst e9
      refine g_loc [(0, _), (1, _)] ⟨rfl, rfl, trivial⟩ ?_
      exact KE h hJ hk
    · skip
      refine g_ldc2l 15 C dL_seen_12 ld_RL_84 rfl ?_
      refine g_lload_n 16 C dL_seen_15 rfl rfl ?_
      refine g_lmul 17 C dL_seen_16 rfl ?_
      refine g_aload_n 18 C dL_seen_17 rfl rfl ?_
      refine g_iload_n 19 C dL_seen_18 rfl rfl ?_
      have hV := oCount_at T (i : Int) (by omega)
      have hc := c_X4_count (E := E) (σ := none) x T (i : Int) hl hxb hJ hok (by omega)
      rw [hV] at hc
      refine g_V1r 22 (0 + 1 * (i + 1)) (0 + 6 * (i + 1)) C dL_seen_19 rfl lk_RL_55 gi_X4_count gv_X4_count ⟨_, _, rfl⟩ (by omega) j1 ⟨⟨by decide, by decide⟩, by show 0 + 1 * i + 1 ≤ 1135; omega, by show 0 + 6 * i + 6 ≤ 6810; omega⟩ (Nat.le_of_ble_eq_true rfl) rfl (by show 0 + 1 * i + 1 = _; omega) (by show 0 + 6 * i + 6 = _; omega) hc (gTo_X rfl) (fun h9 e9 => ?_)
      obtain ⟨-, hJ9, hk9⟩ := e9
      refine g_i2l 23 C dL_seen_22 rfl ?_
      refine g_ladd 24 C dL_seen_23 rfl ?_
      refine g_lstore_n 25 [(1, _), (0, _), (3, _)] C dL_seen_24 (by decide) rfl rfl ?_
      refine g_iinc 28 [(3, _), (1, _), (0, _)] C dL_seen_25 rfl (by decide) rfl rfl ?_
      refine g_goto 6 C dL_seen_28 rfl ?_
      refine g_loc [(0, _), (1, _), (3, _)] ⟨rfl, rfl, rfl, trivial⟩ ?_
      have z9 := ih (i + 1) h9 (by omega) (by omega) hJ9 (gKp_tr hk hk9)
      rw [show ((i + 1 : Nat) : Int) = (i : Int) + 1 by omega] at z9
      exact z9

set_option maxRecDepth 100000 in
set_option maxHeartbeats 4000000 in
theorem sn_2 (C : gC E F mL_seen) (hl : E.1.stackTraces = false) (hxb : gB E ≤ x ∧ x + 524 ≤ gB E + n) (hok : okT T)
    (KE : ∀ h : gH, isJ E h x T → gKp x (x + 524) h0 h → G E F mL_seen Q n none h 727 4362 86 [(0, .ref x), (1, .long (sn2 T.1))] []) : ∀ (k9 i : Nat) (h : gH), i ≤ 36 → 36 - i < k9 → isJ E h x T → gKp x (x + 524) h0 h → G E F mL_seen Q n none h (7 + 20 * i) (42 + 120 * i) 33 [(0, .ref x), (1, .long (fldN (fSb T.1) (sn1 T.1) (5 * i))), (3, .int (gi (i : Int)))] [] := by
  intro k9
  induction k9 with
  | zero => intro i h h1 h2; exact absurd h2 (Nat.not_lt_zero _)
  | succ k9 ih =>
    intro i h h1 h2 hJ hk
    have j1 := hJ.1
    unfold isJo at j1
    refine g_iload_n 34 C dL_seen_33 rfl rfl ?_
    refine g_bipush 36 C dL_seen_34 (by decide) rfl ?_
    refine g_icmp_ge 86 39 C dL_seen_36 rfl rfl (by omega) (by omega) (fun c9 => ?_) (fun c9 => ?_)
    · have e9 : i = 36 := by omega
      subst e9
      refine g_loc [(0, _), (1, _)] ⟨rfl, rfl, trivial⟩ ?_
      exact KE h hJ hk
    · skip
      refine g_iconst 40 C dL_seen_39 rfl ?_
      refine g_istore 42 [(4, _), (0, _), (1, _), (3, _)] C dL_seen_40 (by decide) rfl rfl ?_
      refine g_iload 44 C dL_seen_42 rfl rfl ?_
      refine g_iconst 45 C dL_seen_44 rfl ?_
      refine g_icmp_ge 80 48 C dL_seen_45 rfl rfl (by omega) (by omega) (fun c8 => absurd c8 (by omega)) (fun c8 => ?_)
      refine g_ldc2l 51 C dL_seen_48 ld_RL_84 rfl ?_
      refine g_lload_n 52 C dL_seen_51 rfl rfl ?_
      refine g_lmul 53 C dL_seen_52 rfl ?_
      refine g_aload_n 54 C dL_seen_53 rfl rfl ?_
      refine g_iload_n 55 C dL_seen_54 rfl rfl ?_
      refine g_bipush 57 C dL_seen_55 (by decide) rfl ?_
      refine g_idiv 58 C dL_seen_57 (by omega) (by omega) rfl ?_
      refine g_iload_n 59 C dL_seen_58 rfl rfl ?_
      refine g_iconst 60 C dL_seen_59 rfl ?_
      refine g_idiv 61 C dL_seen_60 (by omega) (by omega) rfl ?_
      refine g_iconst 62 C dL_seen_61 rfl ?_
      refine g_irem 63 C dL_seen_62 (by omega) (by omega) rfl ?_
      refine g_iload_n 64 C dL_seen_63 rfl rfl ?_
      refine g_iconst 65 C dL_seen_64 rfl ?_
      refine g_irem 66 C dL_seen_65 (by omega) (by omega) rfl ?_
      refine g_iload 68 C dL_seen_66 rfl rfl ?_
      have hV0 := oSib_at T i 0 0 (by omega) (by decide) rfl
      have hc0 := c_X4_sibling (E := E) (σ := none) x T ((i : Int) / 12) ((i : Int) / 4 % 3) ((i : Int) % 4) 0 hl hxb hJ hok (by omega) (by omega) (by omega) (by omega)
      rw [hV0] at hc0
      refine g_V4r 71 (7 + 20 * i + 4) (42 + 120 * i + 24) C dL_seen_68 rfl lk_RL_43 gi_X4_sibling gv_X4_sibling ⟨_, _, rfl⟩ (by omega) j1 ⟨⟨by decide, by decide⟩, by show 7 + 20 * i + 4 ≤ 1135; omega, by show 42 + 120 * i + 24 ≤ 6810; omega⟩ (Nat.le_of_ble_eq_true rfl) rfl (by show 7 + 20 * i + 4 = _; omega) (by show 42 + 120 * i + 24 = _; omega) hc0 (gTo_X rfl) (fun h1x e9 => ?_)
      obtain ⟨-, hJ1, hk1x⟩ := e9
      have j1 := hJ1.1
      unfold isJo at j1
      refine g_i2l 72 C dL_seen_71 rfl ?_
      refine g_ladd 73 C dL_seen_72 rfl ?_
      refine g_lstore_n 74 [(1, _), (4, _), (0, _), (3, _)] C dL_seen_73 (by decide) rfl rfl ?_
      refine g_iinc 77 [(4, _), (1, _), (0, _), (3, _)] C dL_seen_74 rfl (by decide) rfl rfl ?_
      refine g_goto 42 C dL_seen_77 rfl ?_
      refine g_loc [(4, .int (gi 1)), (0, _), (1, _), (3, _)] ⟨rfl, rfl, rfl, rfl, trivial⟩ ?_
      refine g_iload 44 C dL_seen_42 rfl rfl ?_
      refine g_iconst 45 C dL_seen_44 rfl ?_
      refine g_icmp_ge 80 48 C dL_seen_45 rfl rfl (by omega) (by omega) (fun c8 => absurd c8 (by omega)) (fun c8 => ?_)
      refine g_ldc2l 51 C dL_seen_48 ld_RL_84 rfl ?_
      refine g_lload_n 52 C dL_seen_51 rfl rfl ?_
      refine g_lmul 53 C dL_seen_52 rfl ?_
      refine g_aload_n 54 C dL_seen_53 rfl rfl ?_
      refine g_iload_n 55 C dL_seen_54 rfl rfl ?_
      refine g_bipush 57 C dL_seen_55 (by decide) rfl ?_
      refine g_idiv 58 C dL_seen_57 (by omega) (by omega) rfl ?_
      refine g_iload_n 59 C dL_seen_58 rfl rfl ?_
      refine g_iconst 60 C dL_seen_59 rfl ?_
      refine g_idiv 61 C dL_seen_60 (by omega) (by omega) rfl ?_
      refine g_iconst 62 C dL_seen_61 rfl ?_
      refine g_irem 63 C dL_seen_62 (by omega) (by omega) rfl ?_
      refine g_iload_n 64 C dL_seen_63 rfl rfl ?_
      refine g_iconst 65 C dL_seen_64 rfl ?_
      refine g_irem 66 C dL_seen_65 (by omega) (by omega) rfl ?_
      refine g_iload 68 C dL_seen_66 rfl rfl ?_
      have hV1 := oSib_at T i 1 1 (by omega) (by decide) rfl
      have hc1 := c_X4_sibling (E := E) (σ := none) x T ((i : Int) / 12) ((i : Int) / 4 % 3) ((i : Int) % 4) 1 hl hxb hJ1 hok (by omega) (by omega) (by omega) (by omega)
      rw [hV1] at hc1
      refine g_V4r 71 (7 + 20 * i + 8) (42 + 120 * i + 48) C dL_seen_68 rfl lk_RL_43 gi_X4_sibling gv_X4_sibling ⟨_, _, rfl⟩ (by omega) j1 ⟨⟨by decide, by decide⟩, by show 7 + 20 * i + 4 + 4 ≤ 1135; omega, by show 42 + 120 * i + 24 + 24 ≤ 6810; omega⟩ (Nat.le_of_ble_eq_true rfl) rfl (by show 7 + 20 * i + 4 + 4 = _; omega) (by show 42 + 120 * i + 24 + 24 = _; omega) hc1 (gTo_X rfl) (fun h2x e9 => ?_)
      obtain ⟨-, hJ2, hk2x⟩ := e9
      have j1 := hJ2.1
      unfold isJo at j1
      refine g_i2l 72 C dL_seen_71 rfl ?_
      refine g_ladd 73 C dL_seen_72 rfl ?_
      refine g_lstore_n 74 [(1, _), (4, _), (0, _), (3, _)] C dL_seen_73 (by decide) rfl rfl ?_
      refine g_iinc 77 [(4, _), (1, _), (0, _), (3, _)] C dL_seen_74 rfl (by decide) rfl rfl ?_
      refine g_goto 42 C dL_seen_77 rfl ?_
      refine g_loc [(4, .int (gi 2)), (0, _), (1, _), (3, _)] ⟨rfl, rfl, rfl, rfl, trivial⟩ ?_
      refine g_iload 44 C dL_seen_42 rfl rfl ?_
      refine g_iconst 45 C dL_seen_44 rfl ?_
      refine g_icmp_ge 80 48 C dL_seen_45 rfl rfl (by omega) (by omega) (fun c8 => absurd c8 (by omega)) (fun c8 => ?_)
      refine g_ldc2l 51 C dL_seen_48 ld_RL_84 rfl ?_
      refine g_lload_n 52 C dL_seen_51 rfl rfl ?_
      refine g_lmul 53 C dL_seen_52 rfl ?_
      refine g_aload_n 54 C dL_seen_53 rfl rfl ?_
      refine g_iload_n 55 C dL_seen_54 rfl rfl ?_
      refine g_bipush 57 C dL_seen_55 (by decide) rfl ?_
      refine g_idiv 58 C dL_seen_57 (by omega) (by omega) rfl ?_
      refine g_iload_n 59 C dL_seen_58 rfl rfl ?_
      refine g_iconst 60 C dL_seen_59 rfl ?_
      refine g_idiv 61 C dL_seen_60 (by omega) (by omega) rfl ?_
      refine g_iconst 62 C dL_seen_61 rfl ?_
      refine g_irem 63 C dL_seen_62 (by omega) (by omega) rfl ?_
      refine g_iload_n 64 C dL_seen_63 rfl rfl ?_
      refine g_iconst 65 C dL_seen_64 rfl ?_
      refine g_irem 66 C dL_seen_65 (by omega) (by omega) rfl ?_
      refine g_iload 68 C dL_seen_66 rfl rfl ?_
      have hV2 := oSib_at T i 2 2 (by omega) (by decide) rfl
      have hc2 := c_X4_sibling (E := E) (σ := none) x T ((i : Int) / 12) ((i : Int) / 4 % 3) ((i : Int) % 4) 2 hl hxb hJ2 hok (by omega) (by omega) (by omega) (by omega)
      rw [hV2] at hc2
      refine g_V4r 71 (7 + 20 * i + 12) (42 + 120 * i + 72) C dL_seen_68 rfl lk_RL_43 gi_X4_sibling gv_X4_sibling ⟨_, _, rfl⟩ (by omega) j1 ⟨⟨by decide, by decide⟩, by show 7 + 20 * i + 8 + 4 ≤ 1135; omega, by show 42 + 120 * i + 48 + 24 ≤ 6810; omega⟩ (Nat.le_of_ble_eq_true rfl) rfl (by show 7 + 20 * i + 8 + 4 = _; omega) (by show 42 + 120 * i + 48 + 24 = _; omega) hc2 (gTo_X rfl) (fun h3x e9 => ?_)
      obtain ⟨-, hJ3, hk3x⟩ := e9
      have j1 := hJ3.1
      unfold isJo at j1
      refine g_i2l 72 C dL_seen_71 rfl ?_
      refine g_ladd 73 C dL_seen_72 rfl ?_
      refine g_lstore_n 74 [(1, _), (4, _), (0, _), (3, _)] C dL_seen_73 (by decide) rfl rfl ?_
      refine g_iinc 77 [(4, _), (1, _), (0, _), (3, _)] C dL_seen_74 rfl (by decide) rfl rfl ?_
      refine g_goto 42 C dL_seen_77 rfl ?_
      refine g_loc [(4, .int (gi 3)), (0, _), (1, _), (3, _)] ⟨rfl, rfl, rfl, rfl, trivial⟩ ?_
      refine g_iload 44 C dL_seen_42 rfl rfl ?_
      refine g_iconst 45 C dL_seen_44 rfl ?_
      refine g_icmp_ge 80 48 C dL_seen_45 rfl rfl (by omega) (by omega) (fun c8 => absurd c8 (by omega)) (fun c8 => ?_)
      refine g_ldc2l 51 C dL_seen_48 ld_RL_84 rfl ?_
      refine g_lload_n 52 C dL_seen_51 rfl rfl ?_
      refine g_lmul 53 C dL_seen_52 rfl ?_
      refine g_aload_n 54 C dL_seen_53 rfl rfl ?_
      refine g_iload_n 55 C dL_seen_54 rfl rfl ?_
      refine g_bipush 57 C dL_seen_55 (by decide) rfl ?_
      refine g_idiv 58 C dL_seen_57 (by omega) (by omega) rfl ?_
      refine g_iload_n 59 C dL_seen_58 rfl rfl ?_
      refine g_iconst 60 C dL_seen_59 rfl ?_
      refine g_idiv 61 C dL_seen_60 (by omega) (by omega) rfl ?_
      refine g_iconst 62 C dL_seen_61 rfl ?_
      refine g_irem 63 C dL_seen_62 (by omega) (by omega) rfl ?_
      refine g_iload_n 64 C dL_seen_63 rfl rfl ?_
      refine g_iconst 65 C dL_seen_64 rfl ?_
      refine g_irem 66 C dL_seen_65 (by omega) (by omega) rfl ?_
      refine g_iload 68 C dL_seen_66 rfl rfl ?_
      have hV3 := oSib_at T i 3 3 (by omega) (by decide) rfl
      have hc3 := c_X4_sibling (E := E) (σ := none) x T ((i : Int) / 12) ((i : Int) / 4 % 3) ((i : Int) % 4) 3 hl hxb hJ3 hok (by omega) (by omega) (by omega) (by omega)
      rw [hV3] at hc3
      refine g_V4r 71 (7 + 20 * i + 16) (42 + 120 * i + 96) C dL_seen_68 rfl lk_RL_43 gi_X4_sibling gv_X4_sibling ⟨_, _, rfl⟩ (by omega) j1 ⟨⟨by decide, by decide⟩, by show 7 + 20 * i + 12 + 4 ≤ 1135; omega, by show 42 + 120 * i + 72 + 24 ≤ 6810; omega⟩ (Nat.le_of_ble_eq_true rfl) rfl (by show 7 + 20 * i + 12 + 4 = _; omega) (by show 42 + 120 * i + 72 + 24 = _; omega) hc3 (gTo_X rfl) (fun h4x e9 => ?_)
      obtain ⟨-, hJ4, hk4x⟩ := e9
      have j1 := hJ4.1
      unfold isJo at j1
      refine g_i2l 72 C dL_seen_71 rfl ?_
      refine g_ladd 73 C dL_seen_72 rfl ?_
      refine g_lstore_n 74 [(1, _), (4, _), (0, _), (3, _)] C dL_seen_73 (by decide) rfl rfl ?_
      refine g_iinc 77 [(4, _), (1, _), (0, _), (3, _)] C dL_seen_74 rfl (by decide) rfl rfl ?_
      refine g_goto 42 C dL_seen_77 rfl ?_
      refine g_loc [(4, .int (gi 4)), (0, _), (1, _), (3, _)] ⟨rfl, rfl, rfl, rfl, trivial⟩ ?_
      refine g_iload 44 C dL_seen_42 rfl rfl ?_
      refine g_iconst 45 C dL_seen_44 rfl ?_
      refine g_icmp_ge 80 48 C dL_seen_45 rfl rfl (by omega) (by omega) (fun c8 => absurd c8 (by omega)) (fun c8 => ?_)
      refine g_ldc2l 51 C dL_seen_48 ld_RL_84 rfl ?_
      refine g_lload_n 52 C dL_seen_51 rfl rfl ?_
      refine g_lmul 53 C dL_seen_52 rfl ?_
      refine g_aload_n 54 C dL_seen_53 rfl rfl ?_
      refine g_iload_n 55 C dL_seen_54 rfl rfl ?_
      refine g_bipush 57 C dL_seen_55 (by decide) rfl ?_
      refine g_idiv 58 C dL_seen_57 (by omega) (by omega) rfl ?_
      refine g_iload_n 59 C dL_seen_58 rfl rfl ?_
      refine g_iconst 60 C dL_seen_59 rfl ?_
      refine g_idiv 61 C dL_seen_60 (by omega) (by omega) rfl ?_
      refine g_iconst 62 C dL_seen_61 rfl ?_
      refine g_irem 63 C dL_seen_62 (by omega) (by omega) rfl ?_
      refine g_iload_n 64 C dL_seen_63 rfl rfl ?_
      refine g_iconst 65 C dL_seen_64 rfl ?_
      refine g_irem 66 C dL_seen_65 (by omega) (by omega) rfl ?_
      refine g_iload 68 C dL_seen_66 rfl rfl ?_
      have hV4 := oSib_at T i 4 4 (by omega) (by decide) rfl
      have hc4 := c_X4_sibling (E := E) (σ := none) x T ((i : Int) / 12) ((i : Int) / 4 % 3) ((i : Int) % 4) 4 hl hxb hJ4 hok (by omega) (by omega) (by omega) (by omega)
      rw [hV4] at hc4
      refine g_V4r 71 (7 + 20 * (i + 1)) (42 + 120 * (i + 1)) C dL_seen_68 rfl lk_RL_43 gi_X4_sibling gv_X4_sibling ⟨_, _, rfl⟩ (by omega) j1 ⟨⟨by decide, by decide⟩, by show 7 + 20 * i + 16 + 4 ≤ 1135; omega, by show 42 + 120 * i + 96 + 24 ≤ 6810; omega⟩ (Nat.le_of_ble_eq_true rfl) rfl (by show 7 + 20 * i + 16 + 4 = _; omega) (by show 42 + 120 * i + 96 + 24 = _; omega) hc4 (gTo_X rfl) (fun h5x e9 => ?_)
      obtain ⟨-, hJ5, hk5x⟩ := e9
      have j1 := hJ5.1
      unfold isJo at j1
      refine g_i2l 72 C dL_seen_71 rfl ?_
      refine g_ladd 73 C dL_seen_72 rfl ?_
      refine g_lstore_n 74 [(1, _), (4, _), (0, _), (3, _)] C dL_seen_73 (by decide) rfl rfl ?_
      refine g_iinc 77 [(4, _), (1, _), (0, _), (3, _)] C dL_seen_74 rfl (by decide) rfl rfl ?_
      refine g_goto 42 C dL_seen_77 rfl ?_
      refine g_loc [(4, .int (gi 5)), (0, _), (1, _), (3, _)] ⟨rfl, rfl, rfl, rfl, trivial⟩ ?_
      refine g_iload 44 C dL_seen_42 rfl rfl ?_
      refine g_iconst 45 C dL_seen_44 rfl ?_
      refine g_icmp_ge 80 48 C dL_seen_45 rfl rfl (by omega) (by omega) (fun c8 => ?_) (fun c8 => absurd c8 (by omega))
      refine g_iinc 83 [(3, _), (4, _), (0, _), (1, _)] C dL_seen_80 rfl (by decide) rfl rfl ?_
      refine g_goto 33 C dL_seen_83 rfl ?_
      refine g_loc [(0, _), (1, _), (3, _)] ⟨rfl, rfl, rfl, trivial⟩ ?_
      have z9 := ih (i + 1) h5x (by omega) (by omega) hJ5 (gKp_tr hk (gKp_tr hk1x (gKp_tr hk2x (gKp_tr hk3x (gKp_tr hk4x hk5x)))))
      rw [show ((i + 1 : Nat) : Int) = (i : Int) + 1 by omega] at z9
      exact z9

set_option maxRecDepth 100000 in
set_option maxHeartbeats 4000000 in
theorem sn_3 (C : gC E F mL_seen) (hl : E.1.stackTraces = false) (hxb : gB E ≤ x ∧ x + 524 ≤ gB E + n) (hok : okT T)
    (KE : ∀ h : gH, isJ E h x T → gKp x (x + 524) h0 h → G E F mL_seen Q n none h 862 5172 124 [(0, .ref x), (1, .long (sn3 T.1))] []) : ∀ (k9 i : Nat) (h : gH), i ≤ 45 → 45 - i < k9 → isJ E h x T → gKp x (x + 524) h0 h → G E F mL_seen Q n none h (727 + 3 * i) (4362 + 18 * i) 88 [(0, .ref x), (1, .long (fldN (fVc T.1) (sn2 T.1) i)), (3, .int (gi (i : Int)))] [] := by
  intro k9
  induction k9 with
  | zero => intro i h h1 h2; exact absurd h2 (Nat.not_lt_zero _)
  | succ k9 ih =>
    intro i h h1 h2 hJ hk
    have j1 := hJ.1
    unfold isJo at j1
    refine g_iload_n 89 C dL_seen_88 rfl rfl ?_
    refine g_bipush 91 C dL_seen_89 (by decide) rfl ?_
    refine g_icmp_ge 124 94 C dL_seen_91 rfl rfl (by omega) (by omega) (fun c9 => ?_) (fun c9 => ?_)
    · have e9 : i = 45 := by omega
      subst e9
      refine g_loc [(0, _), (1, _)] ⟨rfl, rfl, trivial⟩ ?_
      exact KE h hJ hk
    · skip
      refine g_ldc2l 97 C dL_seen_94 ld_RL_84 rfl ?_
      refine g_lload_n 98 C dL_seen_97 rfl rfl ?_
      refine g_lmul 99 C dL_seen_98 rfl ?_
      refine g_aload_n 100 C dL_seen_99 rfl rfl ?_
      refine g_iload_n 101 C dL_seen_100 rfl rfl ?_
      refine g_bipush 103 C dL_seen_101 (by decide) rfl ?_
      refine g_idiv 104 C dL_seen_103 (by omega) (by omega) rfl ?_
      refine g_iload_n 105 C dL_seen_104 rfl rfl ?_
      refine g_iconst 106 C dL_seen_105 rfl ?_
      refine g_idiv 107 C dL_seen_106 (by omega) (by omega) rfl ?_
      refine g_iconst 108 C dL_seen_107 rfl ?_
      refine g_irem 109 C dL_seen_108 (by omega) (by omega) rfl ?_
      refine g_iload_n 110 C dL_seen_109 rfl rfl ?_
      refine g_iconst 111 C dL_seen_110 rfl ?_
      refine g_irem 112 C dL_seen_111 (by omega) (by omega) rfl ?_
      have hV := oVec_at T i (by omega)
      have hc := c_X4_vector (E := E) (σ := none) x T ((i : Int) / 15) ((i : Int) / 5 % 3) ((i : Int) % 5) hl hxb hJ hok (by omega) (by omega) (by omega)
      rw [hV] at hc
      refine g_V3r 115 (727 + 3 * (i + 1)) (4362 + 18 * (i + 1)) C dL_seen_112 rfl lk_RL_46 gi_X4_vector gv_X4_vector ⟨_, _, rfl⟩ (by omega) j1 ⟨⟨by decide, by decide⟩, by show 727 + 3 * i + 3 ≤ 1135; omega, by show 4362 + 18 * i + 18 ≤ 6810; omega⟩ (Nat.le_of_ble_eq_true rfl) rfl (by show 727 + 3 * i + 3 = _; omega) (by show 4362 + 18 * i + 18 = _; omega) hc (gTo_X rfl) (fun h9 e9 => ?_)
      obtain ⟨-, hJ9, hk9⟩ := e9
      refine g_i2l 116 C dL_seen_115 rfl ?_
      refine g_ladd 117 C dL_seen_116 rfl ?_
      refine g_lstore_n 118 [(1, _), (0, _), (3, _)] C dL_seen_117 (by decide) rfl rfl ?_
      refine g_iinc 121 [(3, _), (1, _), (0, _)] C dL_seen_118 rfl (by decide) rfl rfl ?_
      refine g_goto 88 C dL_seen_121 rfl ?_
      refine g_loc [(0, _), (1, _), (3, _)] ⟨rfl, rfl, rfl, trivial⟩ ?_
      have z9 := ih (i + 1) h9 (by omega) (by omega) hJ9 (gKp_tr hk hk9)
      rw [show ((i + 1 : Nat) : Int) = (i : Int) + 1 by omega] at z9
      exact z9

set_option maxRecDepth 100000 in
set_option maxHeartbeats 4000000 in
theorem sn_4 (C : gC E F mL_seen) (hl : E.1.stackTraces = false) (hxb : gB E ≤ x ∧ x + 524 ≤ gB E + n) (hok : okT T)
    (KE : ∀ h : gH, isJ E h x T → gKp x (x + 524) h0 h → G E F mL_seen Q n none h 1087 6522 162 [(0, .ref x), (1, .long (sn4 T.1))] []) : ∀ (k9 i : Nat) (h : gH), i ≤ 75 → 75 - i < k9 → isJ E h x T → gKp x (x + 524) h0 h → G E F mL_seen Q n none h (862 + 3 * i) (5172 + 18 * i) 126 [(0, .ref x), (1, .long (fldN (fKn T.1) (sn3 T.1) i)), (3, .int (gi (i : Int)))] [] := by
  intro k9
  induction k9 with
  | zero => intro i h h1 h2; exact absurd h2 (Nat.not_lt_zero _)
  | succ k9 ih =>
    intro i h h1 h2 hJ hk
    have j1 := hJ.1
    unfold isJo at j1
    refine g_iload_n 127 C dL_seen_126 rfl rfl ?_
    refine g_bipush 129 C dL_seen_127 (by decide) rfl ?_
    refine g_icmp_ge 162 132 C dL_seen_129 rfl rfl (by omega) (by omega) (fun c9 => ?_) (fun c9 => ?_)
    · have e9 : i = 75 := by omega
      subst e9
      refine g_loc [(0, _), (1, _)] ⟨rfl, rfl, trivial⟩ ?_
      exact KE h hJ hk
    · skip
      refine g_ldc2l 135 C dL_seen_132 ld_RL_84 rfl ?_
      refine g_lload_n 136 C dL_seen_135 rfl rfl ?_
      refine g_lmul 137 C dL_seen_136 rfl ?_
      refine g_aload_n 138 C dL_seen_137 rfl rfl ?_
      refine g_iload_n 139 C dL_seen_138 rfl rfl ?_
      refine g_bipush 141 C dL_seen_139 (by decide) rfl ?_
      refine g_idiv 142 C dL_seen_141 (by omega) (by omega) rfl ?_
      refine g_iload_n 143 C dL_seen_142 rfl rfl ?_
      refine g_iconst 144 C dL_seen_143 rfl ?_
      refine g_idiv 145 C dL_seen_144 (by omega) (by omega) rfl ?_
      refine g_iconst 146 C dL_seen_145 rfl ?_
      refine g_irem 147 C dL_seen_146 (by omega) (by omega) rfl ?_
      refine g_iload_n 148 C dL_seen_147 rfl rfl ?_
      refine g_iconst 149 C dL_seen_148 rfl ?_
      refine g_irem 150 C dL_seen_149 (by omega) (by omega) rfl ?_
      have hV := oKno_at T i (by omega)
      have hc := c_X4_knows (E := E) (σ := none) x T ((i : Int) / 15) ((i : Int) / 5 % 3) ((i : Int) % 5) hl hxb hJ hok (by omega) (by omega) (by omega)
      rw [hV] at hc
      refine g_V3r 153 (862 + 3 * (i + 1)) (5172 + 18 * (i + 1)) C dL_seen_150 rfl lk_RL_49 gi_X4_knows gv_X4_knows ⟨_, _, rfl⟩ (by omega) j1 ⟨⟨by decide, by decide⟩, by show 862 + 3 * i + 3 ≤ 1135; omega, by show 5172 + 18 * i + 18 ≤ 6810; omega⟩ (Nat.le_of_ble_eq_true rfl) rfl (by show 862 + 3 * i + 3 = _; omega) (by show 5172 + 18 * i + 18 = _; omega) hc (gTo_X rfl) (fun h9 e9 => ?_)
      obtain ⟨-, hJ9, hk9⟩ := e9
      refine g_i2l 154 C dL_seen_153 rfl ?_
      refine g_ladd 155 C dL_seen_154 rfl ?_
      refine g_lstore_n 156 [(1, _), (0, _), (3, _)] C dL_seen_155 (by decide) rfl rfl ?_
      refine g_iinc 159 [(3, _), (1, _), (0, _)] C dL_seen_156 rfl (by decide) rfl rfl ?_
      refine g_goto 126 C dL_seen_159 rfl ?_
      refine g_loc [(0, _), (1, _), (3, _)] ⟨rfl, rfl, rfl, trivial⟩ ?_
      have z9 := ih (i + 1) h9 (by omega) (by omega) hJ9 (gKp_tr hk hk9)
      rw [show ((i + 1 : Nat) : Int) = (i : Int) + 1 by omega] at z9
      exact z9

set_option maxRecDepth 100000 in
set_option maxHeartbeats 4000000 in
theorem sn_5 (C : gC E F mL_seen) (hl : E.1.stackTraces = false) (hxb : gB E ≤ x ∧ x + 524 ≤ gB E + n) (hok : okT T)
    (KE : ∀ h : gH, isJ E h x T → gKp x (x + 524) h0 h → G E F mL_seen Q n none h 1135 6810 196 [(0, .ref x), (1, .long (seenS T.1))] []) : ∀ (k9 i : Nat) (h : gH), i ≤ 24 → 24 - i < k9 → isJ E h x T → gKp x (x + 524) h0 h → G E F mL_seen Q n none h (1087 + 2 * i) (6522 + 12 * i) 164 [(0, .ref x), (1, .long (fldN (fKy T.1) (sn4 T.1) i)), (3, .int (gi (i : Int)))] [] := by
  intro k9
  induction k9 with
  | zero => intro i h h1 h2; exact absurd h2 (Nat.not_lt_zero _)
  | succ k9 ih =>
    intro i h h1 h2 hJ hk
    have j1 := hJ.1
    unfold isJo at j1
    refine g_iload_n 165 C dL_seen_164 rfl rfl ?_
    refine g_bipush 167 C dL_seen_165 (by decide) rfl ?_
    refine g_icmp_ge 196 170 C dL_seen_167 rfl rfl (by omega) (by omega) (fun c9 => ?_) (fun c9 => ?_)
    · have e9 : i = 24 := by omega
      subst e9
      refine g_loc [(0, _), (1, _)] ⟨rfl, rfl, trivial⟩ ?_
      exact KE h hJ hk
    · skip
      refine g_ldc2l 173 C dL_seen_170 ld_RL_84 rfl ?_
      refine g_lload_n 174 C dL_seen_173 rfl rfl ?_
      refine g_lmul 175 C dL_seen_174 rfl ?_
      refine g_aload_n 176 C dL_seen_175 rfl rfl ?_
      refine g_iload_n 177 C dL_seen_176 rfl rfl ?_
      refine g_bipush 179 C dL_seen_177 (by decide) rfl ?_
      refine g_idiv 180 C dL_seen_179 (by omega) (by omega) rfl ?_
      refine g_iload_n 181 C dL_seen_180 rfl rfl ?_
      refine g_bipush 183 C dL_seen_181 (by decide) rfl ?_
      refine g_irem 184 C dL_seen_183 (by omega) (by omega) rfl ?_
      have hV := oKey_at T i (by omega)
      have hc := c_X4_key (E := E) (σ := none) x T ((i : Int) / 8) ((i : Int) % 8) hl hxb hJ hok (by omega) (by omega)
      rw [hV] at hc
      refine g_V2r 187 (1087 + 2 * (i + 1)) (6522 + 12 * (i + 1)) C dL_seen_184 rfl lk_RL_52 gi_X4_key gv_X4_key ⟨_, _, rfl⟩ (by omega) j1 ⟨⟨by decide, by decide⟩, by show 1087 + 2 * i + 2 ≤ 1135; omega, by show 6522 + 12 * i + 12 ≤ 6810; omega⟩ (Nat.le_of_ble_eq_true rfl) rfl (by show 1087 + 2 * i + 2 = _; omega) (by show 6522 + 12 * i + 12 = _; omega) hc (gTo_X rfl) (fun h9 e9 => ?_)
      obtain ⟨-, hJ9, hk9⟩ := e9
      refine g_i2l 188 C dL_seen_187 rfl ?_
      refine g_ladd 189 C dL_seen_188 rfl ?_
      refine g_lstore_n 190 [(1, _), (0, _), (3, _)] C dL_seen_189 (by decide) rfl rfl ?_
      refine g_iinc 193 [(3, _), (1, _), (0, _)] C dL_seen_190 rfl (by decide) rfl rfl ?_
      refine g_goto 164 C dL_seen_193 rfl ?_
      refine g_loc [(0, _), (1, _), (3, _)] ⟨rfl, rfl, rfl, trivial⟩ ?_
      have z9 := ih (i + 1) h9 (by omega) (by omega) hJ9 (gKp_tr hk hk9)
      rw [show ((i + 1 : Nat) : Int) = (i : Int) + 1 by omega] at z9
      exact z9

end SEEN
abbrev gSn (E : gEnv) (h : gH) (x n : Nat) (T : gTt) : gQt := gD (some (.long (seenS T.1))) n none (fun h9 => isJ E h9 x T ∧ gKp x (x + 524) h h9)
set_option maxRecDepth 100000 in
set_option maxHeartbeats 4000000 in
theorem c_L_seen {E : gEnv} {n : Nat} {h : gH} (x : Nat) (T : gTt) (hl : E.1.stackTraces = false) (hxb : gB E ≤ x ∧ x + 524 ≤ gB E + n) (hJ : isJ E h x T) (hok : okT T) : gM E mL_seen [.ref x] n none h (gSn E h x n T) gNo := by
  refine gM_of (by decide) (Nat.le_of_ble_eq_true rfl) (fun F C => ?_)
  refine g_ldc2l 3 C dL_seen_0 ld_RL_82 rfl ?_
  refine g_lstore_n 4 [(1, _), (0, _)] C dL_seen_3 (by decide) rfl rfl ?_
  refine g_iconst 5 C dL_seen_4 rfl ?_
  refine g_istore_n 6 [(3, _), (1, _), (0, _)] C dL_seen_5 (by decide) rfl rfl ?_
  refine g_loc [(0, _), (1, _), (3, _)] ⟨rfl, rfl, rfl, trivial⟩ ?_
  refine sn_1 (h0 := h) C hl hxb hok (fun h1 hJ1 hk1 => ?_) 8 0 h (by decide) (by decide) hJ gKp_rf
  refine g_iconst 32 C dL_seen_31 rfl ?_
  refine g_istore_n 33 [(3, _), (0, _), (1, _)] C dL_seen_32 (by decide) rfl rfl ?_
  refine g_loc [(0, _), (1, _), (3, _)] ⟨rfl, rfl, rfl, trivial⟩ ?_
  refine sn_2 (h0 := h) C hl hxb hok (fun h2 hJ2 hk2 => ?_) 37 0 h1 (by decide) (by decide) hJ1 hk1
  refine g_iconst 87 C dL_seen_86 rfl ?_
  refine g_istore_n 88 [(3, _), (0, _), (1, _)] C dL_seen_87 (by decide) rfl rfl ?_
  refine g_loc [(0, _), (1, _), (3, _)] ⟨rfl, rfl, rfl, trivial⟩ ?_
  refine sn_3 (h0 := h) C hl hxb hok (fun h3 hJ3 hk3 => ?_) 46 0 h2 (by decide) (by decide) hJ2 hk2
  refine g_iconst 125 C dL_seen_124 rfl ?_
  refine g_istore_n 126 [(3, _), (0, _), (1, _)] C dL_seen_125 (by decide) rfl rfl ?_
  refine g_loc [(0, _), (1, _), (3, _)] ⟨rfl, rfl, rfl, trivial⟩ ?_
  refine sn_4 (h0 := h) C hl hxb hok (fun h4 hJ4 hk4 => ?_) 76 0 h3 (by decide) (by decide) hJ3 hk3
  refine g_iconst 163 C dL_seen_162 rfl ?_
  refine g_istore_n 164 [(3, _), (0, _), (1, _)] C dL_seen_163 (by decide) rfl rfl ?_
  refine g_loc [(0, _), (1, _), (3, _)] ⟨rfl, rfl, rfl, trivial⟩ ?_
  refine sn_5 (h0 := h) C hl hxb hok (fun h5 hJ5 hk5 => ?_) 25 0 h4 (by decide) (by decide) hJ4 hk4
  refine g_lload_n 197 C dL_seen_196 rfl rfl ?_
  exact g_lret C dL_seen_197 rfl ⟨by decide, by decide⟩ ⟨rfl, rfl, rfl, hJ5, hk5⟩
