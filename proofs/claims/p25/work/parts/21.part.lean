/-! SiblingJoins$Part -/
/-- the place, whether a writing, writer, key, store, value -/
abbrev gPt : Type := Nat × Bool × Int × Int × Int × Int
def isP (h : gH) (p : Nat) (P : gPt) : Prop := h p = gO 2 [.int (gi (P.1 : Int)), .int (gi (gbi P.2.1)), .int (gi P.2.2.1), .int (gi P.2.2.2.1), .int (gi P.2.2.2.2.1), .int (gi P.2.2.2.2.2)]
def pSh (b : Bool) : Nat := if b then 0 else 1
def pLen (b : Bool) : Int := if b then 8 else 6
theorem pSh_r (b : Bool) : pSh b < 2 := by cases b <;> decide
theorem pLen_r (b : Bool) : 6 ≤ pLen b ∧ pLen b ≤ 8 := by cases b <;> decide
theorem pLen_e (b : Bool) : ((gLen.getD (pSh b) 0 : Nat) : Int) = pLen b := by cases b <;> rfl
def okP (P : gPt) : Prop := P.1 ≤ 9 ∧ (P.2.1 = false → P.1 ≤ 6) ∧ (0 ≤ P.2.2.1 ∧ P.2.2.1 ≤ 4) ∧ (0 ≤ P.2.2.2.1 ∧ P.2.2.2.1 ≤ 2) ∧ (0 ≤ P.2.2.2.2.1 ∧ P.2.2.2.2.1 ≤ 2) ∧ (0 ≤ P.2.2.2.2.2 ∧ P.2.2.2.2.2 ≤ 99) ∧ (P.1 = 8 → P.2.2.2.2.2 ≤ 9)
/-- the character that is due -/
def pDue (P : gPt) : Int := gChr (pSh P.2.1) P.1
def pDig (P : gPt) (d : Int) : gPt := if P.1 = 1 then (P.1 + 1, P.2.1, d, P.2.2.2) else if P.1 = 3 then (P.1 + 1, P.2.1, P.2.2.1, d, P.2.2.2.2) else if P.1 = 5 then (P.1 + 1, P.2.1, P.2.2.1, P.2.2.2.1, d, P.2.2.2.2.2) else (P.1 + 1, P.2.1, P.2.2.1, P.2.2.2.1, P.2.2.2.2.1, d)
def pKin (P : gPt) (c : Int) : Option gPt := if c = 114 ∨ c = 119 then some (1, decide (c = 119), P.2.2) else none
def pEnd (P : gPt) (c : Int) : Option gPt := if c = 59 then some (0, P.2) else if (P.2.1 = true ∧ P.1 = 8 ∧ 0 < P.2.2.2.2.2) ∧ 48 ≤ c ∧ c ≤ 57 then some (P.1 + 1, P.2.1, P.2.2.1, P.2.2.2.1, P.2.2.2.2.1, 10 * P.2.2.2.2.2 + c - 48) else none
def pDg (P : gPt) (c most : Int) : Option gPt := if 48 ≤ c ∧ c ≤ most then some (pDig P (c - 48)) else none
/-- what the part is with one character more; none: it isn't taken -/
def pTk (P : gPt) (c : Int) : Option gPt := if P.1 = 0 then pKin P c else if pLen P.2.1 ≤ (P.1 : Int) then pEnd P c else if 48 ≤ pDue P ∧ pDue P ≤ 57 then pDg P c (pDue P) else if c = pDue P then some (P.1 + 1, P.2) else none
theorem pDue_r {P : gPt} (h : (P.1 : Int) < pLen P.2.1) : 0 ≤ pDue P ∧ pDue P < 128 ∧ P.1 < gLen.getD (pSh P.2.1) 0 := by
  have h1 : P.1 < gLen.getD (pSh P.2.1) 0 := by have := pLen_e P.2.1; omega
  have h2 := gChr_c (pSh P.2.1) (pSh_r _) P.1 h1
  exact ⟨h2.2.2.1, h2.2.2.2, h1⟩

set_option maxRecDepth 100000 in
set_option maxHeartbeats 4000000 in
theorem c_X2_init {E : gEnv} {n : Nat} {σ : Option Nat} {h : gH} (p : Nat) : gM E mX2_init [.ref p] n σ h (gD none n σ (fun h9 => h9 = h)) (gNo) := by
  refine gM_of (by decide) (Nat.le_of_ble_eq_true rfl) (fun F C => ?_)
  refine g_aload_n 1 C dX2_init_0 rfl rfl ?_
  refine g_objInit 4 C dX2_init_1 rfl sp_RX2_1 (by decide) (Nat.le_of_ble_eq_true rfl) rfl ?_
  exact g_vret C dX2_init_4 rfl ⟨by decide, by decide⟩ (⟨rfl, rfl, rfl, rfl⟩)
set_option maxRecDepth 100000 in
set_option maxHeartbeats 4000000 in
theorem c_X2_restart {E : gEnv} {n : Nat} {σ : Option Nat} {h : gH} (p : Nat) (P : gPt) (hpb : gB E ≤ p ∧ p < gB E + n) (hP : isP h p P)  : gM E mX2_restart [.ref p] n σ h (gD none n σ (fun h9 => isP h9 p (0, P.2) ∧ gKp p (p + 1) h h9)) (gNo) := by
  unfold isP at hP
  refine gM_of (by decide) (Nat.le_of_ble_eq_true rfl) (fun F C => ?_)
  refine g_aload_n 1 C dX2_restart_0 rfl rfl ?_
  refine g_iconst 2 C dX2_restart_1 rfl ?_
  refine g_putf 5 C dX2_restart_2 fp_RX2_7 rfl (by omega) hP rfl rfl (Nat.le_of_ble_eq_true rfl) rfl ?_
  exact g_vret C dX2_restart_5 rfl ⟨by decide, by decide⟩ (⟨rfl, rfl, rfl, up_s, gKp_up (by omega)⟩)
set_option maxRecDepth 100000 in
set_option maxHeartbeats 4000000 in
theorem c_X2_shape {E : gEnv} {n : Nat} {σ : Option Nat} {h : gH} (p : Nat) (P : gPt) (hpb : gB E ≤ p ∧ p < gB E + n) (hP : isP h p P)  : gM E mX2_shape [.ref p] n σ h (gD (some (.ref (gSa E (pSh P.2.1)))) n σ (fun h9 => h9 = h)) (gNo) := by
  unfold isP at hP
  refine gM_of (by decide) (Nat.le_of_ble_eq_true rfl) (fun F C => ?_)
  refine g_aload_n 1 C dX2_shape_0 rfl rfl ?_
  refine g_getf 4 C dX2_shape_1 fl_RX2_42 rfl (by omega) hP rfl rfl ?_
  refine g_if_eq 12 7 C dX2_shape_4 rfl rfl (gbi_r _) (fun c4 => ?_) (fun c4 => ?_)
  · skip
    have hw := gbi_0 c4
    refine g_ldcS (i := 1) 14 C dX2_shape_12 rfl rfl rfl ?_
    exact g_aret C dX2_shape_14 rfl (Or.inl ⟨_, rfl⟩) ⟨by decide, by decide⟩ (⟨by rw [hw]; rfl, rfl, rfl, rfl⟩)
  · skip
    have hw := gbi_1 c4
    refine g_ldcS (i := 0) 9 C dX2_shape_7 rfl rfl rfl ?_
    refine g_goto 14 C dX2_shape_9 rfl ?_
    exact g_aret C dX2_shape_14 rfl (Or.inl ⟨_, rfl⟩) ⟨by decide, by decide⟩ (⟨by rw [hw]; rfl, rfl, rfl, rfl⟩)
set_option maxRecDepth 100000 in
set_option maxHeartbeats 4000000 in
theorem c_X2_isWhole {E : gEnv} {n : Nat} {σ : Option Nat} {h : gH} (p : Nat) (P : gPt) (hpb : gB E ≤ p ∧ p < gB E + n) (hP : isP h p P) (hok : okP P)  : gM E mX2_isWhole [.ref p] n σ h (gD (some (.int (gi (gbi (decide (pLen P.2.1 ≤ (P.1 : Int))))))) n σ (fun h9 => h9 = h)) (gNo) := by
  have hP9 := hP
  unfold isP at hP
  obtain ⟨o1, o2, o3, o4, o5, o6, o7⟩ := hok
  have hl := pLen_r P.2.1
  have hl2 := pLen_e P.2.1
  refine gM_of (by decide) (Nat.le_of_ble_eq_true rfl) (fun F C => ?_)
  refine g_aload_n 1 C dX2_isWhole_0 rfl rfl ?_
  refine g_getf 4 C dX2_isWhole_1 fl_RX2_7 rfl (by omega) hP rfl rfl ?_
  refine g_aload_n 5 C dX2_isWhole_4 rfl rfl ?_
  refine g_V0r 8 0 0 C dX2_isWhole_5 rfl lk_RX2_13 gi_X2_shape gv_X2_shape ⟨_, _, rfl⟩ (by omega) hP ⟨⟨by decide, by decide⟩, by decide, by decide⟩ (Nat.le_of_ble_eq_true rfl) rfl rfl rfl (c_X2_shape p P hpb hP9) g_no (fun h9 e5 => ?_)
  subst e5
  refine g_T0r 11 0 0 C dX2_isWhole_8 rfl lk_RX2_17 gi_J0_length_8abf5 gv_J0_length_8abf5 (pSh_r _) ⟨⟨by decide, by decide⟩, by decide, by decide⟩ (Nat.le_of_ble_eq_true rfl) rfl rfl rfl (c_J0_length_8abf5 _ (pSh_r _)) g_no (fun h9 e8 => ?_)
  subst e8
  refine g_icmp_lt 18 14 C dX2_isWhole_11 rfl rfl (by omega) (by omega) (fun c11 => ?_) (fun c11 => ?_)
  · skip
    have ec := gbi_f (b := decide (pLen P.2.1 ≤ (P.1 : Int))) (decide_eq_false (by omega))
    refine g_iconst 19 C dX2_isWhole_18 rfl ?_
    exact g_zret C dX2_isWhole_19 rfl rfl ⟨by decide, by decide⟩ (by rw [ec]; exact ⟨rfl, rfl, rfl, rfl⟩)
  · skip
    have ec := gbi_t (b := decide (pLen P.2.1 ≤ (P.1 : Int))) (decide_eq_true (by omega))
    refine g_iconst 15 C dX2_isWhole_14 rfl ?_
    refine g_goto 19 C dX2_isWhole_15 rfl ?_
    exact g_zret C dX2_isWhole_19 rfl rfl ⟨by decide, by decide⟩ (by rw [ec]; exact ⟨rfl, rfl, rfl, rfl⟩)
set_option maxRecDepth 100000 in
set_option maxHeartbeats 4000000 in
theorem c_X2_takesKind {E : gEnv} {n : Nat} {σ : Option Nat} {h : gH} (p : Nat) (P : gPt) (c : Int) (hpb : gB E ≤ p ∧ p < gB E + n) (hP : isP h p P) (hc : 0 ≤ c ∧ c < 1000)  : gM E mX2_takesKind [.ref p, .int (gi c)] n σ h (gD (some (.int (gi (gbi (pKin P c).isSome)))) n σ (fun h9 => isP h9 p ((pKin P c).getD P) ∧ gKp p (p + 1) h h9)) (gNo) := by
  unfold isP at hP
  refine gM_of (by decide) (Nat.le_of_ble_eq_true rfl) (fun F C => ?_)
  refine g_iload_n 1 C dX2_takesKind_0 rfl rfl ?_
  refine g_bipush 3 C dX2_takesKind_1 (by decide) rfl ?_
  refine g_icmp_eq 14 6 C dX2_takesKind_3 rfl rfl (by omega) (by omega) (fun c3 => ?_) (fun c3 => ?_)
  · skip
    have ek : pKin P c = some (1, decide (c = 119), P.2.2) := if_pos (Or.inl c3)
    refine g_aload_n 15 C dX2_takesKind_14 rfl rfl ?_
    refine g_iload_n 16 C dX2_takesKind_15 rfl rfl ?_
    refine g_bipush 18 C dX2_takesKind_16 (by decide) rfl ?_
    refine g_icmp_ne 25 21 C dX2_takesKind_18 rfl rfl (by omega) (by omega) (fun c18 => ?_) (fun c18 => ?_)
    · skip
      have eb : decide (c = 119) = false := decide_eq_false c18
      refine g_iconst 26 C dX2_takesKind_25 rfl ?_
      refine g_putf 29 C dX2_takesKind_26 fp_RX2_42 rfl (by omega) hP rfl rfl (Nat.le_of_ble_eq_true rfl) rfl ?_
      refine g_aload_n 30 C dX2_takesKind_29 rfl rfl ?_
      refine g_iconst 31 C dX2_takesKind_30 rfl ?_
      refine g_putf 34 C dX2_takesKind_31 fp_RX2_7 rfl (by omega) up_s rfl rfl (Nat.le_of_ble_eq_true rfl) rfl ?_
      refine g_iconst 35 C dX2_takesKind_34 rfl ?_
      exact g_zret C dX2_takesKind_35 rfl rfl ⟨by decide, by decide⟩ (by rw [ek]; exact ⟨rfl, rfl, rfl, by show _ = gO 2 [_, .int (gi (gbi (decide (c = 119)))), _, _, _, _]; rw [eb]; exact up_s, gKp_tr (gKp_up (by omega)) (gKp_up (by omega))⟩)
    · skip
      have eb : decide (c = 119) = true := decide_eq_true (by omega)
      exact absurd c18 (by omega)
  · skip
    refine g_iload_n 7 C dX2_takesKind_6 rfl rfl ?_
    refine g_bipush 9 C dX2_takesKind_7 (by decide) rfl ?_
    refine g_icmp_eq 14 12 C dX2_takesKind_9 rfl rfl (by omega) (by omega) (fun c9 => ?_) (fun c9 => ?_)
    · skip
      have ek : pKin P c = some (1, decide (c = 119), P.2.2) := if_pos (Or.inr c9)
      refine g_aload_n 15 C dX2_takesKind_14 rfl rfl ?_
      refine g_iload_n 16 C dX2_takesKind_15 rfl rfl ?_
      refine g_bipush 18 C dX2_takesKind_16 (by decide) rfl ?_
      refine g_icmp_ne 25 21 C dX2_takesKind_18 rfl rfl (by omega) (by omega) (fun c18 => ?_) (fun c18 => ?_)
      · skip
        have eb : decide (c = 119) = false := decide_eq_false c18
        exact absurd c18 (by omega)
      · skip
        have eb : decide (c = 119) = true := decide_eq_true (by omega)
        refine g_iconst 22 C dX2_takesKind_21 rfl ?_
        refine g_goto 26 C dX2_takesKind_22 rfl ?_
        refine g_putf 29 C dX2_takesKind_26 fp_RX2_42 rfl (by omega) hP rfl rfl (Nat.le_of_ble_eq_true rfl) rfl ?_
        refine g_aload_n 30 C dX2_takesKind_29 rfl rfl ?_
        refine g_iconst 31 C dX2_takesKind_30 rfl ?_
        refine g_putf 34 C dX2_takesKind_31 fp_RX2_7 rfl (by omega) up_s rfl rfl (Nat.le_of_ble_eq_true rfl) rfl ?_
        refine g_iconst 35 C dX2_takesKind_34 rfl ?_
        exact g_zret C dX2_takesKind_35 rfl rfl ⟨by decide, by decide⟩ (by rw [ek]; exact ⟨rfl, rfl, rfl, by show _ = gO 2 [_, .int (gi (gbi (decide (c = 119)))), _, _, _, _]; rw [eb]; exact up_s, gKp_tr (gKp_up (by omega)) (gKp_up (by omega))⟩)
    · skip
      have ek : pKin P c = none := if_neg (by omega)
      refine g_iconst 13 C dX2_takesKind_12 rfl ?_
      exact g_zret C dX2_takesKind_13 rfl rfl ⟨by decide, by decide⟩ (by rw [ek]; exact ⟨rfl, rfl, rfl, hP, gKp_rf⟩)
set_option maxRecDepth 100000 in
set_option maxHeartbeats 4000000 in
theorem c_X2_takesDigit {E : gEnv} {n : Nat} {σ : Option Nat} {h : gH} (p : Nat) (P : gPt) (c m : Int) (hpb : gB E ≤ p ∧ p < gB E + n) (hP : isP h p P) (hc : 0 ≤ c ∧ c < 1000) (hm : 0 ≤ m ∧ m < 1000) (hok : okP P)  : gM E mX2_takesDigit [.ref p, .int (gi c), .int (gi m)] n σ h (gD (some (.int (gi (gbi (pDg P c m).isSome)))) n σ (fun h9 => isP h9 p ((pDg P c m).getD P) ∧ gKp p (p + 1) h h9)) (gNo) := by
  unfold isP at hP
  obtain ⟨o1, o2, o3, o4, o5, o6, o7⟩ := hok
  refine gM_of (by decide) (Nat.le_of_ble_eq_true rfl) (fun F C => ?_)
  refine g_iload_n 1 C dX2_takesDigit_0 rfl rfl ?_
  refine g_bipush 3 C dX2_takesDigit_1 (by decide) rfl ?_
  refine g_icmp_lt 11 6 C dX2_takesDigit_3 rfl rfl (by omega) (by omega) (fun c3 => ?_) (fun c3 => ?_)
  · skip
    have ek : pDg P c m = none := if_neg (by omega)
    refine g_iconst 12 C dX2_takesDigit_11 rfl ?_
    exact g_zret C dX2_takesDigit_12 rfl rfl ⟨by decide, by decide⟩ (by rw [ek]; exact ⟨rfl, rfl, rfl, hP, gKp_rf⟩)
  · skip
    refine g_iload_n 7 C dX2_takesDigit_6 rfl rfl ?_
    refine g_iload_n 8 C dX2_takesDigit_7 rfl rfl ?_
    refine g_icmp_le 13 11 C dX2_takesDigit_8 rfl rfl (by omega) (by omega) (fun c8 => ?_) (fun c8 => ?_)
    · skip
      have ek : pDg P c m = some (pDig P (c - 48)) := if_pos (by omega)
      refine g_iload_n 14 C dX2_takesDigit_13 rfl rfl ?_
      refine g_bipush 16 C dX2_takesDigit_14 (by decide) rfl ?_
      refine g_isub 17 C dX2_takesDigit_16 rfl ?_
      refine g_istore_n 18 [(3, _), (0, _), (1, _), (2, _)] C dX2_takesDigit_17 (by decide) rfl rfl ?_
      refine g_aload_n 19 C dX2_takesDigit_18 rfl rfl ?_
      refine g_getf 22 C dX2_takesDigit_19 fl_RX2_7 rfl (by omega) hP rfl rfl ?_
      skip
      by_cases z22_1 : (P.1 : Int) = 1
      · skip
        refine g_table 56 C dX2_takesDigit_22 (by omega) (by omega) (by omega) (off := 34) (by rw [z22_1]; rfl) rfl ?_
        have epd : pDig P (c - 48) = (P.1 + 1, P.2.1, c - 48, P.2.2.2) := if_pos (by omega)
        refine g_aload_n 57 C dX2_takesDigit_56 rfl rfl ?_
        refine g_iload_n 58 C dX2_takesDigit_57 rfl rfl ?_
        refine g_putf 61 C dX2_takesDigit_58 fp_RX2_50 rfl (by omega) hP rfl rfl (Nat.le_of_ble_eq_true rfl) rfl ?_
        refine g_goto 85 C dX2_takesDigit_61 rfl ?_
        refine g_aload_n 86 C dX2_takesDigit_85 rfl rfl ?_
        refine g_dup 87 C dX2_takesDigit_86 rfl rfl ?_
        refine g_getf 90 C dX2_takesDigit_87 fl_RX2_7 rfl (by omega) up_s rfl rfl ?_
        refine g_iconst 91 C dX2_takesDigit_90 rfl ?_
        refine g_iadd 92 C dX2_takesDigit_91 rfl ?_
        refine g_putf 95 C dX2_takesDigit_92 fp_RX2_7 rfl (by omega) up_s rfl rfl (Nat.le_of_ble_eq_true rfl) rfl ?_
        refine g_iconst 96 C dX2_takesDigit_95 rfl ?_
        exact g_zret C dX2_takesDigit_96 rfl rfl ⟨by decide, by decide⟩ (by rw [ek, epd]; exact ⟨rfl, rfl, rfl, up_s, gKp_tr (gKp_up (by omega)) (gKp_up (by omega))⟩)
      by_cases z22_2 : (P.1 : Int) = 2
      · skip
        refine g_table 80 C dX2_takesDigit_22 (by omega) (by omega) (by omega) (off := 58) (by rw [z22_2]; rfl) rfl ?_
        have epd : pDig P (c - 48) = (P.1 + 1, P.2.1, P.2.2.1, P.2.2.2.1, P.2.2.2.2.1, c - 48) := by unfold pDig; rw [if_neg (show ¬ P.1 = 1 by omega), if_neg (show ¬ P.1 = 3 by omega), if_neg (show ¬ P.1 = 5 by omega)]
        refine g_aload_n 81 C dX2_takesDigit_80 rfl rfl ?_
        refine g_iload_n 82 C dX2_takesDigit_81 rfl rfl ?_
        refine g_putf 85 C dX2_takesDigit_82 fp_RX2_59 rfl (by omega) hP rfl rfl (Nat.le_of_ble_eq_true rfl) rfl ?_
        refine g_aload_n 86 C dX2_takesDigit_85 rfl rfl ?_
        refine g_dup 87 C dX2_takesDigit_86 rfl rfl ?_
        refine g_getf 90 C dX2_takesDigit_87 fl_RX2_7 rfl (by omega) up_s rfl rfl ?_
        refine g_iconst 91 C dX2_takesDigit_90 rfl ?_
        refine g_iadd 92 C dX2_takesDigit_91 rfl ?_
        refine g_putf 95 C dX2_takesDigit_92 fp_RX2_7 rfl (by omega) up_s rfl rfl (Nat.le_of_ble_eq_true rfl) rfl ?_
        refine g_iconst 96 C dX2_takesDigit_95 rfl ?_
        exact g_zret C dX2_takesDigit_96 rfl rfl ⟨by decide, by decide⟩ (by rw [ek, epd]; exact ⟨rfl, rfl, rfl, up_s, gKp_tr (gKp_up (by omega)) (gKp_up (by omega))⟩)
      by_cases z22_3 : (P.1 : Int) = 3
      · skip
        refine g_table 64 C dX2_takesDigit_22 (by omega) (by omega) (by omega) (off := 42) (by rw [z22_3]; rfl) rfl ?_
        have epd : pDig P (c - 48) = (P.1 + 1, P.2.1, P.2.2.1, c - 48, P.2.2.2.2) := by unfold pDig; rw [if_neg (show ¬ P.1 = 1 by omega), if_pos (show P.1 = 3 by omega)]
        refine g_aload_n 65 C dX2_takesDigit_64 rfl rfl ?_
        refine g_iload_n 66 C dX2_takesDigit_65 rfl rfl ?_
        refine g_putf 69 C dX2_takesDigit_66 fp_RX2_53 rfl (by omega) hP rfl rfl (Nat.le_of_ble_eq_true rfl) rfl ?_
        refine g_goto 85 C dX2_takesDigit_69 rfl ?_
        refine g_aload_n 86 C dX2_takesDigit_85 rfl rfl ?_
        refine g_dup 87 C dX2_takesDigit_86 rfl rfl ?_
        refine g_getf 90 C dX2_takesDigit_87 fl_RX2_7 rfl (by omega) up_s rfl rfl ?_
        refine g_iconst 91 C dX2_takesDigit_90 rfl ?_
        refine g_iadd 92 C dX2_takesDigit_91 rfl ?_
        refine g_putf 95 C dX2_takesDigit_92 fp_RX2_7 rfl (by omega) up_s rfl rfl (Nat.le_of_ble_eq_true rfl) rfl ?_
        refine g_iconst 96 C dX2_takesDigit_95 rfl ?_
        exact g_zret C dX2_takesDigit_96 rfl rfl ⟨by decide, by decide⟩ (by rw [ek, epd]; exact ⟨rfl, rfl, rfl, up_s, gKp_tr (gKp_up (by omega)) (gKp_up (by omega))⟩)
      by_cases z22_4 : (P.1 : Int) = 4
      · skip
        refine g_table 80 C dX2_takesDigit_22 (by omega) (by omega) (by omega) (off := 58) (by rw [z22_4]; rfl) rfl ?_
        have epd : pDig P (c - 48) = (P.1 + 1, P.2.1, P.2.2.1, P.2.2.2.1, P.2.2.2.2.1, c - 48) := by unfold pDig; rw [if_neg (show ¬ P.1 = 1 by omega), if_neg (show ¬ P.1 = 3 by omega), if_neg (show ¬ P.1 = 5 by omega)]
        refine g_aload_n 81 C dX2_takesDigit_80 rfl rfl ?_
        refine g_iload_n 82 C dX2_takesDigit_81 rfl rfl ?_
        refine g_putf 85 C dX2_takesDigit_82 fp_RX2_59 rfl (by omega) hP rfl rfl (Nat.le_of_ble_eq_true rfl) rfl ?_
        refine g_aload_n 86 C dX2_takesDigit_85 rfl rfl ?_
        refine g_dup 87 C dX2_takesDigit_86 rfl rfl ?_
        refine g_getf 90 C dX2_takesDigit_87 fl_RX2_7 rfl (by omega) up_s rfl rfl ?_
        refine g_iconst 91 C dX2_takesDigit_90 rfl ?_
        refine g_iadd 92 C dX2_takesDigit_91 rfl ?_
        refine g_putf 95 C dX2_takesDigit_92 fp_RX2_7 rfl (by omega) up_s rfl rfl (Nat.le_of_ble_eq_true rfl) rfl ?_
        refine g_iconst 96 C dX2_takesDigit_95 rfl ?_
        exact g_zret C dX2_takesDigit_96 rfl rfl ⟨by decide, by decide⟩ (by rw [ek, epd]; exact ⟨rfl, rfl, rfl, up_s, gKp_tr (gKp_up (by omega)) (gKp_up (by omega))⟩)
      by_cases z22_5 : (P.1 : Int) = 5
      · skip
        refine g_table 72 C dX2_takesDigit_22 (by omega) (by omega) (by omega) (off := 50) (by rw [z22_5]; rfl) rfl ?_
        have epd : pDig P (c - 48) = (P.1 + 1, P.2.1, P.2.2.1, P.2.2.2.1, c - 48, P.2.2.2.2.2) := by unfold pDig; rw [if_neg (show ¬ P.1 = 1 by omega), if_neg (show ¬ P.1 = 3 by omega), if_pos (show P.1 = 5 by omega)]
        refine g_aload_n 73 C dX2_takesDigit_72 rfl rfl ?_
        refine g_iload_n 74 C dX2_takesDigit_73 rfl rfl ?_
        refine g_putf 77 C dX2_takesDigit_74 fp_RX2_56 rfl (by omega) hP rfl rfl (Nat.le_of_ble_eq_true rfl) rfl ?_
        refine g_goto 85 C dX2_takesDigit_77 rfl ?_
        refine g_aload_n 86 C dX2_takesDigit_85 rfl rfl ?_
        refine g_dup 87 C dX2_takesDigit_86 rfl rfl ?_
        refine g_getf 90 C dX2_takesDigit_87 fl_RX2_7 rfl (by omega) up_s rfl rfl ?_
        refine g_iconst 91 C dX2_takesDigit_90 rfl ?_
        refine g_iadd 92 C dX2_takesDigit_91 rfl ?_
        refine g_putf 95 C dX2_takesDigit_92 fp_RX2_7 rfl (by omega) up_s rfl rfl (Nat.le_of_ble_eq_true rfl) rfl ?_
        refine g_iconst 96 C dX2_takesDigit_95 rfl ?_
        exact g_zret C dX2_takesDigit_96 rfl rfl ⟨by decide, by decide⟩ (by rw [ek, epd]; exact ⟨rfl, rfl, rfl, up_s, gKp_tr (gKp_up (by omega)) (gKp_up (by omega))⟩)
      refine g_tableD 80 C dX2_takesDigit_22 (by omega) (by omega) rfl ?_
      have epd : pDig P (c - 48) = (P.1 + 1, P.2.1, P.2.2.1, P.2.2.2.1, P.2.2.2.2.1, c - 48) := by unfold pDig; rw [if_neg (show ¬ P.1 = 1 by omega), if_neg (show ¬ P.1 = 3 by omega), if_neg (show ¬ P.1 = 5 by omega)]
      refine g_aload_n 81 C dX2_takesDigit_80 rfl rfl ?_
      refine g_iload_n 82 C dX2_takesDigit_81 rfl rfl ?_
      refine g_putf 85 C dX2_takesDigit_82 fp_RX2_59 rfl (by omega) hP rfl rfl (Nat.le_of_ble_eq_true rfl) rfl ?_
      refine g_aload_n 86 C dX2_takesDigit_85 rfl rfl ?_
      refine g_dup 87 C dX2_takesDigit_86 rfl rfl ?_
      refine g_getf 90 C dX2_takesDigit_87 fl_RX2_7 rfl (by omega) up_s rfl rfl ?_
      refine g_iconst 91 C dX2_takesDigit_90 rfl ?_
      refine g_iadd 92 C dX2_takesDigit_91 rfl ?_
      refine g_putf 95 C dX2_takesDigit_92 fp_RX2_7 rfl (by omega) up_s rfl rfl (Nat.le_of_ble_eq_true rfl) rfl ?_
      refine g_iconst 96 C dX2_takesDigit_95 rfl ?_
      exact g_zret C dX2_takesDigit_96 rfl rfl ⟨by decide, by decide⟩ (by rw [ek, epd]; exact ⟨rfl, rfl, rfl, up_s, gKp_tr (gKp_up (by omega)) (gKp_up (by omega))⟩)
    · skip
      have ek : pDg P c m = none := if_neg (by omega)
      refine g_iconst 12 C dX2_takesDigit_11 rfl ?_
      exact g_zret C dX2_takesDigit_12 rfl rfl ⟨by decide, by decide⟩ (by rw [ek]; exact ⟨rfl, rfl, rfl, hP, gKp_rf⟩)
set_option maxRecDepth 100000 in
set_option maxHeartbeats 4000000 in
theorem c_X2_takesEnd {E : gEnv} {n : Nat} {σ : Option Nat} {h : gH} (p : Nat) (P : gPt) (c : Int) (hpb : gB E ≤ p ∧ p < gB E + n) (hP : isP h p P) (hc : 0 ≤ c ∧ c < 1000) (hok : okP P)  : gM E mX2_takesEnd [.ref p, .int (gi c)] n σ h (gD (some (.int (gi (gbi (pEnd P c).isSome)))) n σ (fun h9 => isP h9 p ((pEnd P c).getD P) ∧ gKp p (p + 1) h h9)) (gNo) := by
  have hP9 := hP
  unfold isP at hP
  obtain ⟨o1, o2, o3, o4, o5, o6, o7⟩ := hok
  refine gM_of (by decide) (Nat.le_of_ble_eq_true rfl) (fun F C => ?_)
  refine g_iload_n 1 C dX2_takesEnd_0 rfl rfl ?_
  refine g_bipush 3 C dX2_takesEnd_1 (by decide) rfl ?_
  refine g_icmp_ne 12 6 C dX2_takesEnd_3 rfl rfl (by omega) (by omega) (fun c3 => ?_) (fun c3 => ?_)
  · skip
    refine g_aload_n 13 C dX2_takesEnd_12 rfl rfl ?_
    refine g_getf 16 C dX2_takesEnd_13 fl_RX2_42 rfl (by omega) hP rfl rfl ?_
    refine g_if_eq 42 19 C dX2_takesEnd_16 rfl rfl (gbi_r _) (fun c16 => ?_) (fun c16 => ?_)
    · skip
      have hw := gbi_0 c16
      have ek : pEnd P c = none := by unfold pEnd; rw [if_neg (show ¬ c = 59 by omega), if_neg (fun z => by have z9 := z.1.1; rw [hw] at z9; cases z9)]
      refine g_iconst 43 C dX2_takesEnd_42 rfl ?_
      refine g_istore_n 44 [(2, _), (0, _), (1, _)] C dX2_takesEnd_43 (by decide) rfl rfl ?_
      refine g_iload_n 45 C dX2_takesEnd_44 rfl rfl ?_
      refine g_if_eq 60 48 C dX2_takesEnd_45 rfl rfl (by omega) (fun c45 => ?_) (fun c45 => ?_)
      · skip
        refine g_iconst 61 C dX2_takesEnd_60 rfl ?_
        exact g_zret C dX2_takesEnd_61 rfl rfl ⟨by decide, by decide⟩ (by rw [ek]; exact ⟨rfl, rfl, rfl, hP9, gKp_rf⟩)
      · skip
        exact absurd c45 (by omega)
    · skip
      have hw := gbi_1 c16
      refine g_aload_n 20 C dX2_takesEnd_19 rfl rfl ?_
      refine g_getf 23 C dX2_takesEnd_20 fl_RX2_7 rfl (by omega) hP rfl rfl ?_
      refine g_ldcS (i := 0) 25 C dX2_takesEnd_23 rfl rfl rfl ?_
      refine g_T0r 28 0 0 C dX2_takesEnd_25 rfl lk_RX2_17 gi_J0_length_8abf5 gv_J0_length_8abf5 (by decide) ⟨⟨by decide, by decide⟩, by decide, by decide⟩ (Nat.le_of_ble_eq_true rfl) rfl rfl rfl (show gM E mJ0_length_8abf5 [.ref (gSa E 0)] n σ h (gD (some (.int (gi 8))) n σ (fun h9 => h9 = h)) gNo from c_J0_length_8abf5 0 (by decide)) g_no (fun h9 e25 => ?_)
      subst e25
      refine g_icmp_ne 42 31 C dX2_takesEnd_28 rfl rfl (by omega) (by omega) (fun c28 => ?_) (fun c28 => ?_)
      · skip
        have ek : pEnd P c = none := by unfold pEnd; rw [if_neg (show ¬ c = 59 by omega), if_neg (fun z => absurd z.1.2.1 (by omega))]
        refine g_iconst 43 C dX2_takesEnd_42 rfl ?_
        refine g_istore_n 44 [(2, _), (0, _), (1, _)] C dX2_takesEnd_43 (by decide) rfl rfl ?_
        refine g_iload_n 45 C dX2_takesEnd_44 rfl rfl ?_
        refine g_if_eq 60 48 C dX2_takesEnd_45 rfl rfl (by omega) (fun c45 => ?_) (fun c45 => ?_)
        · skip
          refine g_iconst 61 C dX2_takesEnd_60 rfl ?_
          exact g_zret C dX2_takesEnd_61 rfl rfl ⟨by decide, by decide⟩ (by rw [ek]; exact ⟨rfl, rfl, rfl, hP9, gKp_rf⟩)
        · skip
          exact absurd c45 (by omega)
      · skip
        refine g_aload_n 32 C dX2_takesEnd_31 rfl rfl ?_
        refine g_getf 35 C dX2_takesEnd_32 fl_RX2_59 rfl (by omega) hP rfl rfl ?_
        refine g_if_le 42 38 C dX2_takesEnd_35 rfl rfl (by omega) (fun c35 => ?_) (fun c35 => ?_)
        · skip
          have ek : pEnd P c = none := by unfold pEnd; rw [if_neg (show ¬ c = 59 by omega), if_neg (fun z => absurd z.1.2.2 (by omega))]
          refine g_iconst 43 C dX2_takesEnd_42 rfl ?_
          refine g_istore_n 44 [(2, _), (0, _), (1, _)] C dX2_takesEnd_43 (by decide) rfl rfl ?_
          refine g_iload_n 45 C dX2_takesEnd_44 rfl rfl ?_
          refine g_if_eq 60 48 C dX2_takesEnd_45 rfl rfl (by omega) (fun c45 => ?_) (fun c45 => ?_)
          · skip
            refine g_iconst 61 C dX2_takesEnd_60 rfl ?_
            exact g_zret C dX2_takesEnd_61 rfl rfl ⟨by decide, by decide⟩ (by rw [ek]; exact ⟨rfl, rfl, rfl, hP9, gKp_rf⟩)
          · skip
            exact absurd c45 (by omega)
        · skip
          refine g_iconst 39 C dX2_takesEnd_38 rfl ?_
          refine g_goto 43 C dX2_takesEnd_39 rfl ?_
          refine g_istore_n 44 [(2, _), (0, _), (1, _)] C dX2_takesEnd_43 (by decide) rfl rfl ?_
          refine g_iload_n 45 C dX2_takesEnd_44 rfl rfl ?_
          refine g_if_eq 60 48 C dX2_takesEnd_45 rfl rfl (by omega) (fun c45 => ?_) (fun c45 => ?_)
          · skip
            exact absurd c45 (by omega)
          · skip
            refine g_iload_n 49 C dX2_takesEnd_48 rfl rfl ?_
            refine g_bipush 51 C dX2_takesEnd_49 (by decide) rfl ?_
            refine g_icmp_lt 60 54 C dX2_takesEnd_51 rfl rfl (by omega) (by omega) (fun c51 => ?_) (fun c51 => ?_)
            · skip
              have ek : pEnd P c = none := by unfold pEnd; rw [if_neg (show ¬ c = 59 by omega), if_neg (fun z => absurd z.2 (by omega))]
              refine g_iconst 61 C dX2_takesEnd_60 rfl ?_
              exact g_zret C dX2_takesEnd_61 rfl rfl ⟨by decide, by decide⟩ (by rw [ek]; exact ⟨rfl, rfl, rfl, hP9, gKp_rf⟩)
            · skip
              refine g_iload_n 55 C dX2_takesEnd_54 rfl rfl ?_
              refine g_bipush 57 C dX2_takesEnd_55 (by decide) rfl ?_
              refine g_icmp_le 62 60 C dX2_takesEnd_57 rfl rfl (by omega) (by omega) (fun c57 => ?_) (fun c57 => ?_)
              · skip
                have ek : pEnd P c = some (P.1 + 1, P.2.1, P.2.2.1, P.2.2.2.1, P.2.2.2.2.1, 10 * P.2.2.2.2.2 + c - 48) := by unfold pEnd; rw [if_neg (show ¬ c = 59 by omega), if_pos ⟨⟨hw, by omega, by omega⟩, by omega, by omega⟩]
                refine g_aload_n 63 C dX2_takesEnd_62 rfl rfl ?_
                refine g_bipush 65 C dX2_takesEnd_63 (by decide) rfl ?_
                refine g_aload_n 66 C dX2_takesEnd_65 rfl rfl ?_
                refine g_getf 69 C dX2_takesEnd_66 fl_RX2_59 rfl (by omega) hP rfl rfl ?_
                refine g_imul 70 C dX2_takesEnd_69 rfl ?_
                refine g_iload_n 71 C dX2_takesEnd_70 rfl rfl ?_
                refine g_iadd 72 C dX2_takesEnd_71 rfl ?_
                refine g_bipush 74 C dX2_takesEnd_72 (by decide) rfl ?_
                refine g_isub 75 C dX2_takesEnd_74 rfl ?_
                refine g_putf 78 C dX2_takesEnd_75 fp_RX2_59 rfl (by omega) hP rfl rfl (Nat.le_of_ble_eq_true rfl) rfl ?_
                refine g_aload_n 79 C dX2_takesEnd_78 rfl rfl ?_
                refine g_dup 80 C dX2_takesEnd_79 rfl rfl ?_
                refine g_getf 83 C dX2_takesEnd_80 fl_RX2_7 rfl (by omega) up_s rfl rfl ?_
                refine g_iconst 84 C dX2_takesEnd_83 rfl ?_
                refine g_iadd 85 C dX2_takesEnd_84 rfl ?_
                refine g_putf 88 C dX2_takesEnd_85 fp_RX2_7 rfl (by omega) up_s rfl rfl (Nat.le_of_ble_eq_true rfl) rfl ?_
                refine g_iconst 89 C dX2_takesEnd_88 rfl ?_
                exact g_zret C dX2_takesEnd_89 rfl rfl ⟨by decide, by decide⟩ (by rw [ek]; exact ⟨rfl, rfl, rfl, up_s, gKp_tr (gKp_up (by omega)) (gKp_up (by omega))⟩)
              · skip
                have ek : pEnd P c = none := by unfold pEnd; rw [if_neg (show ¬ c = 59 by omega), if_neg (fun z => absurd z.2 (by omega))]
                refine g_iconst 61 C dX2_takesEnd_60 rfl ?_
                exact g_zret C dX2_takesEnd_61 rfl rfl ⟨by decide, by decide⟩ (by rw [ek]; exact ⟨rfl, rfl, rfl, hP9, gKp_rf⟩)
  · skip
    have ek : pEnd P c = some (0, P.2) := if_pos (by omega)
    refine g_aload_n 7 C dX2_takesEnd_6 rfl rfl ?_
    refine g_V0v 10 0 0 C dX2_takesEnd_7 rfl lk_RX2_62 gi_X2_restart gv_X2_restart ⟨_, _, rfl⟩ (by omega) hP ⟨⟨by decide, by decide⟩, by decide, by decide⟩ (Nat.le_of_ble_eq_true rfl) rfl rfl rfl (c_X2_restart p P hpb hP9) g_no (fun h2 e7 => ?_)
    obtain ⟨hP2, hk2⟩ := e7
    refine g_iconst 11 C dX2_takesEnd_10 rfl ?_
    exact g_zret C dX2_takesEnd_11 rfl rfl ⟨by decide, by decide⟩ (by rw [ek]; exact ⟨rfl, rfl, rfl, hP2, hk2⟩)
set_option maxRecDepth 100000 in
set_option maxHeartbeats 4000000 in
theorem c_X2_takes {E : gEnv} {n : Nat} {σ : Option Nat} {h : gH} (p : Nat) (P : gPt) (c : Int) (hpb : gB E ≤ p ∧ p < gB E + n) (hP : isP h p P) (hc : 0 ≤ c ∧ c < 1000) (hok : okP P)  : gM E mX2_takes [.ref p, .int (gi c)] n σ h (gD (some (.int (gi (gbi (pTk P c).isSome)))) n σ (fun h9 => isP h9 p ((pTk P c).getD P) ∧ gKp p (p + 1) h h9)) (gNo) := by
  have hP9 := hP
  have hok9 := hok
  unfold isP at hP
  obtain ⟨o1, o2, o3, o4, o5, o6, o7⟩ := hok
  have hl := pLen_r P.2.1
  refine gM_of (by decide) (Nat.le_of_ble_eq_true rfl) (fun F C => ?_)
  refine g_aload_n 1 C dX2_takes_0 rfl rfl ?_
  refine g_getf 4 C dX2_takes_1 fl_RX2_7 rfl (by omega) hP rfl rfl ?_
  refine g_if_ne 13 7 C dX2_takes_4 rfl rfl (by omega) (fun c4 => ?_) (fun c4 => ?_)
  · skip
    refine g_aload_n 14 C dX2_takes_13 rfl rfl ?_
    refine g_V0r 17 0 0 C dX2_takes_14 rfl lk_RX2_27 gi_X2_isWhole gv_X2_isWhole ⟨_, _, rfl⟩ (by omega) hP ⟨⟨by decide, by decide⟩, by decide, by decide⟩ (Nat.le_of_ble_eq_true rfl) rfl rfl rfl (c_X2_isWhole p P hpb hP9 hok9) g_no (fun h9 e14 => ?_)
    subst e14
    refine g_if_eq 26 20 C dX2_takes_17 rfl rfl (gbi_r _) (fun c17 => ?_) (fun c17 => ?_)
    · skip
      have hw := of_decide_eq_false (gbi_0 c17)
      have hdu := pDue_r (P := P) (by omega)
      refine g_aload_n 27 C dX2_takes_26 rfl rfl ?_
      refine g_V0r 30 0 0 C dX2_takes_27 rfl lk_RX2_13 gi_X2_shape gv_X2_shape ⟨_, _, rfl⟩ (by omega) hP ⟨⟨by decide, by decide⟩, by decide, by decide⟩ (Nat.le_of_ble_eq_true rfl) rfl rfl rfl (c_X2_shape p P hpb hP9) g_no (fun h9 e27 => ?_)
      subst e27
      refine g_aload_n 31 C dX2_takes_30 rfl rfl ?_
      refine g_getf 34 C dX2_takes_31 fl_RX2_7 rfl (by omega) hP rfl rfl ?_
      refine g_T1r 37 0 0 C dX2_takes_34 rfl lk_RX2_34 gi_J0_charAt_5068e gv_J0_charAt_5068e (pSh_r _) ⟨⟨by decide, by decide⟩, by decide, by decide⟩ (Nat.le_of_ble_eq_true rfl) rfl rfl rfl (c_J0_charAt_5068e _ _ (pSh_r _) hdu.2.2) g_no (fun h9 e34 => ?_)
      subst e34
      rw [show gChr (pSh P.2.1) P.1 = pDue P from rfl]
      refine g_istore_n 38 [(2, _), (0, _), (1, _)] C dX2_takes_37 (by decide) rfl rfl ?_
      refine g_iload_n 39 C dX2_takes_38 rfl rfl ?_
      refine g_bipush 41 C dX2_takes_39 (by decide) rfl ?_
      refine g_icmp_lt 57 44 C dX2_takes_41 rfl rfl (by omega) (by omega) (fun c41 => ?_) (fun c41 => ?_)
      · skip
        have hdn : ¬ (48 ≤ pDue P ∧ pDue P ≤ 57) := by omega
        refine g_iload_n 58 C dX2_takes_57 rfl rfl ?_
        refine g_iload_n 59 C dX2_takes_58 rfl rfl ?_
        refine g_icmp_eq 64 62 C dX2_takes_59 rfl rfl (by omega) (by omega) (fun c59 => ?_) (fun c59 => ?_)
        · skip
          have ek : pTk P c = some (P.1 + 1, P.2) := by unfold pTk; rw [if_neg (show ¬ P.1 = 0 by omega), if_neg hw, if_neg hdn, if_pos c59]
          refine g_aload_n 65 C dX2_takes_64 rfl rfl ?_
          refine g_dup 66 C dX2_takes_65 rfl rfl ?_
          refine g_getf 69 C dX2_takes_66 fl_RX2_7 rfl (by omega) hP rfl rfl ?_
          refine g_iconst 70 C dX2_takes_69 rfl ?_
          refine g_iadd 71 C dX2_takes_70 rfl ?_
          refine g_putf 74 C dX2_takes_71 fp_RX2_7 rfl (by omega) hP rfl rfl (Nat.le_of_ble_eq_true rfl) rfl ?_
          refine g_iconst 75 C dX2_takes_74 rfl ?_
          exact g_zret C dX2_takes_75 rfl rfl ⟨by decide, by decide⟩ (by rw [ek]; exact ⟨rfl, rfl, rfl, up_s, gKp_up (by omega)⟩)
        · skip
          have ek : pTk P c = none := by unfold pTk; rw [if_neg (show ¬ P.1 = 0 by omega), if_neg hw, if_neg hdn, if_neg c59]
          refine g_iconst 63 C dX2_takes_62 rfl ?_
          exact g_zret C dX2_takes_63 rfl rfl ⟨by decide, by decide⟩ (by rw [ek]; exact ⟨rfl, rfl, rfl, hP9, gKp_rf⟩)
      · skip
        refine g_iload_n 45 C dX2_takes_44 rfl rfl ?_
        refine g_bipush 47 C dX2_takes_45 (by decide) rfl ?_
        refine g_icmp_gt 57 50 C dX2_takes_47 rfl rfl (by omega) (by omega) (fun c47 => ?_) (fun c47 => ?_)
        · skip
          have hdn : ¬ (48 ≤ pDue P ∧ pDue P ≤ 57) := by omega
          refine g_iload_n 58 C dX2_takes_57 rfl rfl ?_
          refine g_iload_n 59 C dX2_takes_58 rfl rfl ?_
          refine g_icmp_eq 64 62 C dX2_takes_59 rfl rfl (by omega) (by omega) (fun c59 => ?_) (fun c59 => ?_)
          · skip
            have ek : pTk P c = some (P.1 + 1, P.2) := by unfold pTk; rw [if_neg (show ¬ P.1 = 0 by omega), if_neg hw, if_neg hdn, if_pos c59]
            refine g_aload_n 65 C dX2_takes_64 rfl rfl ?_
            refine g_dup 66 C dX2_takes_65 rfl rfl ?_
            refine g_getf 69 C dX2_takes_66 fl_RX2_7 rfl (by omega) hP rfl rfl ?_
            refine g_iconst 70 C dX2_takes_69 rfl ?_
            refine g_iadd 71 C dX2_takes_70 rfl ?_
            refine g_putf 74 C dX2_takes_71 fp_RX2_7 rfl (by omega) hP rfl rfl (Nat.le_of_ble_eq_true rfl) rfl ?_
            refine g_iconst 75 C dX2_takes_74 rfl ?_
            exact g_zret C dX2_takes_75 rfl rfl ⟨by decide, by decide⟩ (by rw [ek]; exact ⟨rfl, rfl, rfl, up_s, gKp_up (by omega)⟩)
          · skip
            have ek : pTk P c = none := by unfold pTk; rw [if_neg (show ¬ P.1 = 0 by omega), if_neg hw, if_neg hdn, if_neg c59]
            refine g_iconst 63 C dX2_takes_62 rfl ?_
            exact g_zret C dX2_takes_63 rfl rfl ⟨by decide, by decide⟩ (by rw [ek]; exact ⟨rfl, rfl, rfl, hP9, gKp_rf⟩)
        · skip
          have ek : pTk P c = pDg P c (pDue P) := by unfold pTk; rw [if_neg (show ¬ P.1 = 0 by omega), if_neg hw, if_pos ⟨by omega, by omega⟩]
          refine g_aload_n 51 C dX2_takes_50 rfl rfl ?_
          refine g_iload_n 52 C dX2_takes_51 rfl rfl ?_
          refine g_iload_n 53 C dX2_takes_52 rfl rfl ?_
          refine g_V2r 56 0 0 C dX2_takes_53 rfl lk_RX2_38 gi_X2_takesDigit gv_X2_takesDigit ⟨_, _, rfl⟩ (by omega) hP ⟨⟨by decide, by decide⟩, by decide, by decide⟩ (Nat.le_of_ble_eq_true rfl) rfl rfl rfl (c_X2_takesDigit p P c (pDue P) hpb hP9 hc ⟨hdu.1, by omega⟩ hok9) g_no (fun h2 e53 => ?_)
          obtain ⟨hP2, hk2⟩ := e53
          exact g_zret C dX2_takes_56 rfl (gbi_z _) ⟨by decide, by decide⟩ (by rw [ek]; exact ⟨rfl, rfl, rfl, hP2, hk2⟩)
    · skip
      have hw := of_decide_eq_true (gbi_1 c17)
      have ek : pTk P c = pEnd P c := by unfold pTk; rw [if_neg (show ¬ P.1 = 0 by omega), if_pos hw]
      refine g_aload_n 21 C dX2_takes_20 rfl rfl ?_
      refine g_iload_n 22 C dX2_takes_21 rfl rfl ?_
      refine g_V1r 25 0 0 C dX2_takes_22 rfl lk_RX2_31 gi_X2_takesEnd gv_X2_takesEnd ⟨_, _, rfl⟩ (by omega) hP ⟨⟨by decide, by decide⟩, by decide, by decide⟩ (Nat.le_of_ble_eq_true rfl) rfl rfl rfl (c_X2_takesEnd p P c hpb hP9 hc hok9) g_no (fun h2 e22 => ?_)
      obtain ⟨hP2, hk2⟩ := e22
      exact g_zret C dX2_takes_25 rfl (gbi_z _) ⟨by decide, by decide⟩ (by rw [ek]; exact ⟨rfl, rfl, rfl, hP2, hk2⟩)
  · skip
    have ek : pTk P c = pKin P c := if_pos (by omega)
    refine g_aload_n 8 C dX2_takes_7 rfl rfl ?_
    refine g_iload_n 9 C dX2_takes_8 rfl rfl ?_
    refine g_V1r 12 0 0 C dX2_takes_9 rfl lk_RX2_23 gi_X2_takesKind gv_X2_takesKind ⟨_, _, rfl⟩ (by omega) hP ⟨⟨by decide, by decide⟩, by decide, by decide⟩ (Nat.le_of_ble_eq_true rfl) rfl rfl rfl (c_X2_takesKind p P c hpb hP9 hc) g_no (fun h2 e9 => ?_)
    obtain ⟨hP2, hk2⟩ := e9
    exact g_zret C dX2_takes_12 rfl (gbi_z _) ⟨by decide, by decide⟩ (by rw [ek]; exact ⟨rfl, rfl, rfl, hP2, hk2⟩)
