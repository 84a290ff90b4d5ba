/-! SiblingJoins: what it is; its checks; save -/
/-- now; how many saved, and which; how many characters, and which -/
abbrev gTt : Type := gSt × (Nat × (Int → gSt)) × (Nat × (Int → Int))
/-- where the six saved states lie -/
def gPl (x : Nat) (g : Int → Nat) : Prop := (∀ i : Int, 0 ≤ i → i < 6 → x + 134 ≤ g i ∧ g i + 65 ≤ x + 524) ∧ ∀ i j : Int, 0 ≤ i → i < 6 → 0 ≤ j → j < 6 → i ≠ j → g i + 65 ≤ g j ∨ g j + 65 ≤ g i
def isJo (h : gH) (x : Nat) (c bl : Nat) : Prop := h x = gO 4 [.ref (x + 1), .ref (x + 66), .ref (x + 131), .int (gi (c : Int)), .ref (x + 132), .int (gi (bl : Int)), .ref (x + 133)]
def isJv (E : gEnv) (h : gH) (x : Nat) (d : Nat × (Int → gSt)) : Prop := ∃ (f : Int → Option Nat) (g : Int → Nat), h (x + 131) = gR E 4 6 f ∧ (∀ i : Int, 0 ≤ i → i < 6 → f i = some (g i)) ∧ gPl x g ∧ ∀ i : Int, 0 ≤ i → i < 6 → ∃ S : gSt, isS E h (g i) S ∧ okS S ∧ (i < (d.1 : Int) → S = d.2 i)
def isJb (E : gEnv) (h : gH) (x : Nat) (d : Nat × (Int → Int)) : Prop := ∃ b : Int → Int, h (x + 132) = gI E 60 b ∧ ∀ j : Int, 0 ≤ j → j < (d.1 : Int) → b j = d.2 j
def isJp (h : gH) (x : Nat) : Prop := ∃ P : gPt, isP h (x + 133) P ∧ okP P
def isJ (E : gEnv) (h : gH) (x : Nat) (T : gTt) : Prop :=
  isJo h x T.2.1.1 T.2.2.1 ∧ isS E h (x + 1) T.1 ∧ (∃ S : gSt, isS E h (x + 66) S ∧ okS S) ∧ isJv E h x T.2.1 ∧ isJb E h x T.2.2 ∧ isJp h x
def okT (T : gTt) : Prop := okS T.1 ∧ T.2.1.1 ≤ 6 ∧ (∀ i : Int, 0 ≤ i → i < (T.2.1.1 : Int) → okS (T.2.1.2 i)) ∧ T.2.2.1 ≤ 60 ∧ ∀ j : Int, 0 ≤ j → j < (T.2.2.1 : Int) → 33 ≤ T.2.2.2 j ∧ T.2.2.2 j ≤ 126
theorem isJv.kept {E : gEnv} {h h1 : gH} {x : Nat} {d : Nat × (Int → gSt)} (y : isJv E h x d) (hk : ∀ q : Nat, (x + 131 = q ∨ x + 134 ≤ q) → q < x + 524 → h1 q = h q) : isJv E h1 x d := by
  obtain ⟨f, g, y1, y2, y3, y4⟩ := y
  refine ⟨f, g, (hk _ (Or.inl rfl) (by omega)).trans y1, y2, y3, fun i i0 i6 => ?_⟩
  obtain ⟨S, s1, s2⟩ := y4 i i0 i6
  have := y3.1 i i0 i6
  exact ⟨S, s1.kept (fun q q1 q2 => hk q (by omega) (by omega)), s2⟩
theorem isJb.kept {E : gEnv} {h h1 : gH} {x : Nat} {d : Nat × (Int → Int)} (y : isJb E h x d) (hk : h1 (x + 132) = h (x + 132)) : isJb E h1 x d := by
  obtain ⟨b, y1, y2⟩ := y
  exact ⟨b, hk.trans y1, y2⟩
theorem isJp.kept {h h1 : gH} {x : Nat} (y : isJp h x) (hk : h1 (x + 133) = h (x + 133)) : isJp h1 x := by
  obtain ⟨P, y1, y2⟩ := y
  exact ⟨P, hk.trans y1, y2⟩
theorem isJ.kept {E : gEnv} {h h1 : gH} {x : Nat} {T : gTt} (y : isJ E h x T) (hk : ∀ q : Nat, x ≤ q → q < x + 524 → h1 q = h q) : isJ E h1 x T := by
  obtain ⟨y1, y2, ⟨S, y3, y3'⟩, y4, y5, y6⟩ := y
  exact ⟨(hk _ (by omega) (by omega)).trans y1, y2.kept (fun q q1 q2 => hk q (by omega) (by omega)), ⟨S, y3.kept (fun q q1 q2 => hk q (by omega) (by omega)), y3'⟩, y4.kept (fun q q1 q2 => hk q (by omega) (by omega)), y5.kept (hk _ (by omega) (by omega)), y6.kept (hk _ (by omega) (by omega))⟩
/-- now has changed -/
theorem isJ.setS {E : gEnv} {h h1 : gH} {x : Nat} {T : gTt} {S' : gSt} (y : isJ E h x T) (hs : isS E h1 (x + 1) S') (hk : gKp (x + 1) (x + 66) h h1) : isJ E h1 x (S', T.2) := by
  obtain ⟨y1, y2, ⟨S, y3, y3'⟩, y4, y5, y6⟩ := y
  exact ⟨(hk _ (by omega)).trans y1, hs, ⟨S, y3.kept (fun q q1 q2 => hk q (by omega)), y3'⟩, y4.kept (fun q q1 q2 => hk q (by omega)), y5.kept (hk _ (by omega)), y6.kept (hk _ (by omega))⟩
/-- the trial has changed -/
theorem isJ.setT {E : gEnv} {h h1 : gH} {x : Nat} {T : gTt} {S' : gSt} (y : isJ E h x T) (hs : isS E h1 (x + 66) S') (ho : okS S') (hk : gKp (x + 66) (x + 131) h h1) : isJ E h1 x T := by
  obtain ⟨y1, y2, -, y4, y5, y6⟩ := y
  exact ⟨(hk _ (by omega)).trans y1, y2.kept (fun q q1 q2 => hk q (by omega)), ⟨S', hs, ho⟩, y4.kept (fun q q1 q2 => hk q (by omega)), y5.kept (hk _ (by omega)), y6.kept (hk _ (by omega))⟩
/-- the part has changed -/
theorem isJ.setP {E : gEnv} {h h1 : gH} {x : Nat} {T : gTt} {P : gPt} (y : isJ E h x T) (hs : isP h1 (x + 133) P) (ho : okP P) (hk : gKp (x + 133) (x + 134) h h1) : isJ E h1 x T := by
  obtain ⟨y1, y2, ⟨S, y3, y3'⟩, y4, y5, y6⟩ := y
  exact ⟨(hk _ (by omega)).trans y1, y2.kept (fun q q1 q2 => hk q (by omega)), ⟨S, y3.kept (fun q q1 q2 => hk q (by omega)), y3'⟩, y4.kept (fun q q1 q2 => hk q (by omega)), y5.kept (hk _ (by omega)), ⟨P, hs, ho⟩⟩
/-- the object's own numbers have changed -/
theorem isJ.setO {E : gEnv} {h h1 : gH} {x : Nat} {T : gTt} {c bl : Nat} (y : isJ E h x T) (hs : isJo h1 x c bl) (hk : gKp x (x + 1) h h1) (hc : c ≤ T.2.1.1) (hb : bl ≤ T.2.2.1) : isJ E h1 x (T.1, (c, T.2.1.2), (bl, T.2.2.2)) := by
  obtain ⟨y1, y2, ⟨S, y3, y3'⟩, y4, y5, y6⟩ := y
  refine ⟨hs, y2.kept (fun q q1 q2 => hk q (by omega)), ⟨S, y3.kept (fun q q1 q2 => hk q (by omega)), y3'⟩, ?_, ?_, y6.kept (hk _ (by omega))⟩
  · obtain ⟨f, g, z1, z2, z3, z4⟩ := y4.kept (h1 := h1) (fun q q1 q2 => hk q (by omega))
    refine ⟨f, g, z1, z2, z3, fun i i0 i6 => ?_⟩
    obtain ⟨S9, s1, s2, s3⟩ := z4 i i0 i6
    exact ⟨S9, s1, s2, fun hi => s3 (by have hi : i < (c : Int) := hi; omega)⟩
  · obtain ⟨b, z1, z2⟩ := y5.kept (h1 := h1) (hk _ (by omega))
    exact ⟨b, z1, fun j j0 jb => z2 j j0 (by have jb : j < (bl : Int) := jb; omega)⟩
def tDrop (d : Nat × (Int → gSt)) : Nat × (Int → gSt) := if d.1 = 6 then (5, fun i => d.2 (i + 1)) else d
def tSave (T : gTt) : gTt := (T.1, ((tDrop T.2.1).1 + 1, gup (tDrop T.2.1).2 ((tDrop T.2.1).1 : Int) T.1), T.2.2)
theorem okT_save {T : gTt} (h : okT T) : okT (tSave T) ∧ 1 ≤ (tSave T).2.1.1 := by
  obtain ⟨h1, h2, h3, h4, h5⟩ := h
  have hd : (tDrop T.2.1).1 ≤ 5 ∧ ∀ i : Int, 0 ≤ i → i < ((tDrop T.2.1).1 : Int) → okS ((tDrop T.2.1).2 i) := by
    unfold tDrop
    by_cases e : T.2.1.1 = 6
    · rw [if_pos e]
      exact ⟨Nat.le_refl _, fun i i0 i6 => h3 (i + 1) (by omega) (by have i6 : i < ((5 : Nat) : Int) := i6; omega)⟩
    · rw [if_neg e]
      exact ⟨by omega, h3⟩
  refine ⟨⟨h1, Nat.succ_le_succ hd.1, fun i i0 i6 => ?_, h4, h5⟩, Nat.succ_le_succ (Nat.zero_le _)⟩
  have i6 : i < (((tDrop T.2.1).1 + 1 : Nat) : Int) := i6
  show okS (gup (tDrop T.2.1).2 ((tDrop T.2.1).1 : Int) T.1 i)
  by_cases e : i = ((tDrop T.2.1).1 : Int)
  · rw [e, gup_at]
    exact h1
  · rw [gup_ne e]
    exact hd.2 i i0 (by omega)
abbrev xIO : String := "java/lang/IndexOutOfBoundsException"
abbrev xIA : String := "java/lang/IllegalArgumentException"
abbrev xIS : String := "java/lang/IllegalStateException"

set_option maxRecDepth 100000 in
set_option maxHeartbeats 4000000 in
theorem c_X4_checkIndex {E : gEnv} {n : Nat} {σ : Option Nat} {h : gH} (i z : Int) (hl : E.1.stackTraces = false) (hir : -2147483648 ≤ i ∧ i < 2147483648) (hzr : -2147483648 ≤ z ∧ z < 2147483648)  : gM E mX4_checkIndex [.int (gi i), .int (gi z)] n σ h (gD none n σ (fun h9 => h9 = h ∧ 0 ≤ i ∧ i < z)) (fun X h9 => X = xIO ∧ h9 = h ∧ ¬ (0 ≤ i ∧ i < z)) := by
  refine gM_of (by decide) (Nat.le_of_ble_eq_true rfl) (fun F C => ?_)
  refine g_iload_n 1 C dX4_checkIndex_0 rfl rfl ?_
  refine g_if_lt 9 4 C dX4_checkIndex_1 rfl rfl hir (fun c1 => ?_) (fun c1 => ?_)
  · skip
    exact g_throw C hl rfl gth_o (i := 7) rfl dX4_checkIndex_9 dX4_checkIndex_12 dX4_checkIndex_13 dX4_checkIndex_15 dX4_checkIndex_18 (by decide) (Nat.le_of_ble_eq_true rfl) (by decide) (by decide) (⟨rfl, rfl, by omega⟩)
  · skip
    refine g_iload_n 5 C dX4_checkIndex_4 rfl rfl ?_
    refine g_iload_n 6 C dX4_checkIndex_5 rfl rfl ?_
    refine g_icmp_lt 19 9 C dX4_checkIndex_6 rfl rfl hir hzr (fun c6 => ?_) (fun c6 => ?_)
    · skip
      exact g_vret C dX4_checkIndex_19 rfl ⟨by decide, by decide⟩ (⟨rfl, rfl, rfl, rfl, by omega⟩)
    · skip
      exact g_throw C hl rfl gth_o (i := 7) rfl dX4_checkIndex_9 dX4_checkIndex_12 dX4_checkIndex_13 dX4_checkIndex_15 dX4_checkIndex_18 (by decide) (Nat.le_of_ble_eq_true rfl) (by decide) (by decide) (⟨rfl, rfl, by omega⟩)
set_option maxRecDepth 100000 in
set_option maxHeartbeats 4000000 in
theorem c_X4_checkUpTo {E : gEnv} {n : Nat} {σ : Option Nat} {h : gH} (i z : Int) (hl : E.1.stackTraces = false) (hir : -2147483648 ≤ i ∧ i < 2147483648) (hzr : -2147483648 ≤ z ∧ z < 2147483648)  : gM E mX4_checkUpTo [.int (gi i), .int (gi z)] n σ h (gD none n σ (fun h9 => h9 = h ∧ 0 ≤ i ∧ i ≤ z)) (fun X h9 => X = xIA ∧ h9 = h ∧ ¬ (0 ≤ i ∧ i ≤ z)) := by
  refine gM_of (by decide) (Nat.le_of_ble_eq_true rfl) (fun F C => ?_)
  refine g_iload_n 1 C dX4_checkUpTo_0 rfl rfl ?_
  refine g_if_lt 9 4 C dX4_checkUpTo_1 rfl rfl hir (fun c1 => ?_) (fun c1 => ?_)
  · skip
    exact g_throw C hl rfl gth_a (i := 8) rfl dX4_checkUpTo_9 dX4_checkUpTo_12 dX4_checkUpTo_13 dX4_checkUpTo_15 dX4_checkUpTo_18 (by decide) (Nat.le_of_ble_eq_true rfl) (by decide) (by decide) (⟨rfl, rfl, by omega⟩)
  · skip
    refine g_iload_n 5 C dX4_checkUpTo_4 rfl rfl ?_
    refine g_iload_n 6 C dX4_checkUpTo_5 rfl rfl ?_
    refine g_icmp_le 19 9 C dX4_checkUpTo_6 rfl rfl hir hzr (fun c6 => ?_) (fun c6 => ?_)
    · skip
      exact g_vret C dX4_checkUpTo_19 rfl ⟨by decide, by decide⟩ (⟨rfl, rfl, rfl, rfl, by omega⟩)
    · skip
      exact g_throw C hl rfl gth_a (i := 8) rfl dX4_checkUpTo_9 dX4_checkUpTo_12 dX4_checkUpTo_13 dX4_checkUpTo_15 dX4_checkUpTo_18 (by decide) (Nat.le_of_ble_eq_true rfl) (by decide) (by decide) (⟨rfl, rfl, by omega⟩)
set_option maxRecDepth 100000 in
set_option maxHeartbeats 4000000 in
theorem c_X4_checkWriterKeyStore {E : gEnv} {n : Nat} {σ : Option Nat} {h : gH} (w k s : Int) (hl : E.1.stackTraces = false) (hwr : -2147483648 ≤ w ∧ w < 2147483648) (hkr : -2147483648 ≤ k ∧ k < 2147483648) (hsr : -2147483648 ≤ s ∧ s < 2147483648)  : gM E mX4_checkWriterKeyStore [.int (gi w), .int (gi k), .int (gi s)] n σ h (gD none n σ (fun h9 => h9 = h ∧ (0 ≤ w ∧ w < 5) ∧ (0 ≤ k ∧ k < 3) ∧ (0 ≤ s ∧ s < 3))) (fun X h9 => X = xIO ∧ h9 = h ∧ ¬ ((0 ≤ w ∧ w < 5) ∧ (0 ≤ k ∧ k < 3) ∧ (0 ≤ s ∧ s < 3))) := by
  refine gM_of (by decide) (Nat.le_of_ble_eq_true rfl) (fun F C => ?_)
  refine g_iload_n 1 C dX4_checkWriterKeyStore_0 rfl rfl ?_
  refine g_iconst 2 C dX4_checkWriterKeyStore_1 rfl ?_
  refine g_S2v 5 1 6 C dX4_checkWriterKeyStore_2 rfl lk_RX4_103 gs_X4_checkIndex ⟨⟨by decide, by decide⟩, by decide, by decide⟩ (Nat.le_of_ble_eq_true rfl) rfl rfl rfl (c_X4_checkIndex w 5 hl hwr (by decide)) (g_thr (n0 := 0) (fun X h9 z9 => ⟨z9.1, z9.2.1, fun z8 => z9.2.2 (by omega)⟩)) (fun h9 e2 => ?_)
  obtain ⟨e2, hv2⟩ := e2
  subst e2
  refine g_iload_n 6 C dX4_checkWriterKeyStore_5 rfl rfl ?_
  refine g_iconst 7 C dX4_checkWriterKeyStore_6 rfl ?_
  refine g_S2v 10 2 12 C dX4_checkWriterKeyStore_7 rfl lk_RX4_103 gs_X4_checkIndex ⟨⟨by decide, by decide⟩, by decide, by decide⟩ (Nat.le_of_ble_eq_true rfl) rfl rfl rfl (c_X4_checkIndex k 3 hl hkr (by decide)) (g_thr (n0 := 0) (fun X h9 z9 => ⟨z9.1, z9.2.1, fun z8 => z9.2.2 (by omega)⟩)) (fun h9 e7 => ?_)
  obtain ⟨e7, hv7⟩ := e7
  subst e7
  refine g_iload_n 11 C dX4_checkWriterKeyStore_10 rfl rfl ?_
  refine g_iconst 12 C dX4_checkWriterKeyStore_11 rfl ?_
  refine g_S2v 15 3 18 C dX4_checkWriterKeyStore_12 rfl lk_RX4_103 gs_X4_checkIndex ⟨⟨by decide, by decide⟩, by decide, by decide⟩ (Nat.le_of_ble_eq_true rfl) rfl rfl rfl (c_X4_checkIndex s 3 hl hsr (by decide)) (g_thr (n0 := 0) (fun X h9 z9 => ⟨z9.1, z9.2.1, fun z8 => z9.2.2 (by omega)⟩)) (fun h9 e12 => ?_)
  obtain ⟨e12, hv12⟩ := e12
  subst e12
  exact g_vret C dX4_checkWriterKeyStore_15 rfl ⟨by decide, by decide⟩ (⟨rfl, rfl, rfl, rfl, hv2, hv7, hv12⟩)
set_option maxRecDepth 100000 in
set_option maxHeartbeats 4000000 in
theorem c_X4_checkTwoStores {E : gEnv} {n : Nat} {σ : Option Nat} {h : gH} (s o k : Int) (hl : E.1.stackTraces = false) (hsr : -2147483648 ≤ s ∧ s < 2147483648) (hor : -2147483648 ≤ o ∧ o < 2147483648) (hkr : -2147483648 ≤ k ∧ k < 2147483648)  : gM E mX4_checkTwoStores [.int (gi s), .int (gi o), .int (gi k)] n σ h (gD none n σ (fun h9 => h9 = h ∧ ((0 ≤ s ∧ s < 3) ∧ (0 ≤ o ∧ o < 3) ∧ (0 ≤ k ∧ k < 3)) ∧ s ≠ o)) (fun X h9 => h9 = h ∧ ((X = xIO ∧ ¬ ((0 ≤ s ∧ s < 3) ∧ (0 ≤ o ∧ o < 3) ∧ (0 ≤ k ∧ k < 3))) ∨ (X = xIA ∧ ((0 ≤ s ∧ s < 3) ∧ (0 ≤ o ∧ o < 3) ∧ (0 ≤ k ∧ k < 3)) ∧ s = o))) := by
  refine gM_of (by decide) (Nat.le_of_ble_eq_true rfl) (fun F C => ?_)
  refine g_iload_n 1 C dX4_checkTwoStores_0 rfl rfl ?_
  refine g_iconst 2 C dX4_checkTwoStores_1 rfl ?_
  refine g_S2v 5 1 6 C dX4_checkTwoStores_2 rfl lk_RX4_103 gs_X4_checkIndex ⟨⟨by decide, by decide⟩, by decide, by decide⟩ (Nat.le_of_ble_eq_true rfl) rfl rfl rfl (c_X4_checkIndex s 3 hl hsr (by decide)) (g_thr (n0 := 0) (fun X h9 z9 => ⟨z9.2.1, Or.inl ⟨z9.1, fun z8 => z9.2.2 (by omega)⟩⟩)) (fun h9 e2 => ?_)
  obtain ⟨e2, hv2⟩ := e2
  subst e2
  refine g_iload_n 6 C dX4_checkTwoStores_5 rfl rfl ?_
  refine g_iconst 7 C dX4_checkTwoStores_6 rfl ?_
  refine g_S2v 10 2 12 C dX4_checkTwoStores_7 rfl lk_RX4_103 gs_X4_checkIndex ⟨⟨by decide, by decide⟩, by decide, by decide⟩ (Nat.le_of_ble_eq_true rfl) rfl rfl rfl (c_X4_checkIndex o 3 hl hor (by decide)) (g_thr (n0 := 0) (fun X h9 z9 => ⟨z9.2.1, Or.inl ⟨z9.1, fun z8 => z9.2.2 (by omega)⟩⟩)) (fun h9 e7 => ?_)
  obtain ⟨e7, hv7⟩ := e7
  subst e7
  refine g_iload_n 11 C dX4_checkTwoStores_10 rfl rfl ?_
  refine g_iconst 12 C dX4_checkTwoStores_11 rfl ?_
  refine g_S2v 15 3 18 C dX4_checkTwoStores_12 rfl lk_RX4_103 gs_X4_checkIndex ⟨⟨by decide, by decide⟩, by decide, by decide⟩ (Nat.le_of_ble_eq_true rfl) rfl rfl rfl (c_X4_checkIndex k 3 hl hkr (by decide)) (g_thr (n0 := 0) (fun X h9 z9 => ⟨z9.2.1, Or.inl ⟨z9.1, fun z8 => z9.2.2 (by omega)⟩⟩)) (fun h9 e12 => ?_)
  obtain ⟨e12, hv12⟩ := e12
  subst e12
  refine g_iload_n 16 C dX4_checkTwoStores_15 rfl rfl ?_
  refine g_iload_n 17 C dX4_checkTwoStores_16 rfl rfl ?_
  refine g_icmp_ne 30 20 C dX4_checkTwoStores_17 rfl rfl (by omega) (by omega) (fun c17 => ?_) (fun c17 => ?_)
  · skip
    exact g_vret C dX4_checkTwoStores_30 rfl ⟨by decide, by decide⟩ (⟨rfl, rfl, rfl, rfl, ⟨hv2, hv7, hv12⟩, by omega⟩)
  · skip
    exact g_throw C hl rfl gth_a (i := 9) rfl dX4_checkTwoStores_20 dX4_checkTwoStores_23 dX4_checkTwoStores_24 dX4_checkTwoStores_26 dX4_checkTwoStores_29 (by decide) (Nat.le_of_ble_eq_true rfl) (by decide) (by decide) (⟨rfl, Or.inr ⟨rfl, ⟨hv2, hv7, hv12⟩, by omega⟩⟩)
set_option maxRecDepth 100000 in
set_option maxHeartbeats 4000000 in
theorem c_X4_dropOldest {E : gEnv} {n : Nat} {σ : Option Nat} {h : gH} (x : Nat) (T : gTt) (hxb : gB E ≤ x ∧ x + 524 ≤ gB E + n) (hJ : isJ E h x T) (hok : okT T) (h6 : T.2.1.1 = 6) : gM E mX4_dropOldest [.ref x] n σ h (gD none n σ (fun h9 => isJ E h9 x (T.1, (5, fun i => T.2.1.2 (i + 1)), T.2.2) ∧ gKp x (x + 524) h h9 ∧ ∀ q : Nat, x + 1 ≤ q → q < x + 131 → h9 q = h q)) (gNo) := by
  have hJ9 := hJ
  obtain ⟨j1, j2, j3, j4, j5, j6⟩ := hJ
  obtain ⟨o1, o2, o3, o4, o5⟩ := hok
  unfold isJo at j1
  obtain ⟨f, g, jf, jg, jp, jS⟩ := j4
  have gb := fun (i : Int) (i0 : 0 ≤ i) (i6 : i < 6) => jp.1 i i0 i6
  refine gM_of (by decide) (Nat.le_of_ble_eq_true rfl) (fun F C => ?_)
  refine g_aload_n 1 C dX4_dropOldest_0 rfl rfl ?_
  refine g_getf 4 C dX4_dropOldest_1 fl_RX4_19 rfl (by omega) j1 rfl rfl ?_
  refine g_iconst 5 C dX4_dropOldest_4 rfl ?_
  refine g_aald 6 C dX4_dropOldest_5 (by omega) jf rfl rfl (by omega) (by decide) (jg (0) (by omega) (by omega)) rfl ?_
  refine g_astore_n 7 [(1, _), (0, _)] C dX4_dropOldest_6 (by decide) rfl rfl ?_
  refine g_iconst 8 C dX4_dropOldest_7 rfl ?_
  refine g_istore_n 9 [(2, _), (1, _), (0, _)] C dX4_dropOldest_8 (by decide) rfl rfl ?_
  have lp9 : ∀ (k9 : Nat) (i : Nat) (h1 : gH) (f1 : Int → Option Nat), (1 ≤ i ∧ i ≤ 6) → (h1 (x + 131) = gR E 4 6 f1) → ((∀ j : Int, 0 ≤ j → j < (i : Int) - 1 → f1 j = some (g (j + 1))) ∧ ∀ j : Int, (i : Int) - 1 ≤ j → j < 6 → f1 j = some (g j)) → (gKp (x + 131) (x + 132) h h1) → 6 - i < k9 → G E F mX4_dropOldest (gQ E F mX4_dropOldest n (gD none n σ (fun h9 => isJ E h9 x (T.1, (5, fun i => T.2.1.2 (i + 1)), T.2.2) ∧ gKp x (x + 524) h h9 ∧ ∀ q : Nat, x + 1 ≤ q → q < x + 131 → h9 q = h q)) (gNo)) n σ h1 0 0 9 [(2, .int (gi (i : Int))), (1, .ref (g 0)), (0, .ref x)] [] := by
    intro k9
    induction k9 with
    | zero => intro i h1 f1 hi hf ha1 hk h0; exact absurd h0 (Nat.not_lt_zero _)
    | succ k9 ih9 =>
      intro i h1 f1 hi hf ha1 hk hk9
      have k1 := (hk x (by omega)).trans j1
      refine g_iload_n 10 C dX4_dropOldest_9 rfl rfl ?_
      refine g_bipush 12 C dX4_dropOldest_10 (by decide) rfl ?_
      refine g_icmp_ge 35 15 C dX4_dropOldest_12 rfl rfl (by omega) (by omega) (fun c12 => ?_) (fun c12 => ?_)
      · skip
        refine g_aload_n 36 C dX4_dropOldest_35 rfl rfl ?_
        refine g_getf 39 C dX4_dropOldest_36 fl_RX4_19 rfl (by omega) k1 rfl rfl ?_
        refine g_iconst 40 C dX4_dropOldest_39 rfl ?_
        refine g_aload_n 41 C dX4_dropOldest_40 rfl rfl ?_
        have gb0 := gb 0 (by omega) (by omega)
        obtain ⟨S0, hS0, ho0, hc0⟩ := jS 0 (by omega) (by omega)
        have hS01 := (hk _ (by omega)).trans hS0.1
        refine g_aast 42 C dX4_dropOldest_41 (by omega) hf rfl (by omega) hS01 rfl (by omega) (by decide) rfl ?_
        refine g_aload_n 43 C dX4_dropOldest_42 rfl rfl ?_
        refine g_iconst 44 C dX4_dropOldest_43 rfl ?_
        refine g_putf 47 C dX4_dropOldest_44 fp_RX4_154 rfl (by omega) ((up_n (by omega)).trans k1) rfl rfl (Nat.le_of_ble_eq_true rfl) rfl ?_
        exact g_vret C dX4_dropOldest_47 rfl ⟨by decide, by decide⟩ (by
            refine ⟨rfl, rfl, rfl, ⟨?_, ?_, ?_, ?_, ?_, ?_⟩, gKp_tr (gKp_wd hk (by omega) (by omega)) (gKp_tr (gKp_up (by omega)) (gKp_up (by omega))), fun q q1 q2 => (up_n (by omega)).trans ((up_n (by omega)).trans (hk q (by omega)))⟩
            · exact up_s
            · exact j2.kept (fun q q1 q2 => (up_n (by omega)).trans ((up_n (by omega)).trans (hk q (by omega))))
            · obtain ⟨S9, s1, s2⟩ := j3
              exact ⟨S9, s1.kept (fun q q1 q2 => (up_n (by omega)).trans ((up_n (by omega)).trans (hk q (by omega)))), s2⟩
            · refine ⟨_, fun i => if i < 5 then g (i + 1) else g 0, (up_n (by omega)).trans up_s, fun r r0 r6 => ?_, ⟨fun r r0 r6 => ?_, fun r q r0 r6 q0 q6 rq => ?_⟩, fun r r0 r6 => ?_⟩
              · dsimp only
                by_cases e : r = 5
                · subst e
                  rw [gup_at, if_neg (show ¬ (5 : Int) < 5 by omega)]
                · rw [gup_ne e, if_pos (show r < 5 by omega)]
                  exact ha1.1 r r0 (by omega)
              · dsimp only
                by_cases e : r < 5
                · rw [if_pos e]
                  exact gb (r + 1) (by omega) (by omega)
                · rw [if_neg e]
                  exact gb 0 (by omega) (by omega)
              · dsimp only
                by_cases e : r < 5
                · rw [if_pos e]
                  by_cases e2 : q < 5
                  · rw [if_pos e2]
                    exact jp.2 (r + 1) (q + 1) (by omega) (by omega) (by omega) (by omega) (by omega)
                  · rw [if_neg e2]
                    exact jp.2 (r + 1) 0 (by omega) (by omega) (by omega) (by omega) (by omega)
                · rw [if_neg e]
                  by_cases e2 : q < 5
                  · rw [if_pos e2]
                    exact jp.2 0 (q + 1) (by omega) (by omega) (by omega) (by omega) (by omega)
                  · exact absurd rq (by omega)
              · dsimp only
                by_cases e : r < 5
                · rw [if_pos e]
                  obtain ⟨S9, s1, s2, s3⟩ := jS (r + 1) (by omega) (by omega)
                  have gbr := gb (r + 1) (by omega) (by omega)
                  exact ⟨S9, s1.kept (fun q q1 q2 => (up_n (by omega)).trans ((up_n (by omega)).trans (hk q (by omega)))), s2, fun _ => s3 (by omega)⟩
                · rw [if_neg e]
                  exact ⟨S0, hS0.kept (fun q q1 q2 => (up_n (by omega)).trans ((up_n (by omega)).trans (hk q (by omega)))), ho0, fun z => absurd z (by have z : r < ((5 : Nat) : Int) := z; omega)⟩
            · exact j5.kept ((up_n (by omega)).trans ((up_n (by omega)).trans (hk _ (by omega))))
            · exact j6.kept ((up_n (by omega)).trans ((up_n (by omega)).trans (hk _ (by omega)))))
      · skip
        refine g_aload_n 16 C dX4_dropOldest_15 rfl rfl ?_
        refine g_getf 19 C dX4_dropOldest_16 fl_RX4_19 rfl (by omega) k1 rfl rfl ?_
        refine g_iload_n 20 C dX4_dropOldest_19 rfl rfl ?_
        refine g_iconst 21 C dX4_dropOldest_20 rfl ?_
        refine g_isub 22 C dX4_dropOldest_21 rfl ?_
        refine g_aload_n 23 C dX4_dropOldest_22 rfl rfl ?_
        refine g_getf 26 C dX4_dropOldest_23 fl_RX4_19 rfl (by omega) k1 rfl rfl ?_
        refine g_iload_n 27 C dX4_dropOldest_26 rfl rfl ?_
        refine g_aald 28 C dX4_dropOldest_27 (by omega) hf rfl rfl (by omega) (by decide) (ha1.2 (i : Int) (by omega) (by omega)) rfl ?_
        have gbi9 := gb (i : Int) (by omega) (by omega)
        obtain ⟨Si, hSi, -⟩ := jS (i : Int) (by omega) (by omega)
        have hSi1 := (hk _ (by omega)).trans hSi.1
        refine g_aast 29 C dX4_dropOldest_28 (by omega) hf rfl (by omega) hSi1 rfl (by omega) (by decide) rfl ?_
        have hf8 : (∀ j : Int, 0 ≤ j → j < ((i + 1 : Nat) : Int) - 1 → gup f1 ((i : Int) - 1) (some (g (i : Int))) j = some (g (j + 1))) ∧ ∀ j : Int, ((i + 1 : Nat) : Int) - 1 ≤ j → j < 6 → gup f1 ((i : Int) - 1) (some (g (i : Int))) j = some (g j) := by
          refine ⟨fun j j0 j1 => ?_, fun j j0 j6 => ?_⟩
          · by_cases e : j = (i : Int) - 1
            · subst e
              rw [gup_at, show (i : Int) - 1 + 1 = (i : Int) by omega]
            · rw [gup_ne e]
              exact ha1.1 j j0 (by omega)
          · rw [gup_ne (by omega)]
            exact ha1.2 j (by omega) j6
        refine g_iinc 32 [(2, _), (1, _), (0, _)] C dX4_dropOldest_29 rfl (by decide) rfl rfl ?_
        refine g_goto 9 C dX4_dropOldest_32 rfl ?_
        refine g_loc [(2, _), (1, _), (0, _)] ⟨rfl, rfl, rfl, trivial⟩ ?_
        exact ih9 (i + 1) _ _ (by omega) up_s hf8 (gKp_tr hk (gKp_up (by omega))) (by omega)
  refine g_loc [(2, _), (1, _), (0, _)] ⟨rfl, rfl, rfl, trivial⟩ ?_
  exact lp9 _ 1 h f (by omega) jf ⟨fun j j0 j1 => absurd j1 (by omega), fun j j0 j6 => jg j (by omega) (by omega)⟩ gKp_rf (Nat.lt_succ_self _)
