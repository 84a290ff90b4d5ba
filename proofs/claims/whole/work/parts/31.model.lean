/-! SiblingJoinsModel: what it is -/
def isMo (h : gH) (m : Nat) (g : Int → Int) (hs : Int64) : Prop := h m = gO 5 [.ref (m + 1), .ref (m + 2), .ref (m + 3), .int (gi (g 3)), .ref (m + 4), .int (gi (g 5)), .int (gi (g 6)), .ref (m + 5), .int (gi (g 8)), .int (gi (g 9)), .int (gi (g 10)), .int (gi (g 11)), .int (gi (g 12)), .ref (m + 6), .int (gi (g 14)), .long hs]
/-- a vector at a -/
def Rv (f : Int → Int) (a : Int) (v : Int → Int) : Prop := ∀ w : Int, 0 ≤ w → w < 5 → f (a + w) = v w
/-- a row of siblings at b -/
def Rl (f : Int → Int) (b : Int) (l : List (Int × Int)) : Prop := f b = (l.length : Int) ∧ ∀ (p : Nat) (y : Int × Int), l[p]? = some y → f (b + 1 + 3 * (p : Int)) = y.1 / 1000 ∧ f (b + 1 + 3 * (p : Int) + 1) = y.1 % 1000 ∧ f (b + 1 + 3 * (p : Int) + 2) = y.2
def Rk (f : Int → Int) (k : Int) (K : gKy) : Prop := Rv f (5 * k) K.1 ∧ (∀ w : Int, 0 ≤ w → w < 5 → Rv f (15 + 25 * k + 5 * w) (K.2.1 w)) ∧ (∀ s : Int, 0 ≤ s → s < 3 → Rv f (90 + 15 * k + 5 * s) (K.2.2.1 s)) ∧ ∀ s : Int, 0 ≤ s → s < 3 → Rl f (135 + 19 * (3 * k + s)) (K.2.2.2 s)
def Rz (f : Int → Int) (S : gSt) : Prop := (∀ k : Int, 0 ≤ k → k < 3 → Rk f k (S.1 k)) ∧ ∀ j : Int, 1 ≤ j → j ≤ 5 → f (305 + j) = S.2 j
theorem take_s {l : List (Int × Int)} {i : Nat} {y : Int × Int} (h : l[i]? = some y) : l.take (i + 1) = l.take i ++ [y] := by
  rw [List.take_add_one, h]
  rfl
theorem get_of {l : List (Int × Int)} {i : Nat} (h : i < l.length) : ∃ y, l[i]? = some y ∧ y ∈ l := ⟨l[i], List.getElem?_eq_getElem h, List.getElem_mem h⟩
theorem hasM_s {l : List (Int × Int)} {i : Nat} {y : Int × Int} {mark : Int} (h : l[i]? = some y) : hasM (l.take (i + 1)) mark = (hasM (l.take i) mark || y.1 == mark) := by
  unfold hasM
  rw [take_s h, List.any_append]
  simp
theorem ct_s {l : List (Int × Int)} {i : Nat} {y : Int × Int} {q : Int × Int → Bool} (h : l[i]? = some y) : (((l.take (i + 1)).countP q : Nat) : Int) = ((l.take i).countP q : Nat) + gbi (q y) := by
  rw [take_s h, List.countP_append]
  cases e : q y <;> simp [gbi, e]

set_option maxRecDepth 100000 in
set_option maxHeartbeats 4000000 in
theorem c_X5_in {E : gEnv} {n : Nat} {σ : Option Nat} {h : gH} (v a b : Int) (hvr : -2147483648 ≤ v ∧ v < 2147483648) (har : -2147483648 ≤ a ∧ a < 2147483648) (hbr : -2147483648 ≤ b ∧ b < 2147483648) : gM E mX5_in [.int (gi v), .int (gi a), .int (gi b)] n σ h (gD (some (.int (gi (gbi (decide (a ≤ v ∧ v ≤ b)))))) n σ (fun h9 => h9 = h)) (gNo) := by
  refine gM_of (by decide) (Nat.le_of_ble_eq_true rfl) (fun F C => ?_)
  refine g_iload_n 1 C dX5_in_0 rfl rfl ?_
  refine g_iload_n 2 C dX5_in_1 rfl rfl ?_
  refine g_icmp_lt 14 5 C dX5_in_2 rfl rfl hvr har (fun c2 => ?_) (fun c2 => ?_)
  · skip
    have ec : decide (a ≤ v ∧ v ≤ b) = false := decide_eq_false (by omega)
    refine g_iconst 15 C dX5_in_14 rfl ?_
    exact g_zret C dX5_in_15 rfl rfl ⟨by decide, by decide⟩ (by rw [ec]; exact ⟨rfl, rfl, rfl, rfl⟩)
  · skip
    refine g_iload_n 6 C dX5_in_5 rfl rfl ?_
    refine g_iload_n 7 C dX5_in_6 rfl rfl ?_
    refine g_icmp_gt 14 10 C dX5_in_7 rfl rfl hvr hbr (fun c7 => ?_) (fun c7 => ?_)
    · skip
      have ec : decide (a ≤ v ∧ v ≤ b) = false := decide_eq_false (by omega)
      refine g_iconst 15 C dX5_in_14 rfl ?_
      exact g_zret C dX5_in_15 rfl rfl ⟨by decide, by decide⟩ (by rw [ec]; exact ⟨rfl, rfl, rfl, rfl⟩)
    · skip
      have ec : decide (a ≤ v ∧ v ≤ b) = true := decide_eq_true (by omega)
      refine g_iconst 11 C dX5_in_10 rfl ?_
      refine g_goto 15 C dX5_in_11 rfl ?_
      exact g_zret C dX5_in_15 rfl rfl ⟨by decide, by decide⟩ (by rw [ec]; exact ⟨rfl, rfl, rfl, rfl⟩)
set_option maxRecDepth 100000 in
set_option maxHeartbeats 4000000 in
theorem c_X5_isWriter {E : gEnv} {n : Nat} {σ : Option Nat} {h : gH} (v : Int) (hvr : -2147483648 ≤ v ∧ v < 2147483648) : gM E mX5_isWriter [.int (gi v)] n σ h (gD (some (.int (gi (gbi (decide (0 ≤ v ∧ v ≤ 4)))))) n σ (fun h9 => h9 = h)) (gNo) := by
  refine gM_of (by decide) (Nat.le_of_ble_eq_true rfl) (fun F C => ?_)
  refine g_iload_n 1 C dX5_isWriter_0 rfl rfl ?_
  refine g_iconst 2 C dX5_isWriter_1 rfl ?_
  refine g_iconst 3 C dX5_isWriter_2 rfl ?_
  refine g_S3r 6 0 0 C dX5_isWriter_3 rfl lk_RX5_35 gs_X5_in ⟨⟨by decide, by decide⟩, by decide, by decide⟩ (Nat.le_of_ble_eq_true rfl) rfl rfl rfl (c_X5_in v 0 4 hvr (by decide) (by decide)) g_no (fun h9 e3 => ?_)
  subst e3
  exact g_zret C dX5_isWriter_6 rfl (gbi_z _) ⟨by decide, by decide⟩ (⟨rfl, rfl, rfl, rfl⟩)
set_option maxRecDepth 100000 in
set_option maxHeartbeats 4000000 in
theorem c_X5_isStore {E : gEnv} {n : Nat} {σ : Option Nat} {h : gH} (v : Int) (hvr : -2147483648 ≤ v ∧ v < 2147483648) : gM E mX5_isStore [.int (gi v)] n σ h (gD (some (.int (gi (gbi (decide (0 ≤ v ∧ v ≤ 2)))))) n σ (fun h9 => h9 = h)) (gNo) := by
  refine gM_of (by decide) (Nat.le_of_ble_eq_true rfl) (fun F C => ?_)
  refine g_iload_n 1 C dX5_isStore_0 rfl rfl ?_
  refine g_iconst 2 C dX5_isStore_1 rfl ?_
  refine g_iconst 3 C dX5_isStore_2 rfl ?_
  refine g_S3r 6 0 0 C dX5_isStore_3 rfl lk_RX5_35 gs_X5_in ⟨⟨by decide, by decide⟩, by decide, by decide⟩ (Nat.le_of_ble_eq_true rfl) rfl rfl rfl (c_X5_in v 0 2 hvr (by decide) (by decide)) g_no (fun h9 e3 => ?_)
  subst e3
  exact g_zret C dX5_isStore_6 rfl (gbi_z _) ⟨by decide, by decide⟩ (⟨rfl, rfl, rfl, rfl⟩)
set_option maxRecDepth 100000 in
set_option maxHeartbeats 4000000 in
theorem c_X5_isKey {E : gEnv} {n : Nat} {σ : Option Nat} {h : gH} (v : Int) (hvr : -2147483648 ≤ v ∧ v < 2147483648) : gM E mX5_isKey [.int (gi v)] n σ h (gD (some (.int (gi (gbi (decide (0 ≤ v ∧ v ≤ 2)))))) n σ (fun h9 => h9 = h)) (gNo) := by
  refine gM_of (by decide) (Nat.le_of_ble_eq_true rfl) (fun F C => ?_)
  refine g_iload_n 1 C dX5_isKey_0 rfl rfl ?_
  refine g_iconst 2 C dX5_isKey_1 rfl ?_
  refine g_iconst 3 C dX5_isKey_2 rfl ?_
  refine g_S3r 6 0 0 C dX5_isKey_3 rfl lk_RX5_35 gs_X5_in ⟨⟨by decide, by decide⟩, by decide, by decide⟩ (Nat.le_of_ble_eq_true rfl) rfl rfl rfl (c_X5_in v 0 2 hvr (by decide) (by decide)) g_no (fun h9 e3 => ?_)
  subst e3
  exact g_zret C dX5_isKey_6 rfl (gbi_z _) ⟨by decide, by decide⟩ (⟨rfl, rfl, rfl, rfl⟩)
set_option maxRecDepth 100000 in
set_option maxHeartbeats 4000000 in
theorem c_X5_areThere {E : gEnv} {n : Nat} {σ : Option Nat} {h : gH} (w k s : Int) (hwr : -2147483648 ≤ w ∧ w < 2147483648) (hkr : -2147483648 ≤ k ∧ k < 2147483648) (hsr : -2147483648 ≤ s ∧ s < 2147483648) : gM E mX5_areThere [.int (gi w), .int (gi k), .int (gi s)] n σ h (gD (some (.int (gi (gbi (decide ((0 ≤ w ∧ w < 5) ∧ (0 ≤ k ∧ k < 3) ∧ (0 ≤ s ∧ s < 3))))))) n σ (fun h9 => h9 = h)) (gNo) := by
  refine gM_of (by decide) (Nat.le_of_ble_eq_true rfl) (fun F C => ?_)
  refine g_iload_n 1 C dX5_areThere_0 rfl rfl ?_
  refine g_S1r 4 0 0 C dX5_areThere_1 rfl lk_RX5_82 gs_X5_isWriter ⟨⟨by decide, by decide⟩, by decide, by decide⟩ (Nat.le_of_ble_eq_true rfl) rfl rfl rfl (c_X5_isWriter w hwr) g_no (fun h9 e1 => ?_)
  subst e1
  refine g_if_eq 25 7 C dX5_areThere_4 rfl rfl (gbi_r _) (fun c4 => ?_) (fun c4 => ?_)
  · skip
    have ec : decide ((0 ≤ w ∧ w < 5) ∧ (0 ≤ k ∧ k < 3) ∧ (0 ≤ s ∧ s < 3)) = false := decide_eq_false (fun z => absurd (of_decide_eq_false (gbi_0 c4)) (by omega))
    refine g_iconst 26 C dX5_areThere_25 rfl ?_
    exact g_zret C dX5_areThere_26 rfl rfl ⟨by decide, by decide⟩ (by rw [ec]; exact ⟨rfl, rfl, rfl, rfl⟩)
  · skip
    have z4 := of_decide_eq_true (gbi_1 c4)
    refine g_iload_n 8 C dX5_areThere_7 rfl rfl ?_
    refine g_S1r 11 0 0 C dX5_areThere_8 rfl lk_RX5_86 gs_X5_isKey ⟨⟨by decide, by decide⟩, by decide, by decide⟩ (Nat.le_of_ble_eq_true rfl) rfl rfl rfl (c_X5_isKey k hkr) g_no (fun h9 e8 => ?_)
    subst e8
    refine g_if_eq 25 14 C dX5_areThere_11 rfl rfl (gbi_r _) (fun c11 => ?_) (fun c11 => ?_)
    · skip
      have ec : decide ((0 ≤ w ∧ w < 5) ∧ (0 ≤ k ∧ k < 3) ∧ (0 ≤ s ∧ s < 3)) = false := decide_eq_false (fun z => absurd (of_decide_eq_false (gbi_0 c11)) (by omega))
      refine g_iconst 26 C dX5_areThere_25 rfl ?_
      exact g_zret C dX5_areThere_26 rfl rfl ⟨by decide, by decide⟩ (by rw [ec]; exact ⟨rfl, rfl, rfl, rfl⟩)
    · skip
      have z11 := of_decide_eq_true (gbi_1 c11)
      refine g_iload_n 15 C dX5_areThere_14 rfl rfl ?_
      refine g_S1r 18 0 0 C dX5_areThere_15 rfl lk_RX5_89 gs_X5_isStore ⟨⟨by decide, by decide⟩, by decide, by decide⟩ (Nat.le_of_ble_eq_true rfl) rfl rfl rfl (c_X5_isStore s hsr) g_no (fun h9 e15 => ?_)
      subst e15
      refine g_if_eq 25 21 C dX5_areThere_18 rfl rfl (gbi_r _) (fun c18 => ?_) (fun c18 => ?_)
      · skip
        have ec : decide ((0 ≤ w ∧ w < 5) ∧ (0 ≤ k ∧ k < 3) ∧ (0 ≤ s ∧ s < 3)) = false := decide_eq_false (fun z => absurd (of_decide_eq_false (gbi_0 c18)) (by omega))
        refine g_iconst 26 C dX5_areThere_25 rfl ?_
        exact g_zret C dX5_areThere_26 rfl rfl ⟨by decide, by decide⟩ (by rw [ec]; exact ⟨rfl, rfl, rfl, rfl⟩)
      · skip
        have z18 := of_decide_eq_true (gbi_1 c18)
        have ec : decide ((0 ≤ w ∧ w < 5) ∧ (0 ≤ k ∧ k < 3) ∧ (0 ≤ s ∧ s < 3)) = true := decide_eq_true (by omega)
        refine g_iconst 22 C dX5_areThere_21 rfl ?_
        refine g_goto 26 C dX5_areThere_22 rfl ?_
        exact g_zret C dX5_areThere_26 rfl rfl ⟨by decide, by decide⟩ (by rw [ec]; exact ⟨rfl, rfl, rfl, rfl⟩)
set_option maxRecDepth 100000 in
set_option maxHeartbeats 4000000 in
theorem c_X5_fails {E : gEnv} {n : Nat} {σ : Option Nat} {h : gH} (m : Nat) (g : Int → Int) (hs : Int64) (c : Int) (hmb : gB E ≤ m ∧ m < gB E + n) (hm : isMo h m g hs) : gM E mX5_fails [.ref m, .int (gi c)] n σ h (gD (some (.int (gi 0))) n σ (fun h9 => isMo h9 m (gup g 6 c) hs ∧ gKp m (m + 1) h h9)) (gNo) := by
  unfold isMo at hm
  refine gM_of (by decide) (Nat.le_of_ble_eq_true rfl) (fun F C => ?_)
  refine g_aload_n 1 C dX5_fails_0 rfl rfl ?_
  refine g_iload_n 2 C dX5_fails_1 rfl rfl ?_
  refine g_putf 5 C dX5_fails_2 fp_RX5_32 rfl (by omega) hm rfl rfl (Nat.le_of_ble_eq_true rfl) rfl ?_
  refine g_iconst 6 C dX5_fails_5 rfl ?_
  exact g_iret C dX5_fails_6 rfl ⟨by decide, by decide⟩ (⟨rfl, rfl, rfl, up_s, gKp_up (by omega)⟩)
set_option maxRecDepth 100000 in
set_option maxHeartbeats 4000000 in
theorem c_X5_thrown {E : gEnv} {n : Nat} {σ : Option Nat} {h : gH} (m : Nat) (g : Int → Int) (hs : Int64) (hmb : gB E ≤ m ∧ m < gB E + n) (hm : isMo h m g hs) : gM E mX5_thrown [.ref m] n σ h (gD (some (.int (gi (g 6)))) n σ (fun h9 => h9 = h)) (gNo) := by
  unfold isMo at hm
  refine gM_of (by decide) (Nat.le_of_ble_eq_true rfl) (fun F C => ?_)
  refine g_aload_n 1 C dX5_thrown_0 rfl rfl ?_
  refine g_getf 4 C dX5_thrown_1 fl_RX5_32 rfl (by omega) hm rfl rfl ?_
  exact g_iret C dX5_thrown_4 rfl ⟨by decide, by decide⟩ (⟨rfl, rfl, rfl, rfl⟩)
set_option maxRecDepth 100000 in
set_option maxHeartbeats 4000000 in
theorem c_X5_countAt {E : gEnv} {n : Nat} {σ : Option Nat} {h : gH} (k w : Int) : gM E mX5_countAt [.int (gi k), .int (gi w)] n σ h (gD (some (.int (gi (0 + 5 * k + w)))) n σ (fun h9 => h9 = h)) (gNo) := by
  refine gM_of (by decide) (Nat.le_of_ble_eq_true rfl) (fun F C => ?_)
  refine g_iconst 1 C dX5_countAt_0 rfl ?_
  refine g_iconst 2 C dX5_countAt_1 rfl ?_
  refine g_iload_n 3 C dX5_countAt_2 rfl rfl ?_
  refine g_imul 4 C dX5_countAt_3 rfl ?_
  refine g_iadd 5 C dX5_countAt_4 rfl ?_
  refine g_iload_n 6 C dX5_countAt_5 rfl rfl ?_
  refine g_iadd 7 C dX5_countAt_6 rfl ?_
  exact g_iret C dX5_countAt_7 rfl ⟨by decide, by decide⟩ (⟨rfl, rfl, rfl, rfl⟩)
set_option maxRecDepth 100000 in
set_option maxHeartbeats 4000000 in
theorem c_X5_knowsAt {E : gEnv} {n : Nat} {σ : Option Nat} {h : gH} (k w : Int) : gM E mX5_knowsAt [.int (gi k), .int (gi w)] n σ h (gD (some (.int (gi (15 + 25 * k + 5 * w)))) n σ (fun h9 => h9 = h)) (gNo) := by
  refine gM_of (by decide) (Nat.le_of_ble_eq_true rfl) (fun F C => ?_)
  refine g_bipush 2 C dX5_knowsAt_0 (by decide) rfl ?_
  refine g_bipush 4 C dX5_knowsAt_2 (by decide) rfl ?_
  refine g_iload_n 5 C dX5_knowsAt_4 rfl rfl ?_
  refine g_imul 6 C dX5_knowsAt_5 rfl ?_
  refine g_iadd 7 C dX5_knowsAt_6 rfl ?_
  refine g_iconst 8 C dX5_knowsAt_7 rfl ?_
  refine g_iload_n 9 C dX5_knowsAt_8 rfl rfl ?_
  refine g_imul 10 C dX5_knowsAt_9 rfl ?_
  refine g_iadd 11 C dX5_knowsAt_10 rfl ?_
  exact g_iret C dX5_knowsAt_11 rfl ⟨by decide, by decide⟩ (⟨rfl, rfl, rfl, rfl⟩)
set_option maxRecDepth 100000 in
set_option maxHeartbeats 4000000 in
theorem c_X5_vectorAt {E : gEnv} {n : Nat} {σ : Option Nat} {h : gH} (k s : Int) : gM E mX5_vectorAt [.int (gi k), .int (gi s)] n σ h (gD (some (.int (gi (90 + 15 * k + 5 * s)))) n σ (fun h9 => h9 = h)) (gNo) := by
  refine gM_of (by decide) (Nat.le_of_ble_eq_true rfl) (fun F C => ?_)
  refine g_bipush 2 C dX5_vectorAt_0 (by decide) rfl ?_
  refine g_bipush 4 C dX5_vectorAt_2 (by decide) rfl ?_
  refine g_iload_n 5 C dX5_vectorAt_4 rfl rfl ?_
  refine g_imul 6 C dX5_vectorAt_5 rfl ?_
  refine g_iadd 7 C dX5_vectorAt_6 rfl ?_
  refine g_iconst 8 C dX5_vectorAt_7 rfl ?_
  refine g_iload_n 9 C dX5_vectorAt_8 rfl rfl ?_
  refine g_imul 10 C dX5_vectorAt_9 rfl ?_
  refine g_iadd 11 C dX5_vectorAt_10 rfl ?_
  exact g_iret C dX5_vectorAt_11 rfl ⟨by decide, by decide⟩ (⟨rfl, rfl, rfl, rfl⟩)
set_option maxRecDepth 100000 in
set_option maxHeartbeats 4000000 in
theorem c_X5_rowAt {E : gEnv} {n : Nat} {σ : Option Nat} {h : gH} (k s : Int) : gM E mX5_rowAt [.int (gi k), .int (gi s)] n σ h (gD (some (.int (gi (135 + 19 * (3 * k + s))))) n σ (fun h9 => h9 = h)) (gNo) := by
  refine gM_of (by decide) (Nat.le_of_ble_eq_true rfl) (fun F C => ?_)
  refine g_sipush 3 C dX5_rowAt_0 (by decide) rfl ?_
  refine g_bipush 5 C dX5_rowAt_3 (by decide) rfl ?_
  refine g_iconst 6 C dX5_rowAt_5 rfl ?_
  refine g_iload_n 7 C dX5_rowAt_6 rfl rfl ?_
  refine g_imul 8 C dX5_rowAt_7 rfl ?_
  refine g_iload_n 9 C dX5_rowAt_8 rfl rfl ?_
  refine g_iadd 10 C dX5_rowAt_9 rfl ?_
  refine g_imul 11 C dX5_rowAt_10 rfl ?_
  refine g_iadd 12 C dX5_rowAt_11 rfl ?_
  exact g_iret C dX5_rowAt_12 rfl ⟨by decide, by decide⟩ (⟨rfl, rfl, rfl, rfl⟩)
set_option maxRecDepth 100000 in
set_option maxHeartbeats 4000000 in
theorem c_X5_placeAt {E : gEnv} {n : Nat} {σ : Option Nat} {h : gH} (k s p : Int) : gM E mX5_placeAt [.int (gi k), .int (gi s), .int (gi p)] n σ h (gD (some (.int (gi (135 + 19 * (3 * k + s) + 1 + 3 * p)))) n σ (fun h9 => h9 = h)) (gNo) := by
  refine gM_of (by decide) (Nat.le_of_ble_eq_true rfl) (fun F C => ?_)
  refine g_iload_n 1 C dX5_placeAt_0 rfl rfl ?_
  refine g_iload_n 2 C dX5_placeAt_1 rfl rfl ?_
  refine g_S2r 5 0 0 C dX5_placeAt_2 rfl lk_RX5_43 gs_X5_rowAt ⟨⟨by decide, by decide⟩, by decide, by decide⟩ (Nat.le_of_ble_eq_true rfl) rfl rfl rfl (c_X5_rowAt k s) g_no (fun h9 e2 => ?_)
  subst e2
  refine g_iconst 6 C dX5_placeAt_5 rfl ?_
  refine g_iadd 7 C dX5_placeAt_6 rfl ?_
  refine g_iconst 8 C dX5_placeAt_7 rfl ?_
  refine g_iload_n 9 C dX5_placeAt_8 rfl rfl ?_
  refine g_imul 10 C dX5_placeAt_9 rfl ?_
  refine g_iadd 11 C dX5_placeAt_10 rfl ?_
  exact g_iret C dX5_placeAt_11 rfl ⟨by decide, by decide⟩ (⟨rfl, rfl, rfl, rfl⟩)
set_option maxRecDepth 100000 in
set_option maxHeartbeats 4000000 in
theorem c_X5_siblings {E : gEnv} {n : Nat} {σ : Option Nat} {h : gH} (m : Nat) (g : Int → Int) (hs : Int64) (f : Int → Int) (k s : Int) (l : List (Int × Int)) (hmb : gB E ≤ m ∧ m + 7 ≤ gB E + n) (hm : isMo h m g hs) (hz : h (m + 1) = gI E 311 f) (hk : 0 ≤ k ∧ k < 3) (hss : 0 ≤ s ∧ s < 3) (hl : Rl f (135 + 19 * (3 * k + s)) l)  : gM E mX5_siblings [.ref m, .int (gi k), .int (gi s)] n σ h (gD (some (.int (gi ((l.length : Int))))) n σ (fun h9 => h9 = h)) (gNo) := by
  have hm9 := hm
  unfold isMo at hm
  refine gM_of (by decide) (Nat.le_of_ble_eq_true rfl) (fun F C => ?_)
  refine g_aload_n 1 C dX5_siblings_0 rfl rfl ?_
  refine g_getf 4 C dX5_siblings_1 fl_RX5_7 rfl (by omega) hm rfl rfl ?_
  refine g_iload_n 5 C dX5_siblings_4 rfl rfl ?_
  refine g_iload_n 6 C dX5_siblings_5 rfl rfl ?_
  refine g_S2r 9 0 0 C dX5_siblings_6 rfl lk_RX5_43 gs_X5_rowAt ⟨⟨by decide, by decide⟩, by decide, by decide⟩ (Nat.le_of_ble_eq_true rfl) rfl rfl rfl (c_X5_rowAt k s) g_no (fun h9 e6 => ?_)
  subst e6
  refine g_iald 10 C dX5_siblings_9 (by omega) hz (by omega) (by decide) rfl ?_
  rw [hl.1]
  exact g_iret C dX5_siblings_10 rfl ⟨by decide, by decide⟩ (⟨rfl, rfl, rfl, rfl⟩)
set_option maxRecDepth 100000 in
set_option maxHeartbeats 4000000 in
theorem c_X5_covers {E : gEnv} {n : Nat} {σ : Option Nat} {h : gH} (m : Nat) (g : Int → Int) (hs : Int64) (f : Int → Int) (a b mark : Int) (v : Int → Int) (hmb : gB E ≤ m ∧ m + 7 ≤ gB E + n) (hm : isMo h m g hs) (hz : h (m + 1) = gI E 311 f) (ha : 0 ≤ a ∧ a ≤ 306) (hb : 0 ≤ b ∧ b ≤ 308) (hmk : 0 ≤ mark ∧ mark < 5000) (hb1 : f b = mark / 1000) (hb2 : f (b + 1) = mark % 1000) (hv : Rv f a v) (hov : okV v) : gM E mX5_covers [.ref m, .int (gi a), .int (gi b)] n σ h (gD (some (.int (gi (gbi (cov v mark))))) n σ (fun h9 => h9 = h)) (gNo) := by
  have hm9 := hm
  unfold isMo at hm
  have hd : 0 ≤ mark / 1000 ∧ mark / 1000 < 5 := by omega
  have hv9 := hv (mark / 1000) hd.1 hd.2
  have ho9 := hov (mark / 1000) hd.1 hd.2
  refine gM_of (by decide) (Nat.le_of_ble_eq_true rfl) (fun F C => ?_)
  refine g_aload_n 1 C dX5_covers_0 rfl rfl ?_
  refine g_getf 4 C dX5_covers_1 fl_RX5_7 rfl (by omega) hm rfl rfl ?_
  refine g_iload_n 5 C dX5_covers_4 rfl rfl ?_
  refine g_aload_n 6 C dX5_covers_5 rfl rfl ?_
  refine g_getf 9 C dX5_covers_6 fl_RX5_7 rfl (by omega) hm rfl rfl ?_
  refine g_iload_n 10 C dX5_covers_9 rfl rfl ?_
  refine g_iconst 11 C dX5_covers_10 rfl ?_
  refine g_iadd 12 C dX5_covers_11 rfl ?_
  refine g_iald 13 C dX5_covers_12 (by omega) hz (by omega) (by decide) rfl ?_
  rw [show b + 0 = b by omega, hb1]
  refine g_iadd 14 C dX5_covers_13 rfl ?_
  refine g_iald 15 C dX5_covers_14 (by omega) hz (by omega) (by decide) rfl ?_
  rw [hv9]
  refine g_aload_n 16 C dX5_covers_15 rfl rfl ?_
  refine g_getf 19 C dX5_covers_16 fl_RX5_7 rfl (by omega) hm rfl rfl ?_
  refine g_iload_n 20 C dX5_covers_19 rfl rfl ?_
  refine g_iconst 21 C dX5_covers_20 rfl ?_
  refine g_iadd 22 C dX5_covers_21 rfl ?_
  refine g_iald 23 C dX5_covers_22 (by omega) hz (by omega) (by decide) rfl ?_
  rw [hb2]
  refine g_icmp_lt 30 26 C dX5_covers_23 rfl rfl (by omega) (by omega) (fun c23 => ?_) (fun c23 => ?_)
  · skip
    have ec : cov v mark = false := decide_eq_false (by omega)
    refine g_iconst 31 C dX5_covers_30 rfl ?_
    exact g_zret C dX5_covers_31 rfl rfl ⟨by decide, by decide⟩ (by rw [ec]; exact ⟨rfl, rfl, rfl, rfl⟩)
  · skip
    have ec : cov v mark = true := decide_eq_true (by omega)
    refine g_iconst 27 C dX5_covers_26 rfl ?_
    refine g_goto 31 C dX5_covers_27 rfl ?_
    exact g_zret C dX5_covers_31 rfl rfl ⟨by decide, by decide⟩ (by rw [ec]; exact ⟨rfl, rfl, rfl, rfl⟩)
set_option maxRecDepth 100000 in
set_option maxHeartbeats 4000000 in
theorem c_X5_has {E : gEnv} {n : Nat} {σ : Option Nat} {h : gH} (m : Nat) (g : Int → Int) (hs : Int64) (f : Int → Int) (k s : Int) (l : List (Int × Int)) (mark : Int) (hmb : gB E ≤ m ∧ m + 7 ≤ gB E + n) (hm : isMo h m g hs) (hz : h (m + 1) = gI E 311 f) (hk : 0 ≤ k ∧ k < 3) (hss : 0 ≤ s ∧ s < 3) (hl : Rl f (135 + 19 * (3 * k + s)) l) (hol : okL l) (hmk : 0 ≤ mark ∧ mark < 5000)  : gM E mX5_has [.ref m, .int (gi k), .int (gi s), .int (gi (mark / 1000)), .int (gi (mark % 1000))] n σ h (gD (some (.int (gi (gbi (hasM l mark))))) n σ (fun h9 => h9 = h)) (gNo) := by
  have hm9 := hm
  unfold isMo at hm
  have h4 := hol.1
  refine gM_of (by decide) (Nat.le_of_ble_eq_true rfl) (fun F C => ?_)
  refine g_iconst 1 C dX5_has_0 rfl ?_
  refine g_istore 3 [(5, _), (0, _), (1, _), (2, _), (3, _), (4, _)] C dX5_has_1 (by decide) rfl rfl ?_
  refine g_iconst 4 C dX5_has_3 rfl ?_
  refine g_istore 6 [(6, _), (5, _), (0, _), (1, _), (2, _), (3, _), (4, _)] C dX5_has_4 (by decide) rfl rfl ?_
  have lp6 : ∀ (k9 : Nat) (i : Nat), (i ≤ l.length) → l.length - i < k9 → G E F mX5_has (gQ E F mX5_has n (gD (some (.int (gi (gbi (hasM l mark))))) n σ (fun h9 => h9 = h)) (gNo)) n σ h 0 0 6 [(6, .int (gi (i : Int))), (5, .int (gi (gbi (hasM (l.take i) mark)))), (0, .ref m), (1, .int (gi k)), (2, .int (gi s)), (3, .int (gi (mark / 1000))), (4, .int (gi (mark % 1000)))] [] := by
    intro k9
    induction k9 with
    | zero => intro i hi h0; exact absurd h0 (Nat.not_lt_zero _)
    | succ k9 ih6 =>
      intro i hi hk6
      refine g_iload 8 C dX5_has_6 rfl rfl ?_
      refine g_aload_n 9 C dX5_has_8 rfl rfl ?_
      refine g_iload_n 10 C dX5_has_9 rfl rfl ?_
      refine g_iload_n 11 C dX5_has_10 rfl rfl ?_
      refine g_V2r 14 0 0 C dX5_has_11 rfl lk_RX5_47 gi_X5_siblings gv_X5_siblings ⟨_, _, rfl⟩ (by omega) hm ⟨⟨by decide, by decide⟩, by decide, by decide⟩ (Nat.le_of_ble_eq_true rfl) rfl rfl rfl (c_X5_siblings m g hs f k s l hmb hm9 hz hk hss hl) g_no (fun h9 e11 => ?_)
      subst e11
      refine g_icmp_ge 71 17 C dX5_has_14 rfl rfl (by omega) (by omega) (fun c14 => ?_) (fun c14 => ?_)
      · skip
        refine g_iload 73 C dX5_has_71 rfl rfl ?_
        exact g_zret C dX5_has_73 rfl (gbi_z _) ⟨by decide, by decide⟩ (by rw [show i = l.length by omega, List.take_length]; exact ⟨rfl, rfl, rfl, rfl⟩)
      · skip
        obtain ⟨y, hy, hyl⟩ := get_of (l := l) (i := i) (by omega)
        obtain ⟨y1, y2, y3⟩ := hl.2 i y hy
        have hyo := hol.2 y hyl
        refine g_iload_n 18 C dX5_has_17 rfl rfl ?_
        refine g_iload_n 19 C dX5_has_18 rfl rfl ?_
        refine g_iload 21 C dX5_has_19 rfl rfl ?_
        refine g_S3r 24 0 0 C dX5_has_21 rfl lk_RX5_50 gs_X5_placeAt ⟨⟨by decide, by decide⟩, by decide, by decide⟩ (Nat.le_of_ble_eq_true rfl) rfl rfl rfl (c_X5_placeAt k s (i : Int)) g_no (fun h9 e21 => ?_)
        subst e21
        refine g_istore 26 [(7, _), (6, _), (5, _), (0, _), (1, _), (2, _), (3, _), (4, _)] C dX5_has_24 (by decide) rfl rfl ?_
        refine g_iload 28 C dX5_has_26 rfl rfl ?_
        refine g_if_ne 58 31 C dX5_has_28 rfl rfl (gbi_r _) (fun c28 => ?_) (fun c28 => ?_)
        · skip
          have eb : hasM (l.take (i + 1)) mark = true := by rw [hasM_s hy, gbi_1 c28]; rfl
          refine g_iconst 59 C dX5_has_58 rfl ?_
          refine g_goto 63 C dX5_has_59 rfl ?_
          refine g_istore 65 [(5, _), (7, _), (6, _), (0, _), (1, _), (2, _), (3, _), (4, _)] C dX5_has_63 (by decide) rfl rfl ?_
          refine g_iinc 68 [(6, _), (5, _), (7, _), (0, _), (1, _), (2, _), (3, _), (4, _)] C dX5_has_65 rfl (by decide) rfl rfl ?_
          refine g_goto 6 C dX5_has_68 rfl ?_
          refine g_loc [(6, _), (5, .int (gi (gbi (hasM (l.take (i + 1)) mark)))), (0, _), (1, _), (2, _), (3, _), (4, _)] ⟨rfl, (by rw [eb]; rfl), rfl, rfl, rfl, rfl, rfl, trivial⟩ ?_
          exact ih6 (i + 1) (by omega) (by omega)
        · skip
          have e0 := gbi_0 c28
          refine g_aload_n 32 C dX5_has_31 rfl rfl ?_
          refine g_getf 35 C dX5_has_32 fl_RX5_7 rfl (by omega) hm rfl rfl ?_
          refine g_iload 37 C dX5_has_35 rfl rfl ?_
          refine g_iconst 38 C dX5_has_37 rfl ?_
          refine g_iadd 39 C dX5_has_38 rfl ?_
          refine g_iald 40 C dX5_has_39 (by omega) hz (by omega) (by decide) rfl ?_
          rw [Int.add_zero, y1]
          refine g_iload_n 41 C dX5_has_40 rfl rfl ?_
          refine g_icmp_ne 62 44 C dX5_has_41 rfl rfl (by omega) (by omega) (fun c41 => ?_) (fun c41 => ?_)
          · skip
            have eb : hasM (l.take (i + 1)) mark = false := by rw [hasM_s hy, e0]; simp; omega
            refine g_iconst 63 C dX5_has_62 rfl ?_
            refine g_istore 65 [(5, _), (7, _), (6, _), (0, _), (1, _), (2, _), (3, _), (4, _)] C dX5_has_63 (by decide) rfl rfl ?_
            refine g_iinc 68 [(6, _), (5, _), (7, _), (0, _), (1, _), (2, _), (3, _), (4, _)] C dX5_has_65 rfl (by decide) rfl rfl ?_
            refine g_goto 6 C dX5_has_68 rfl ?_
            refine g_loc [(6, _), (5, .int (gi (gbi (hasM (l.take (i + 1)) mark)))), (0, _), (1, _), (2, _), (3, _), (4, _)] ⟨rfl, (by rw [eb]; rfl), rfl, rfl, rfl, rfl, rfl, trivial⟩ ?_
            exact ih6 (i + 1) (by omega) (by omega)
          · skip
            refine g_aload_n 45 C dX5_has_44 rfl rfl ?_
            refine g_getf 48 C dX5_has_45 fl_RX5_7 rfl (by omega) hm rfl rfl ?_
            refine g_iload 50 C dX5_has_48 rfl rfl ?_
            refine g_iconst 51 C dX5_has_50 rfl ?_
            refine g_iadd 52 C dX5_has_51 rfl ?_
            refine g_iald 53 C dX5_has_52 (by omega) hz (by omega) (by decide) rfl ?_
            rw [y2]
            refine g_iload 55 C dX5_has_53 rfl rfl ?_
            refine g_icmp_ne 62 58 C dX5_has_55 rfl rfl (by omega) (by omega) (fun c55 => ?_) (fun c55 => ?_)
            · skip
              have eb : hasM (l.take (i + 1)) mark = false := by rw [hasM_s hy, e0]; simp; omega
              refine g_iconst 63 C dX5_has_62 rfl ?_
              refine g_istore 65 [(5, _), (7, _), (6, _), (0, _), (1, _), (2, _), (3, _), (4, _)] C dX5_has_63 (by decide) rfl rfl ?_
              refine g_iinc 68 [(6, _), (5, _), (7, _), (0, _), (1, _), (2, _), (3, _), (4, _)] C dX5_has_65 rfl (by decide) rfl rfl ?_
              refine g_goto 6 C dX5_has_68 rfl ?_
              refine g_loc [(6, _), (5, .int (gi (gbi (hasM (l.take (i + 1)) mark)))), (0, _), (1, _), (2, _), (3, _), (4, _)] ⟨rfl, (by rw [eb]; rfl), rfl, rfl, rfl, rfl, rfl, trivial⟩ ?_
              exact ih6 (i + 1) (by omega) (by omega)
            · skip
              have eb : hasM (l.take (i + 1)) mark = true := by rw [hasM_s hy, e0]; simp; omega
              refine g_iconst 59 C dX5_has_58 rfl ?_
              refine g_goto 63 C dX5_has_59 rfl ?_
              refine g_istore 65 [(5, _), (7, _), (6, _), (0, _), (1, _), (2, _), (3, _), (4, _)] C dX5_has_63 (by decide) rfl rfl ?_
              refine g_iinc 68 [(6, _), (5, _), (7, _), (0, _), (1, _), (2, _), (3, _), (4, _)] C dX5_has_65 rfl (by decide) rfl rfl ?_
              refine g_goto 6 C dX5_has_68 rfl ?_
              refine g_loc [(6, _), (5, .int (gi (gbi (hasM (l.take (i + 1)) mark)))), (0, _), (1, _), (2, _), (3, _), (4, _)] ⟨rfl, (by rw [eb]; rfl), rfl, rfl, rfl, rfl, rfl, trivial⟩ ?_
              exact ih6 (i + 1) (by omega) (by omega)
  refine g_loc [(6, _), (5, _), (0, _), (1, _), (2, _), (3, _), (4, _)] ⟨rfl, rfl, rfl, rfl, rfl, rfl, rfl, trivial⟩ ?_
  exact lp6 _ 0 (Nat.zero_le _) (Nat.lt_succ_self _)
