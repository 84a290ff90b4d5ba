/-! SiblingJoinsModel: texts -/
/-- whether a character from a to b stands at the place -/
def isAtB (g ft : Int → Int) (a b : Int) : Bool := decide (g 11 < g 5 ∧ a ≤ ft (g 11) ∧ ft (g 11) ≤ b)
def okG (g ft : Int → Int) : Prop := 0 ≤ g 11 ∧ g 11 ≤ g 5 ∧ g 5 ≤ 60 ∧ ∀ j : Int, 0 ≤ j → j < g 5 → 33 ≤ ft j ∧ ft j ≤ 126
set_option maxRecDepth 100000 in
set_option maxHeartbeats 4000000 in
theorem c_X5_isAt {E : gEnv} {n : Nat} {σ : Option Nat} {h : gH} (m : Nat) (g : Int → Int) (hs : Int64) (ft : Int → Int) (a b : Int) (hmb : gB E ≤ m ∧ m + 7 ≤ gB E + n) (hm : isMo h m g hs) (htx : h (m + 4) = gI E 60 ft) (hG : okG g ft) (har : -2147483648 ≤ a ∧ a < 2147483648) (hbr : -2147483648 ≤ b ∧ b < 2147483648)  : gM E mX5_isAt [.ref m, .int (gi a), .int (gi b)] n σ h (gD (some (.int (gi (gbi (isAtB g ft a b))))) n σ (fun h9 => h9 = h)) (gNo) := by
  have m1 := hm
  unfold isMo at m1
  obtain ⟨a1, a2, a3, a4⟩ := hG
  refine gM_of (by decide) (Nat.le_of_ble_eq_true rfl) (fun F C => ?_)
  refine g_aload_n 1 C dX5_isAt_0 rfl rfl ?_
  refine g_getf 4 C dX5_isAt_1 fl_RX5_138 rfl (by omega) m1 rfl rfl ?_
  refine g_aload_n 5 C dX5_isAt_4 rfl rfl ?_
  refine g_getf 8 C dX5_isAt_5 fl_RX5_135 rfl (by omega) m1 rfl rfl ?_
  refine g_icmp_ge 32 11 C dX5_isAt_8 rfl rfl (by omega) (by omega) (fun c8 => ?_) (fun c8 => ?_)
  · skip
    have eb : isAtB g ft a b = false := decide_eq_false (by omega)
    refine g_iconst 33 C dX5_isAt_32 rfl ?_
    exact g_zret C dX5_isAt_33 rfl rfl ⟨by decide, by decide⟩ (by rw [eb]; exact ⟨rfl, rfl, rfl, rfl⟩)
  · skip
    have hf := a4 (g 11) (by omega) (by omega)
    refine g_aload_n 12 C dX5_isAt_11 rfl rfl ?_
    refine g_getf 15 C dX5_isAt_12 fl_RX5_19 rfl (by omega) m1 rfl rfl ?_
    refine g_aload_n 16 C dX5_isAt_15 rfl rfl ?_
    refine g_getf 19 C dX5_isAt_16 fl_RX5_138 rfl (by omega) m1 rfl rfl ?_
    refine g_iald 20 C dX5_isAt_19 (by omega) htx (by omega) (by decide) rfl ?_
    refine g_iload_n 21 C dX5_isAt_20 rfl rfl ?_
    refine g_iload_n 22 C dX5_isAt_21 rfl rfl ?_
    refine g_S3r 25 0 0 C dX5_isAt_22 rfl lk_RX5_35 gs_X5_in ⟨⟨by decide, by decide⟩, by decide, by decide⟩ (Nat.le_of_ble_eq_true rfl) rfl rfl rfl (c_X5_in (ft (g 11)) a b (by omega) har hbr) g_no (fun h9 e22 => ?_)
    replace e22 := e22.symm
    subst e22
    refine g_if_eq 32 28 C dX5_isAt_25 rfl rfl (gbi_r _) (fun c25 => ?_) (fun c25 => ?_)
    · skip
      have z := of_decide_eq_false (gbi_0 c25)
      have eb : isAtB g ft a b = false := decide_eq_false (by omega)
      refine g_iconst 33 C dX5_isAt_32 rfl ?_
      exact g_zret C dX5_isAt_33 rfl rfl ⟨by decide, by decide⟩ (by rw [eb]; exact ⟨rfl, rfl, rfl, rfl⟩)
    · skip
      have z := of_decide_eq_true (gbi_1 c25)
      have eb : isAtB g ft a b = true := decide_eq_true (by omega)
      refine g_iconst 29 C dX5_isAt_28 rfl ?_
      refine g_goto 33 C dX5_isAt_29 rfl ?_
      exact g_zret C dX5_isAt_33 rfl rfl ⟨by decide, by decide⟩ (by rw [eb]; exact ⟨rfl, rfl, rfl, rfl⟩)
set_option maxRecDepth 100000 in
set_option maxHeartbeats 4000000 in
theorem c_X5_stops {E : gEnv} {n : Nat} {σ : Option Nat} {h : gH} (m : Nat) (g : Int → Int) (hs : Int64) (ft : Int → Int) (hmb : gB E ≤ m ∧ m + 7 ≤ gB E + n) (hm : isMo h m g hs) (htx : h (m + 4) = gI E 60 ft) (hG : okG g ft)  : gM E mX5_stops [.ref m] n σ h (gD (some (.int (gi 0))) n σ (fun h9 => isMo h9 m (gup g 12 (gbi (decide (g 11 < g 5)))) hs ∧ gKp m (m + 1) h h9)) (gNo) := by
  have m1 := hm
  unfold isMo at m1
  obtain ⟨a1, a2, a3, a4⟩ := hG
  refine gM_of (by decide) (Nat.le_of_ble_eq_true rfl) (fun F C => ?_)
  refine g_aload_n 1 C dX5_stops_0 rfl rfl ?_
  refine g_aload_n 2 C dX5_stops_1 rfl rfl ?_
  refine g_getf 5 C dX5_stops_2 fl_RX5_138 rfl (by omega) m1 rfl rfl ?_
  refine g_aload_n 6 C dX5_stops_5 rfl rfl ?_
  refine g_getf 9 C dX5_stops_6 fl_RX5_135 rfl (by omega) m1 rfl rfl ?_
  refine g_icmp_ge 16 12 C dX5_stops_9 rfl rfl (by omega) (by omega) (fun c9 => ?_) (fun c9 => ?_)
  · skip
    have eb : decide (g 11 < g 5) = false := decide_eq_false (by omega)
    refine g_iconst 17 C dX5_stops_16 rfl ?_
    refine g_putf 20 C dX5_stops_17 fp_RX5_141 rfl (by omega) m1 rfl rfl (Nat.le_of_ble_eq_true rfl) rfl ?_
    refine g_ab (fun z => isMo z m (gup g 12 (gbi (decide (g 11 < g 5)))) hs ∧ gKp m (m + 1) h z) ⟨by rw [eb]; exact up_s, gKp_up (by omega)⟩ (fun h1 q1 => ?_)
    refine g_iconst 21 C dX5_stops_20 rfl ?_
    exact g_zret C dX5_stops_21 rfl rfl ⟨by decide, by decide⟩ (⟨rfl, rfl, rfl, q1⟩)
  · skip
    have eb : decide (g 11 < g 5) = true := decide_eq_true (by omega)
    refine g_iconst 13 C dX5_stops_12 rfl ?_
    refine g_goto 17 C dX5_stops_13 rfl ?_
    refine g_putf 20 C dX5_stops_17 fp_RX5_141 rfl (by omega) m1 rfl rfl (Nat.le_of_ble_eq_true rfl) rfl ?_
    refine g_ab (fun z => isMo z m (gup g 12 (gbi (decide (g 11 < g 5)))) hs ∧ gKp m (m + 1) h z) ⟨by rw [eb]; exact up_s, gKp_up (by omega)⟩ (fun h1 q1 => ?_)
    refine g_iconst 21 C dX5_stops_20 rfl ?_
    exact g_zret C dX5_stops_21 rfl rfl ⟨by decide, by decide⟩ (⟨rfl, rfl, rfl, q1⟩)
set_option maxRecDepth 100000 in
set_option maxHeartbeats 4000000 in
theorem c_X5_takes {E : gEnv} {n : Nat} {σ : Option Nat} {h : gH} (m : Nat) (g : Int → Int) (hs : Int64) (ft : Int → Int) (c : Int) (hmb : gB E ≤ m ∧ m + 7 ≤ gB E + n) (hm : isMo h m g hs) (htx : h (m + 4) = gI E 60 ft) (hG : okG g ft) (hcr : 0 ≤ c ∧ c < 1000)  : gM E mX5_takes [.ref m, .int (gi c)] n σ h (gD (some (.int (gi (gbi (isAtB g ft c c))))) n σ (fun h9 => isMo h9 m (gup g 11 (g 11 + gbi (isAtB g ft c c))) hs ∧ gKp m (m + 1) h h9)) (gNo) := by
  have hG9 := hG
  have m1 := hm
  unfold isMo at m1
  obtain ⟨a1, a2, a3, a4⟩ := hG
  refine gM_of (by decide) (Nat.le_of_ble_eq_true rfl) (fun F C => ?_)
  refine g_aload_n 1 C dX5_takes_0 rfl rfl ?_
  refine g_iload_n 2 C dX5_takes_1 rfl rfl ?_
  refine g_iload_n 3 C dX5_takes_2 rfl rfl ?_
  refine g_V2r 6 0 0 C dX5_takes_3 rfl lk_RX5_145 gi_X5_isAt gv_X5_isAt ⟨_, _, rfl⟩ (by omega) m1 ⟨⟨by decide, by decide⟩, by decide, by decide⟩ (Nat.le_of_ble_eq_true rfl) rfl rfl rfl (c_X5_isAt m g hs ft c c hmb hm htx hG9 (by omega) (by omega)) g_no (fun h9 e3 => ?_)
  replace e3 := e3.symm
  subst e3
  refine g_istore_n 7 [(2, _), (0, _), (1, _)] C dX5_takes_6 (by decide) rfl rfl ?_
  refine g_aload_n 8 C dX5_takes_7 rfl rfl ?_
  refine g_dup 9 C dX5_takes_8 rfl rfl ?_
  refine g_getf 12 C dX5_takes_9 fl_RX5_138 rfl (by omega) m1 rfl rfl ?_
  refine g_iload_n 13 C dX5_takes_12 rfl rfl ?_
  refine g_if_eq 20 16 C dX5_takes_13 rfl rfl (gbi_r _) (fun c13 => ?_) (fun c13 => ?_)
  · skip
    have eb := gbi_0 c13
    refine g_iconst 21 C dX5_takes_20 rfl ?_
    refine g_iadd 22 C dX5_takes_21 rfl ?_
    refine g_putf 25 C dX5_takes_22 fp_RX5_138 rfl (by omega) m1 rfl rfl (Nat.le_of_ble_eq_true rfl) rfl ?_
    refine g_ab (fun z => isMo z m (gup g 11 (g 11 + gbi (isAtB g ft c c))) hs ∧ gKp m (m + 1) h z) ⟨by rw [eb]; exact up_s, gKp_up (by omega)⟩ (fun h1 q1 => ?_)
    refine g_iload_n 26 C dX5_takes_25 rfl rfl ?_
    exact g_zret C dX5_takes_26 rfl (gbi_z _) ⟨by decide, by decide⟩ (⟨rfl, rfl, rfl, q1⟩)
  · skip
    have eb := gbi_1 c13
    refine g_iconst 17 C dX5_takes_16 rfl ?_
    refine g_goto 21 C dX5_takes_17 rfl ?_
    refine g_iadd 22 C dX5_takes_21 rfl ?_
    refine g_putf 25 C dX5_takes_22 fp_RX5_138 rfl (by omega) m1 rfl rfl (Nat.le_of_ble_eq_true rfl) rfl ?_
    refine g_ab (fun z => isMo z m (gup g 11 (g 11 + gbi (isAtB g ft c c))) hs ∧ gKp m (m + 1) h z) ⟨by rw [eb]; exact up_s, gKp_up (by omega)⟩ (fun h1 q1 => ?_)
    refine g_iload_n 26 C dX5_takes_25 rfl rfl ?_
    exact g_zret C dX5_takes_26 rfl (gbi_z _) ⟨by decide, by decide⟩ (⟨rfl, rfl, rfl, q1⟩)
set_option maxRecDepth 100000 in
set_option maxHeartbeats 4000000 in
theorem c_X5_takesPart {E : gEnv} {n : Nat} {σ : Option Nat} {h : gH} (m : Nat) (g : Int → Int) (hs : Int64) (ft : Int → Int) (fo : Int → Int) (part most : Int) (hmb : gB E ≤ m ∧ m + 7 ≤ gB E + n) (hm : isMo h m g hs) (htx : h (m + 4) = gI E 60 ft) (hG : okG g ft) (htl : h (m + 6) = gI E 60 fo) (hpr : 0 ≤ part ∧ part < 5) (hto : 0 ≤ g 14 ∧ g 14 < 12) (hmo : 0 ≤ most ∧ most < 1000)  : gM E mX5_takesPart [.ref m, .int (gi part), .int (gi most)] n σ h (gD (some (.int (gi (gbi (isAtB g ft 48 most))))) n σ (fun h9 => if isAtB g ft 48 most = true then (isMo h9 m (gup g 11 (g 11 + 1)) hs ∧ h9 (m + 6) = gI E 60 (gup fo (5 * g 14 + part) (ft (g 11) - 48)) ∧ ∀ x9 : Nat, x9 ≠ m → x9 ≠ m + 6 → h9 x9 = h x9) else (isMo h9 m (gup g 12 (gbi (decide (g 11 < g 5)))) hs ∧ gKp m (m + 1) h h9))) (gNo) := by
  have hG9 := hG
  have m1 := hm
  unfold isMo at m1
  obtain ⟨a1, a2, a3, a4⟩ := hG
  refine gM_of (by decide) (Nat.le_of_ble_eq_true rfl) (fun F C => ?_)
  refine g_aload_n 1 C dX5_takesPart_0 rfl rfl ?_
  refine g_bipush 3 C dX5_takesPart_1 (by decide) rfl ?_
  refine g_iload_n 4 C dX5_takesPart_3 rfl rfl ?_
  refine g_V2r 7 0 0 C dX5_takesPart_4 rfl lk_RX5_145 gi_X5_isAt gv_X5_isAt ⟨_, _, rfl⟩ (by omega) m1 ⟨⟨by decide, by decide⟩, by decide, by decide⟩ (Nat.le_of_ble_eq_true rfl) rfl rfl rfl (c_X5_isAt m g hs ft 48 most hmb hm htx hG9 (by omega) (by omega)) g_no (fun h9 e4 => ?_)
  replace e4 := e4.symm
  subst e4
  refine g_if_ne 15 10 C dX5_takesPart_7 rfl rfl (gbi_r _) (fun c7 => ?_) (fun c7 => ?_)
  · skip
    have eb := gbi_1 c7
    have z := of_decide_eq_true eb
    refine g_aload_n 16 C dX5_takesPart_15 rfl rfl ?_
    refine g_getf 19 C dX5_takesPart_16 fl_RX5_25 rfl (by omega) m1 rfl rfl ?_
    refine g_iconst 20 C dX5_takesPart_19 rfl ?_
    refine g_aload_n 21 C dX5_takesPart_20 rfl rfl ?_
    refine g_getf 24 C dX5_takesPart_21 fl_RX5_152 rfl (by omega) m1 rfl rfl ?_
    refine g_imul 25 C dX5_takesPart_24 rfl ?_
    refine g_iload_n 26 C dX5_takesPart_25 rfl rfl ?_
    refine g_iadd 27 C dX5_takesPart_26 rfl ?_
    refine g_aload_n 28 C dX5_takesPart_27 rfl rfl ?_
    refine g_getf 31 C dX5_takesPart_28 fl_RX5_19 rfl (by omega) m1 rfl rfl ?_
    refine g_aload_n 32 C dX5_takesPart_31 rfl rfl ?_
    refine g_getf 35 C dX5_takesPart_32 fl_RX5_138 rfl (by omega) m1 rfl rfl ?_
    refine g_iald 36 C dX5_takesPart_35 (by omega) htx (by omega) (by decide) rfl ?_
    refine g_bipush 38 C dX5_takesPart_36 (by decide) rfl ?_
    refine g_isub 39 C dX5_takesPart_38 rfl ?_
    refine g_iast 40 C dX5_takesPart_39 (by omega) htl (by omega) (by decide) rfl ?_
    refine g_aload_n 41 C dX5_takesPart_40 rfl rfl ?_
    refine g_dup 42 C dX5_takesPart_41 rfl rfl ?_
    refine g_getf 45 C dX5_takesPart_42 fl_RX5_138 rfl (by omega) ((up_n (by omega)).trans m1) rfl rfl ?_
    refine g_iconst 46 C dX5_takesPart_45 rfl ?_
    refine g_iadd 47 C dX5_takesPart_46 rfl ?_
    refine g_putf 50 C dX5_takesPart_47 fp_RX5_138 rfl (by omega) ((up_n (by omega)).trans m1) rfl rfl (Nat.le_of_ble_eq_true rfl) rfl ?_
    refine g_iconst 51 C dX5_takesPart_50 rfl ?_
    exact g_zret C dX5_takesPart_51 rfl rfl ⟨by decide, by decide⟩ (by rw [eb]; exact ⟨rfl, rfl, rfl, up_s, (up_n (by omega)).trans up_s, fun x9 z1 z2 => (up_n z1).trans (up_n z2)⟩)
  · skip
    have eb := gbi_0 c7
    refine g_aload_n 11 C dX5_takesPart_10 rfl rfl ?_
    refine g_V0r 14 0 0 C dX5_takesPart_11 rfl lk_RX5_148 gi_X5_stops gv_X5_stops ⟨_, _, rfl⟩ (by omega) m1 ⟨⟨by decide, by decide⟩, by decide, by decide⟩ (Nat.le_of_ble_eq_true rfl) rfl rfl rfl (c_X5_stops m g hs ft hmb hm htx hG9) g_no (fun h2 e11 => ?_)
    have e11 := e11
    exact g_zret C dX5_takesPart_14 rfl rfl ⟨by decide, by decide⟩ (by rw [eb]; exact ⟨rfl, rfl, rfl, e11⟩)
