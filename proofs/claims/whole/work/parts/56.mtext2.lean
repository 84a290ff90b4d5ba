/-! SiblingJoinsModel: a value in a text -/
def vTwo (g ft : Int → Int) : Bool := decide (0 < ft (g 11) - 48) && isAtB (gup g 11 (g 11 + 1)) ft 48 57
def vVal (g ft : Int → Int) : Int := if vTwo g ft = true then 10 * (ft (g 11) - 48) + ft (g 11 + 1) - 48 else ft (g 11) - 48
def vAt (g ft : Int → Int) : Int := if vTwo g ft = true then g 11 + 1 + 1 else g 11 + 1
set_option maxRecDepth 100000 in
set_option maxHeartbeats 4000000 in
theorem c_X5_takesValue {E : gEnv} {n : Nat} {σ : Option Nat} {h : gH} (m : Nat) (g : Int → Int) (hs : Int64) (ft : Int → Int) (fo : Int → Int) (hmb : gB E ≤ m ∧ m + 7 ≤ gB E + n) (hm : isMo h m g hs) (htx : h (m + 4) = gI E 60 ft) (hG : okG g ft) (htl : h (m + 6) = gI E 60 fo) (hto : 0 ≤ g 14 ∧ g 14 < 11)  : gM E mX5_takesValue [.ref m] n σ h (gD (some (.int (gi (gbi (isAtB g ft 48 57))))) n σ (fun h9 => if isAtB g ft 48 57 = true then (isMo h9 m (gup g 11 (vAt g ft)) hs ∧ h9 (m + 6) = gI E 60 (gup fo (5 * g 14 + 4) (vVal g ft)) ∧ ∀ x9 : Nat, x9 ≠ m → x9 ≠ m + 6 → h9 x9 = h x9) else (isMo h9 m (gup g 12 (gbi (decide (g 11 < g 5)))) hs ∧ gKp m (m + 1) h h9))) (gNo) := by
  have hG9 := hG
  have m1 := hm
  unfold isMo at m1
  obtain ⟨a1, a2, a3, a4⟩ := hG
  refine gM_of (by decide) (Nat.le_of_ble_eq_true rfl) (fun F C => ?_)
  refine g_aload_n 1 C dX5_takesValue_0 rfl rfl ?_
  refine g_bipush 3 C dX5_takesValue_1 (by decide) rfl ?_
  refine g_bipush 5 C dX5_takesValue_3 (by decide) rfl ?_
  refine g_V2r 8 0 0 C dX5_takesValue_5 rfl lk_RX5_145 gi_X5_isAt gv_X5_isAt ⟨_, _, rfl⟩ (by omega) m1 ⟨⟨by decide, by decide⟩, by decide, by decide⟩ (Nat.le_of_ble_eq_true rfl) rfl rfl rfl (c_X5_isAt m g hs ft 48 57 hmb hm htx hG9 (by omega) (by omega)) g_no (fun h9 e5 => ?_)
  replace e5 := e5.symm
  subst e5
  refine g_if_ne 16 11 C dX5_takesValue_8 rfl rfl (gbi_r _) (fun c8 => ?_) (fun c8 => ?_)
  · skip
    have eb := gbi_1 c8
    have z := of_decide_eq_true eb
    refine g_aload_n 17 C dX5_takesValue_16 rfl rfl ?_
    refine g_getf 20 C dX5_takesValue_17 fl_RX5_19 rfl (by omega) m1 rfl rfl ?_
    refine g_aload_n 21 C dX5_takesValue_20 rfl rfl ?_
    refine g_getf 24 C dX5_takesValue_21 fl_RX5_138 rfl (by omega) m1 rfl rfl ?_
    refine g_iald 25 C dX5_takesValue_24 (by omega) htx (by omega) (by decide) rfl ?_
    refine g_bipush 27 C dX5_takesValue_25 (by decide) rfl ?_
    refine g_isub 28 C dX5_takesValue_27 rfl ?_
    refine g_istore_n 29 [(1, _), (0, _)] C dX5_takesValue_28 (by decide) rfl rfl ?_
    refine g_aload_n 30 C dX5_takesValue_29 rfl rfl ?_
    refine g_dup 31 C dX5_takesValue_30 rfl rfl ?_
    refine g_getf 34 C dX5_takesValue_31 fl_RX5_138 rfl (by omega) m1 rfl rfl ?_
    refine g_iconst 35 C dX5_takesValue_34 rfl ?_
    refine g_iadd 36 C dX5_takesValue_35 rfl ?_
    refine g_putf 39 C dX5_takesValue_36 fp_RX5_138 rfl (by omega) m1 rfl rfl (Nat.le_of_ble_eq_true rfl) rfl ?_
    refine g_ab (fun z => isMo z m (gup g 11 (g 11 + 1)) hs ∧ gKp m (m + 1) h z) ⟨up_s, gKp_up (by omega)⟩ (fun h1 q1 => ?_)
    obtain ⟨n1, k1⟩ := q1
    have n19 := n1
    unfold isMo at n1
    have tx1 := (k1 (m + 4) (by omega)).trans htx
    have tl1 := (k1 (m + 6) (by omega)).trans htl
    have g11 : gup g 11 (g 11 + 1) 11 = g 11 + 1 := gup_at
    have hG1 : okG (gup g 11 (g 11 + 1)) ft := ⟨by rw [g11]; omega, by rw [g11]; show g 11 + 1 ≤ g 5; omega, a3, a4⟩
    refine g_iload_n 40 C dX5_takesValue_39 rfl rfl ?_
    refine g_if_le 82 43 C dX5_takesValue_40 rfl rfl (by omega) (fun c40 => ?_) (fun c40 => ?_)
    · skip
      have e2 : vTwo g ft = false := by unfold vTwo; rw [decide_eq_false (by omega)]; rfl
      refine g_aload_n 83 C dX5_takesValue_82 rfl rfl ?_
      refine g_getf 86 C dX5_takesValue_83 fl_RX5_25 rfl (by omega) n1 rfl rfl ?_
      refine g_iconst 87 C dX5_takesValue_86 rfl ?_
      refine g_aload_n 88 C dX5_takesValue_87 rfl rfl ?_
      refine g_getf 91 C dX5_takesValue_88 fl_RX5_152 rfl (by omega) n1 rfl rfl ?_
      rw [show gup g 11 (g 11 + 1) 14 = g 14 from gup_ne (by decide)]
      refine g_imul 92 C dX5_takesValue_91 rfl ?_
      refine g_iconst 93 C dX5_takesValue_92 rfl ?_
      refine g_iadd 94 C dX5_takesValue_93 rfl ?_
      refine g_iload_n 95 C dX5_takesValue_94 rfl rfl ?_
      refine g_iast 96 C dX5_takesValue_95 (by omega) tl1 (by omega) (by decide) rfl ?_
      refine g_iconst 97 C dX5_takesValue_96 rfl ?_
      exact g_zret C dX5_takesValue_97 rfl rfl ⟨by decide, by decide⟩ (by
          rw [eb]
          refine ⟨rfl, rfl, rfl, ?_, ?_, fun x9 z1 z9 => (up_n z9).trans (k1 x9 (by omega))⟩
          · rw [show vAt g ft = g 11 + 1 from if_neg (by rw [e2]; decide)]
            exact (up_n (by omega)).trans n19
          · rw [show vVal g ft = _ from if_neg (by rw [e2]; decide)]
            exact up_s)
    · skip
      refine g_aload_n 44 C dX5_takesValue_43 rfl rfl ?_
      refine g_bipush 46 C dX5_takesValue_44 (by decide) rfl ?_
      refine g_bipush 48 C dX5_takesValue_46 (by decide) rfl ?_
      refine g_V2r 51 0 0 C dX5_takesValue_48 rfl lk_RX5_145 gi_X5_isAt gv_X5_isAt ⟨_, _, rfl⟩ (by omega) n1 ⟨⟨by decide, by decide⟩, by decide, by decide⟩ (Nat.le_of_ble_eq_true rfl) rfl rfl rfl (c_X5_isAt m (gup g 11 (g 11 + 1)) hs ft 48 57 hmb n19 tx1 hG1 (by omega) (by omega)) g_no (fun h9 e48 => ?_)
      replace e48 := e48.symm
      subst e48
      refine g_if_eq 82 54 C dX5_takesValue_51 rfl rfl (gbi_r _) (fun c51 => ?_) (fun c51 => ?_)
      · skip
        have e2 : vTwo g ft = false := by unfold vTwo; rw [gbi_0 c51, Bool.and_false]
        refine g_aload_n 83 C dX5_takesValue_82 rfl rfl ?_
        refine g_getf 86 C dX5_takesValue_83 fl_RX5_25 rfl (by omega) n1 rfl rfl ?_
        refine g_iconst 87 C dX5_takesValue_86 rfl ?_
        refine g_aload_n 88 C dX5_takesValue_87 rfl rfl ?_
        refine g_getf 91 C dX5_takesValue_88 fl_RX5_152 rfl (by omega) n1 rfl rfl ?_
        rw [show gup g 11 (g 11 + 1) 14 = g 14 from gup_ne (by decide)]
        refine g_imul 92 C dX5_takesValue_91 rfl ?_
        refine g_iconst 93 C dX5_takesValue_92 rfl ?_
        refine g_iadd 94 C dX5_takesValue_93 rfl ?_
        refine g_iload_n 95 C dX5_takesValue_94 rfl rfl ?_
        refine g_iast 96 C dX5_takesValue_95 (by omega) tl1 (by omega) (by decide) rfl ?_
        refine g_iconst 97 C dX5_takesValue_96 rfl ?_
        exact g_zret C dX5_takesValue_97 rfl rfl ⟨by decide, by decide⟩ (by
            rw [eb]
            refine ⟨rfl, rfl, rfl, ?_, ?_, fun x9 z1 z9 => (up_n z9).trans (k1 x9 (by omega))⟩
            · rw [show vAt g ft = g 11 + 1 from if_neg (by rw [e2]; decide)]
              exact (up_n (by omega)).trans n19
            · rw [show vVal g ft = _ from if_neg (by rw [e2]; decide)]
              exact up_s)
      · skip
        have z2 := of_decide_eq_true (gbi_1 c51)
        rw [g11, show gup g 11 (g 11 + 1) 5 = g 5 from gup_ne (by decide)] at z2
        have e2 : vTwo g ft = true := by unfold vTwo; rw [gbi_1 c51, decide_eq_true (by omega)]; rfl
        refine g_bipush 56 C dX5_takesValue_54 (by decide) rfl ?_
        refine g_iload_n 57 C dX5_takesValue_56 rfl rfl ?_
        refine g_imul 58 C dX5_takesValue_57 rfl ?_
        refine g_aload_n 59 C dX5_takesValue_58 rfl rfl ?_
        refine g_getf 62 C dX5_takesValue_59 fl_RX5_19 rfl (by omega) n1 rfl rfl ?_
        refine g_aload_n 63 C dX5_takesValue_62 rfl rfl ?_
        refine g_getf 66 C dX5_takesValue_63 fl_RX5_138 rfl (by omega) n1 rfl rfl ?_
        rw [g11]
        refine g_iald 67 C dX5_takesValue_66 (by omega) tx1 (by omega) (by decide) rfl ?_
        refine g_iadd 68 C dX5_takesValue_67 rfl ?_
        refine g_bipush 70 C dX5_takesValue_68 (by decide) rfl ?_
        refine g_isub 71 C dX5_takesValue_70 rfl ?_
        refine g_istore_n 72 [(1, _), (0, _)] C dX5_takesValue_71 (by decide) rfl rfl ?_
        refine g_aload_n 73 C dX5_takesValue_72 rfl rfl ?_
        refine g_dup 74 C dX5_takesValue_73 rfl rfl ?_
        refine g_getf 77 C dX5_takesValue_74 fl_RX5_138 rfl (by omega) n1 rfl rfl ?_
        rw [g11]
        refine g_iconst 78 C dX5_takesValue_77 rfl ?_
        refine g_iadd 79 C dX5_takesValue_78 rfl ?_
        refine g_putf 82 C dX5_takesValue_79 fp_RX5_138 rfl (by omega) n1 rfl rfl (Nat.le_of_ble_eq_true rfl) rfl ?_
        refine g_aload_n 83 C dX5_takesValue_82 rfl rfl ?_
        refine g_getf 86 C dX5_takesValue_83 fl_RX5_25 rfl (by omega) up_s rfl rfl ?_
        refine g_iconst 87 C dX5_takesValue_86 rfl ?_
        refine g_aload_n 88 C dX5_takesValue_87 rfl rfl ?_
        refine g_getf 91 C dX5_takesValue_88 fl_RX5_152 rfl (by omega) up_s rfl rfl ?_
        rw [show gup g 11 (g 11 + 1) 14 = g 14 from gup_ne (by decide)]
        refine g_imul 92 C dX5_takesValue_91 rfl ?_
        refine g_iconst 93 C dX5_takesValue_92 rfl ?_
        refine g_iadd 94 C dX5_takesValue_93 rfl ?_
        refine g_iload_n 95 C dX5_takesValue_94 rfl rfl ?_
        refine g_iast 96 C dX5_takesValue_95 (by omega) ((up_n (by omega)).trans tl1) (by omega) (by decide) rfl ?_
        refine g_iconst 97 C dX5_takesValue_96 rfl ?_
        exact g_zret C dX5_takesValue_97 rfl rfl ⟨by decide, by decide⟩ (by
            rw [eb]
            refine ⟨rfl, rfl, rfl, ?_, ?_, fun x9 z1 z9 => (up_n z9).trans ((up_n z1).trans (k1 x9 (by omega)))⟩
            · rw [show vAt g ft = g 11 + 1 + 1 from if_pos e2, show gup g 11 (g 11 + 1 + 1) = gup (gup g 11 (g 11 + 1)) 11 (g 11 + 1 + 1) from gup_gup.symm]
              exact (up_n (by omega)).trans up_s
            · rw [show vVal g ft = _ from if_pos e2]
              exact up_s)
  · skip
    have eb := gbi_0 c8
    refine g_aload_n 12 C dX5_takesValue_11 rfl rfl ?_
    refine g_V0r 15 0 0 C dX5_takesValue_12 rfl lk_RX5_148 gi_X5_stops gv_X5_stops ⟨_, _, rfl⟩ (by omega) m1 ⟨⟨by decide, by decide⟩, by decide, by decide⟩ (Nat.le_of_ble_eq_true rfl) rfl rfl rfl (c_X5_stops m g hs ft hmb hm htx hG9) g_no (fun h2 e12 => ?_)
    have e12 := e12
    exact g_zret C dX5_takesValue_15 rfl rfl ⟨by decide, by decide⟩ (by rw [eb]; exact ⟨rfl, rfl, rfl, e12⟩)
