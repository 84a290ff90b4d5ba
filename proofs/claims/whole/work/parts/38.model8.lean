/-! SiblingJoinsModel: what it keeps -/
theorem Rz.ext {f f1 : Int → Int} {S : gSt} (x : Rz f S) (hok : okS S) (hk : ∀ i : Int, 0 ≤ i → i < 311 → f1 i = f i) : Rz f1 S := ⟨fun k k0 k3 => (x.1 k k0 k3).kept (hok k k0 k3) (fun i i1 i2 => hk i (by omega) (by omega)) (fun i i1 i2 => hk i (by omega) (by omega)) (fun i i1 i2 => hk i (by omega) (by omega)) (fun i i1 i2 => hk i (by omega) (by omega)), fun j j1 j5 => (hk _ (by omega) (by omega)).trans (x.2 j j1 j5)⟩
/-- the states that are kept, one behind the other -/
def Rpa (f : Int → Int) (d : Nat × (Int → gSt)) : Prop := ∀ i : Int, 0 ≤ i → i < (d.1 : Int) → Rz (fun j => f (311 * i + j)) (d.2 i)
set_option maxRecDepth 100000 in
set_option maxHeartbeats 4000000 in
theorem c_X5_saves {E : gEnv} {n : Nat} {σ : Option Nat} {h : gH} (m : Nat) (g : Int → Int) (hs : Int64) (fp : Int → Int) (d : Nat × (Int → gSt)) (q : Nat) (fa : Int → Int) (A : gSt) (hmb : gB E ≤ m ∧ m + 7 ≤ gB E + n) (hm : isMo h m g hs) (hp : h (m + 3) = gI E 1866 fp) (hc : g 3 = (d.1 : Int)) (hd6 : d.1 ≤ 6) (hP : Rpa fp d) (hoP : ∀ i : Int, 0 ≤ i → i < (d.1 : Int) → okS (d.2 i)) (hq : q = m + 1 ∨ q = m + 2) (ha : h q = gI E 311 fa) (hA : Rz fa A) (hoA : okS A) : gM E mX5_saves [.ref m, .ref q] n σ h (gD none n σ (fun h9 => isMo h9 m (gup g 3 (((tDrop d).1 : Int) + 1)) hs ∧ (∃ fp9 : Int → Int, h9 (m + 3) = gI E 1866 fp9 ∧ Rpa fp9 ((tDrop d).1 + 1, gup (tDrop d).2 ((tDrop d).1 : Int) A)) ∧ ∀ x9 : Nat, x9 ≠ m → x9 ≠ m + 3 → h9 x9 = h x9)) (gNo) := by
  unfold isMo at hm
  have m1 := hm
  have hp1 := hp
  refine gM_of (by decide) (Nat.le_of_ble_eq_true rfl) (fun F C => ?_)
  refine g_aload_n 1 C dX5_saves_0 rfl rfl ?_
  refine g_getf 4 C dX5_saves_1 fl_RX5_28 rfl (by omega) m1 rfl rfl ?_
  refine g_bipush 6 C dX5_saves_4 (by decide) rfl ?_
  refine g_icmp_ne 50 9 C dX5_saves_6 rfl rfl (by rw [hc]; omega) (by omega) (fun c6 => ?_) (fun c6 => ?_)
  · skip
    have hd : tDrop d = d := if_neg (by omega)
    refine g_ab (fun z => ∃ (g1 fp1 : Int → Int), isMo z m g1 hs ∧ g1 3 = ((tDrop d).1 : Int) ∧ (∀ v : Int, gup g1 3 v = gup g 3 v) ∧ z (m + 3) = gI E 1866 fp1 ∧ Rpa fp1 (tDrop d) ∧ ∀ x9 : Nat, x9 ≠ m → x9 ≠ m + 3 → z x9 = h x9) ⟨g, fp, hm, by rw [hd]; exact hc, fun _ => rfl, hp, by rw [hd]; exact hP, fun _ _ _ => rfl⟩ (fun h1 q1 => ?_)
    obtain ⟨g1, fp1, m1, hg3, hgg, hp1, hPd, hkk⟩ := q1
    have m19 := m1
    unfold isMo at m1
    have ha1 := (hkk q (by omega) (by omega)).trans ha
    have hd5 : (tDrop d).1 ≤ 5 := by
      unfold tDrop
      by_cases e : d.1 = 6
      · rw [if_pos e]; exact Nat.le_refl _
      · rw [if_neg e]; omega
    refine g_iconst 51 C dX5_saves_50 rfl ?_
    refine g_istore_n 52 [(2, _), (0, _), (1, _)] C dX5_saves_51 (by decide) rfl rfl ?_
    have lp52 : ∀ (k9 : Nat) (i : Nat) (h2 : gH) (f2 : Int → Int), (i ≤ 311) → (h2 (m + 3) = gI E 1866 f2) → (∀ x9 : Nat, x9 ≠ m + 3 → h2 x9 = h1 x9) → ((∀ j : Int, 0 ≤ j → j < (i : Int) → f2 (311 * ((tDrop d).1 : Int) + j) = fa j) ∧ ∀ j : Int, (j < 311 * ((tDrop d).1 : Int) ∨ 311 * ((tDrop d).1 : Int) + (i : Int) ≤ j) → f2 j = fp1 j) → 311 - i < k9 → G E F mX5_saves (gQ E F mX5_saves n (gD none n σ (fun h9 => isMo h9 m (gup g 3 (((tDrop d).1 : Int) + 1)) hs ∧ (∃ fp9 : Int → Int, h9 (m + 3) = gI E 1866 fp9 ∧ Rpa fp9 ((tDrop d).1 + 1, gup (tDrop d).2 ((tDrop d).1 : Int) A)) ∧ ∀ x9 : Nat, x9 ≠ m → x9 ≠ m + 3 → h9 x9 = h x9)) (gNo)) n σ h2 0 0 52 [(2, .int (gi (i : Int))), (0, .ref m), (1, .ref q)] [] := by
      intro k9
      induction k9 with
      | zero => intro i h2 f2 hi2 hp2 hk2 hF2 h0; exact absurd h0 (Nat.not_lt_zero _)
      | succ k9 ih52 =>
        intro i h2 f2 hi2 hp2 hk2 hF2 hk52
        have m2 : isMo h2 m g1 hs := (hk2 m (by omega)).trans m1
        have m29 := m2
        unfold isMo at m2
        have ha2 := (hk2 q (by omega)).trans ha1
        refine g_iload_n 53 C dX5_saves_52 rfl rfl ?_
        refine g_sipush 56 C dX5_saves_53 (by decide) rfl ?_
        refine g_icmp_ge 83 59 C dX5_saves_56 rfl rfl (by omega) (by omega) (fun c56 => ?_) (fun c56 => ?_)
        · skip
          refine g_aload_n 84 C dX5_saves_83 rfl rfl ?_
          refine g_dup 85 C dX5_saves_84 rfl rfl ?_
          refine g_getf 88 C dX5_saves_85 fl_RX5_28 rfl (by omega) m2 rfl rfl ?_
          refine g_iconst 89 C dX5_saves_88 rfl ?_
          refine g_iadd 90 C dX5_saves_89 rfl ?_
          refine g_putf 93 C dX5_saves_90 fp_RX5_28 rfl (by omega) m2 rfl rfl (Nat.le_of_ble_eq_true rfl) rfl ?_
          exact g_vret C dX5_saves_93 rfl ⟨by decide, by decide⟩ (by
              refine ⟨rfl, rfl, rfl, ?_, ⟨f2, (up_n (by omega)).trans hp2, fun i9 i0 i6 => ?_⟩, fun x9 z1 z2 => (up_n z1).trans ((hk2 x9 z2).trans (hkk x9 z1 z2))⟩
              · rw [← hgg, ← hg3]
                exact up_s
              · have i6 : i9 < (((tDrop d).1 + 1 : Nat) : Int) := i6
                show Rz (fun j => f2 (311 * i9 + j)) (gup (tDrop d).2 ((tDrop d).1 : Int) A i9)
                by_cases e : i9 = ((tDrop d).1 : Int)
                · rw [e, gup_at]
                  exact hA.ext hoA (fun j j0 j1 => hF2.1 j j0 (by omega))
                · rw [gup_ne e]
                  have hz := hPd i9 i0 (by omega)
                  have ho : okS ((tDrop d).2 i9) := by
                    unfold tDrop at e i6 ⊢
                    by_cases e6 : d.1 = 6
                    · rw [if_pos e6] at e i6 ⊢
                      have i6 : i9 < ((5 + 1 : Nat) : Int) := i6
                      have e : ¬ i9 = ((5 : Nat) : Int) := e
                      exact hoP (i9 + 1) (by omega) (by omega)
                    · rw [if_neg e6] at e i6 ⊢
                      exact hoP i9 i0 (by omega)
                  exact hz.ext ho (fun j j0 j1 => hF2.2 _ (by omega)))
        · skip
          refine g_aload_n 60 C dX5_saves_59 rfl rfl ?_
          refine g_getf 63 C dX5_saves_60 fl_RX5_16 rfl (by omega) m2 rfl rfl ?_
          refine g_sipush 66 C dX5_saves_63 (by decide) rfl ?_
          refine g_aload_n 67 C dX5_saves_66 rfl rfl ?_
          refine g_getf 70 C dX5_saves_67 fl_RX5_28 rfl (by omega) m2 rfl rfl ?_
          rw [hg3]
          refine g_imul 71 C dX5_saves_70 rfl ?_
          refine g_iload_n 72 C dX5_saves_71 rfl rfl ?_
          refine g_iadd 73 C dX5_saves_72 rfl ?_
          refine g_aload_n 74 C dX5_saves_73 rfl rfl ?_
          refine g_iload_n 75 C dX5_saves_74 rfl rfl ?_
          refine g_iald 76 C dX5_saves_75 (by omega) ha2 (by omega) (by decide) rfl ?_
          refine g_iast 77 C dX5_saves_76 (by omega) hp2 (by omega) (by decide) rfl ?_
          have hF8 : (∀ j : Int, 0 ≤ j → j < ((i + 1 : Nat) : Int) → gup f2 (311 * ((tDrop d).1 : Int) + (i : Int)) (fa (i : Int)) (311 * ((tDrop d).1 : Int) + j) = fa j) ∧ ∀ j : Int, (j < 311 * ((tDrop d).1 : Int) ∨ 311 * ((tDrop d).1 : Int) + ((i + 1 : Nat) : Int) ≤ j) → gup f2 (311 * ((tDrop d).1 : Int) + (i : Int)) (fa (i : Int)) j = fp1 j := by
            refine ⟨fun j j0 j1 => ?_, fun j j1 => ?_⟩
            · by_cases e : j = (i : Int)
              · rw [e, gup_at]
              · rw [gup_ne (by omega)]
                exact hF2.1 j j0 (by omega)
            · rw [gup_ne (by omega)]
              exact hF2.2 j (by omega)
          refine g_iinc 80 [(2, _), (0, _), (1, _)] C dX5_saves_77 rfl (by decide) rfl rfl ?_
          refine g_goto 52 C dX5_saves_80 rfl ?_
          refine g_loc [(2, _), (0, _), (1, _)] ⟨rfl, rfl, rfl, trivial⟩ ?_
          exact ih52 (i + 1) _ _ (by omega) up_s (fun x9 z => (up_n (by omega)).trans (hk2 x9 z)) hF8 (by omega)
    refine g_loc [(2, _), (0, _), (1, _)] ⟨rfl, rfl, rfl, trivial⟩ ?_
    exact lp52 _ 0 h1 fp1 (by omega) hp1 (fun _ _ => rfl) ⟨fun j j0 j1 => absurd j1 (by omega), fun _ _ => rfl⟩ (Nat.lt_succ_self _)
  · skip
    refine g_iconst 10 C dX5_saves_9 rfl ?_
    refine g_istore_n 11 [(2, _), (0, _), (1, _)] C dX5_saves_10 (by decide) rfl rfl ?_
    have lp11 : ∀ (k9 : Nat) (i : Nat) (h1 : gH) (f1 : Int → Int), (i ≤ 1555) → (h1 (m + 3) = gI E 1866 f1) → (∀ x9 : Nat, x9 ≠ m + 3 → h1 x9 = h x9) → ((∀ j : Int, 0 ≤ j → j < (i : Int) → f1 j = fp (j + 311)) ∧ ∀ j : Int, (i : Int) ≤ j → f1 j = fp j) → 1555 - i < k9 → G E F mX5_saves (gQ E F mX5_saves n (gD none n σ (fun h9 => isMo h9 m (gup g 3 (((tDrop d).1 : Int) + 1)) hs ∧ (∃ fp9 : Int → Int, h9 (m + 3) = gI E 1866 fp9 ∧ Rpa fp9 ((tDrop d).1 + 1, gup (tDrop d).2 ((tDrop d).1 : Int) A)) ∧ ∀ x9 : Nat, x9 ≠ m → x9 ≠ m + 3 → h9 x9 = h x9)) (gNo)) n σ h1 0 0 11 [(2, .int (gi (i : Int))), (0, .ref m), (1, .ref q)] [] := by
      intro k9
      induction k9 with
      | zero => intro i h1 f1 hi hp1 hk1 hF h0; exact absurd h0 (Nat.not_lt_zero _)
      | succ k9 ih11 =>
        intro i h1 f1 hi hp1 hk1 hF hk11
        have m1 := (hk1 m (by omega)).trans hm
        refine g_iload_n 12 C dX5_saves_11 rfl rfl ?_
        refine g_sipush 15 C dX5_saves_12 (by decide) rfl ?_
        refine g_icmp_ge 40 18 C dX5_saves_15 rfl rfl (by omega) (by omega) (fun c15 => ?_) (fun c15 => ?_)
        · skip
          refine g_aload_n 41 C dX5_saves_40 rfl rfl ?_
          refine g_dup 42 C dX5_saves_41 rfl rfl ?_
          refine g_getf 45 C dX5_saves_42 fl_RX5_28 rfl (by omega) m1 rfl rfl ?_
          refine g_iconst 46 C dX5_saves_45 rfl ?_
          refine g_isub 47 C dX5_saves_46 rfl ?_
          refine g_putf 50 C dX5_saves_47 fp_RX5_28 rfl (by omega) m1 rfl rfl (Nat.le_of_ble_eq_true rfl) rfl ?_
          have hd : tDrop d = (5, fun i => d.2 (i + 1)) := if_pos (by omega)
          refine g_ab (fun z => ∃ (g1 fp1 : Int → Int), isMo z m g1 hs ∧ g1 3 = ((tDrop d).1 : Int) ∧ (∀ v : Int, gup g1 3 v = gup g 3 v) ∧ z (m + 3) = gI E 1866 fp1 ∧ Rpa fp1 (tDrop d) ∧ ∀ x9 : Nat, x9 ≠ m → x9 ≠ m + 3 → z x9 = h x9) ⟨gup g 3 (g 3 - 1), f1, up_s, ?_, fun v => gup_gup, (up_n (by omega)).trans hp1, ?_, fun x9 z1 z2 => (up_n z1).trans (hk1 x9 z2)⟩ (fun h1 q1 => ?_)
          · rw [gup_at, hd, hc]
            show (d.1 : Int) - 1 = 5
            omega
          · rw [hd]
            intro i9 i0 i6
            have i6 : i9 < ((5 : Nat) : Int) := i6
            exact (hP (i9 + 1) (by omega) (by omega)).ext (hoP (i9 + 1) (by omega) (by omega)) (fun j j0 j1 => by
              show f1 (311 * i9 + j) = fp (311 * (i9 + 1) + j)
              rw [hF.1 _ (by omega) (by omega), show 311 * i9 + j + 311 = 311 * (i9 + 1) + j by omega])
          obtain ⟨g1, fp1, m1, hg3, hgg, hp1, hPd, hkk⟩ := q1
          have m19 := m1
          unfold isMo at m1
          have ha1 := (hkk q (by omega) (by omega)).trans ha
          have hd5 : (tDrop d).1 ≤ 5 := by
            unfold tDrop
            by_cases e : d.1 = 6
            · rw [if_pos e]; exact Nat.le_refl _
            · rw [if_neg e]; omega
          refine g_iconst 51 C dX5_saves_50 rfl ?_
          refine g_istore_n 52 [(2, _), (0, _), (1, _)] C dX5_saves_51 (by decide) rfl rfl ?_
          have lp52 : ∀ (k9 : Nat) (i : Nat) (h2 : gH) (f2 : Int → Int), (i ≤ 311) → (h2 (m + 3) = gI E 1866 f2) → (∀ x9 : Nat, x9 ≠ m + 3 → h2 x9 = h1 x9) → ((∀ j : Int, 0 ≤ j → j < (i : Int) → f2 (311 * ((tDrop d).1 : Int) + j) = fa j) ∧ ∀ j : Int, (j < 311 * ((tDrop d).1 : Int) ∨ 311 * ((tDrop d).1 : Int) + (i : Int) ≤ j) → f2 j = fp1 j) → 311 - i < k9 → G E F mX5_saves (gQ E F mX5_saves n (gD none n σ (fun h9 => isMo h9 m (gup g 3 (((tDrop d).1 : Int) + 1)) hs ∧ (∃ fp9 : Int → Int, h9 (m + 3) = gI E 1866 fp9 ∧ Rpa fp9 ((tDrop d).1 + 1, gup (tDrop d).2 ((tDrop d).1 : Int) A)) ∧ ∀ x9 : Nat, x9 ≠ m → x9 ≠ m + 3 → h9 x9 = h x9)) (gNo)) n σ h2 0 0 52 [(2, .int (gi (i : Int))), (0, .ref m), (1, .ref q)] [] := by
            intro k9
            induction k9 with
            | zero => intro i h2 f2 hi2 hp2 hk2 hF2 h0; exact absurd h0 (Nat.not_lt_zero _)
            | succ k9 ih52 =>
              intro i h2 f2 hi2 hp2 hk2 hF2 hk52
              have m2 : isMo h2 m g1 hs := (hk2 m (by omega)).trans m1
              have m29 := m2
              unfold isMo at m2
              have ha2 := (hk2 q (by omega)).trans ha1
              refine g_iload_n 53 C dX5_saves_52 rfl rfl ?_
              refine g_sipush 56 C dX5_saves_53 (by decide) rfl ?_
              refine g_icmp_ge 83 59 C dX5_saves_56 rfl rfl (by omega) (by omega) (fun c56 => ?_) (fun c56 => ?_)
              · skip
                refine g_aload_n 84 C dX5_saves_83 rfl rfl ?_
                refine g_dup 85 C dX5_saves_84 rfl rfl ?_
                refine g_getf 88 C dX5_saves_85 fl_RX5_28 rfl (by omega) m2 rfl rfl ?_
                refine g_iconst 89 C dX5_saves_88 rfl ?_
                refine g_iadd 90 C dX5_saves_89 rfl ?_
                refine g_putf 93 C dX5_saves_90 fp_RX5_28 rfl (by omega) m2 rfl rfl (Nat.le_of_ble_eq_true rfl) rfl ?_
                exact g_vret C dX5_saves_93 rfl ⟨by decide, by decide⟩ (by
                    refine ⟨rfl, rfl, rfl, ?_, ⟨f2, (up_n (by omega)).trans hp2, fun i9 i0 i6 => ?_⟩, fun x9 z1 z2 => (up_n z1).trans ((hk2 x9 z2).trans (hkk x9 z1 z2))⟩
                    · rw [← hgg, ← hg3]
                      exact up_s
                    · have i6 : i9 < (((tDrop d).1 + 1 : Nat) : Int) := i6
                      show Rz (fun j => f2 (311 * i9 + j)) (gup (tDrop d).2 ((tDrop d).1 : Int) A i9)
                      by_cases e : i9 = ((tDrop d).1 : Int)
                      · rw [e, gup_at]
                        exact hA.ext hoA (fun j j0 j1 => hF2.1 j j0 (by omega))
                      · rw [gup_ne e]
                        have hz := hPd i9 i0 (by omega)
                        have ho : okS ((tDrop d).2 i9) := by
                          unfold tDrop at e i6 ⊢
                          by_cases e6 : d.1 = 6
                          · rw [if_pos e6] at e i6 ⊢
                            have i6 : i9 < ((5 + 1 : Nat) : Int) := i6
                            have e : ¬ i9 = ((5 : Nat) : Int) := e
                            exact hoP (i9 + 1) (by omega) (by omega)
                          · rw [if_neg e6] at e i6 ⊢
                            exact hoP i9 i0 (by omega)
                        exact hz.ext ho (fun j j0 j1 => hF2.2 _ (by omega)))
              · skip
                refine g_aload_n 60 C dX5_saves_59 rfl rfl ?_
                refine g_getf 63 C dX5_saves_60 fl_RX5_16 rfl (by omega) m2 rfl rfl ?_
                refine g_sipush 66 C dX5_saves_63 (by decide) rfl ?_
                refine g_aload_n 67 C dX5_saves_66 rfl rfl ?_
                refine g_getf 70 C dX5_saves_67 fl_RX5_28 rfl (by omega) m2 rfl rfl ?_
                rw [hg3]
                refine g_imul 71 C dX5_saves_70 rfl ?_
                refine g_iload_n 72 C dX5_saves_71 rfl rfl ?_
                refine g_iadd 73 C dX5_saves_72 rfl ?_
                refine g_aload_n 74 C dX5_saves_73 rfl rfl ?_
                refine g_iload_n 75 C dX5_saves_74 rfl rfl ?_
                refine g_iald 76 C dX5_saves_75 (by omega) ha2 (by omega) (by decide) rfl ?_
                refine g_iast 77 C dX5_saves_76 (by omega) hp2 (by omega) (by decide) rfl ?_
                have hF8 : (∀ j : Int, 0 ≤ j → j < ((i + 1 : Nat) : Int) → gup f2 (311 * ((tDrop d).1 : Int) + (i : Int)) (fa (i : Int)) (311 * ((tDrop d).1 : Int) + j) = fa j) ∧ ∀ j : Int, (j < 311 * ((tDrop d).1 : Int) ∨ 311 * ((tDrop d).1 : Int) + ((i + 1 : Nat) : Int) ≤ j) → gup f2 (311 * ((tDrop d).1 : Int) + (i : Int)) (fa (i : Int)) j = fp1 j := by
                  refine ⟨fun j j0 j1 => ?_, fun j j1 => ?_⟩
                  · by_cases e : j = (i : Int)
                    · rw [e, gup_at]
                    · rw [gup_ne (by omega)]
                      exact hF2.1 j j0 (by omega)
                  · rw [gup_ne (by omega)]
                    exact hF2.2 j (by omega)
                refine g_iinc 80 [(2, _), (0, _), (1, _)] C dX5_saves_77 rfl (by decide) rfl rfl ?_
                refine g_goto 52 C dX5_saves_80 rfl ?_
                refine g_loc [(2, _), (0, _), (1, _)] ⟨rfl, rfl, rfl, trivial⟩ ?_
                exact ih52 (i + 1) _ _ (by omega) up_s (fun x9 z => (up_n (by omega)).trans (hk2 x9 z)) hF8 (by omega)
          refine g_loc [(2, _), (0, _), (1, _)] ⟨rfl, rfl, rfl, trivial⟩ ?_
          exact lp52 _ 0 h1 fp1 (by omega) hp1 (fun _ _ => rfl) ⟨fun j j0 j1 => absurd j1 (by omega), fun _ _ => rfl⟩ (Nat.lt_succ_self _)
        · skip
          refine g_aload_n 19 C dX5_saves_18 rfl rfl ?_
          refine g_getf 22 C dX5_saves_19 fl_RX5_16 rfl (by omega) m1 rfl rfl ?_
          refine g_iload_n 23 C dX5_saves_22 rfl rfl ?_
          refine g_aload_n 24 C dX5_saves_23 rfl rfl ?_
          refine g_getf 27 C dX5_saves_24 fl_RX5_16 rfl (by omega) m1 rfl rfl ?_
          refine g_iload_n 28 C dX5_saves_27 rfl rfl ?_
          refine g_sipush 31 C dX5_saves_28 (by decide) rfl ?_
          refine g_iadd 32 C dX5_saves_31 rfl ?_
          refine g_iald 33 C dX5_saves_32 (by omega) hp1 (by omega) (by decide) rfl ?_
          refine g_iast 34 C dX5_saves_33 (by omega) hp1 (by omega) (by decide) rfl ?_
          have hF8 : (∀ j : Int, 0 ≤ j → j < ((i + 1 : Nat) : Int) → gup f1 (i : Int) (f1 ((i : Int) + 311)) j = fp (j + 311)) ∧ ∀ j : Int, ((i + 1 : Nat) : Int) ≤ j → gup f1 (i : Int) (f1 ((i : Int) + 311)) j = fp j := by
            refine ⟨fun j j0 j1 => ?_, fun j j1 => ?_⟩
            · by_cases e : j = (i : Int)
              · rw [e, gup_at]
                exact hF.2 _ (by omega)
              · rw [gup_ne e]
                exact hF.1 j j0 (by omega)
            · rw [gup_ne (by omega)]
              exact hF.2 j (by omega)
          refine g_iinc 37 [(2, _), (0, _), (1, _)] C dX5_saves_34 rfl (by decide) rfl rfl ?_
          refine g_goto 11 C dX5_saves_37 rfl ?_
          refine g_loc [(2, _), (0, _), (1, _)] ⟨rfl, rfl, rfl, trivial⟩ ?_
          exact ih11 (i + 1) _ _ (by omega) up_s (fun x9 z => (up_n (by omega)).trans (hk1 x9 z)) hF8 (by omega)
    refine g_loc [(2, _), (0, _), (1, _)] ⟨rfl, rfl, rfl, trivial⟩ ?_
    exact lp11 _ 0 h fp (by omega) hp (fun _ _ => rfl) ⟨fun j j0 j1 => absurd j1 (by omega), fun _ _ => rfl⟩ (Nat.lt_succ_self _)
