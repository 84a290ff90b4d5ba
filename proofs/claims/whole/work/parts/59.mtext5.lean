/-! SiblingJoinsModel: the whole text -/
theorem tk_le {P P' : gPt} {c : Int} (e : pTk P c = some P') : P'.1 ≤ P.1 + 1 := by
  unfold pTk at e
  by_cases h0 : P.1 = 0
  · rw [if_pos h0] at e
    unfold pKin at e
    obtain ⟨-, rfl⟩ := go_if e
    show 1 ≤ P.1 + 1
    omega
  · rw [if_neg h0] at e
    by_cases h1 : pLen P.2.1 ≤ (P.1 : Int)
    · rw [if_pos h1] at e
      unfold pEnd at e
      by_cases h2 : c = 59
      · rw [if_pos h2] at e
        cases e
        exact Nat.zero_le _
      · rw [if_neg h2] at e
        obtain ⟨-, rfl⟩ := go_if e
        exact Nat.le_refl _
    · rw [if_neg h1] at e
      by_cases h2 : 48 ≤ pDue P ∧ pDue P ≤ 57
      · rw [if_pos h2] at e
        unfold pDg at e
        obtain ⟨-, rfl⟩ := go_if e
        unfold pDig
        split
        · exact Nat.le_refl _
        · split
          · exact Nat.le_refl _
          · split <;> exact Nat.le_refl _
      · rw [if_neg h2] at e
        obtain ⟨-, rfl⟩ := go_if e
        exact Nat.le_refl _
theorem tk59 {P : gPt} (h : okP P) (hw : ∀ j : Nat, wh (j, P) = false) : pTk P 59 = none := by
  obtain ⟨p, b, w, k, s, v⟩ := P
  have hw := of_decide_eq_false (hw 0)
  obtain ⟨h1, h2, -⟩ := h
  dsimp only at h1 h2 hw
  rcases pl_cases h1 h2 with rfl | rfl | rfl | rfl | rfl | rfl | ⟨rfl, rfl⟩ | ⟨rfl, rfl⟩ | ⟨rfl, rfl⟩ | ⟨rfl, rfl⟩ | ⟨rfl, rfl⟩
  · exact tk0.trans (if_neg (by decide))
  · exact tk1.trans (if_neg (by decide))
  · exact tk2.trans (if_neg (by decide))
  · exact tk3.trans (if_neg (by decide))
  · exact tk4.trans (if_neg (by decide))
  · exact tk5.trans (if_neg (by decide))
  · exact tk6t.trans (if_neg (by decide))
  · exact absurd (show pLen false ≤ ((6 : Nat) : Int) by decide) hw
  · exact tk7.trans (if_neg (by decide))
  · exact absurd (show pLen true ≤ ((8 : Nat) : Int) by decide) hw
  · exact absurd (show pLen true ≤ ((9 : Nat) : Int) by decide) hw
theorem tkE {P : gPt} (hw : ∀ j : Nat, wh (j, P) = true) : pTk P 59 = some (0, P.2) := by
  have hw := of_decide_eq_true (hw 0)
  have hw : pLen P.2.1 ≤ (P.1 : Int) := hw
  have z := pLen_r P.2.1
  unfold pTk
  rw [if_neg (show ¬ P.1 = 0 by omega), if_pos hw]
  exact if_pos rfl
theorem wk_sp {f : Int → Int} : ∀ (d i : Nat) (P : gPt), scP f i = some P → scP f (wk f d i P).1 = some (wk f d i P).2 ∧ i ≤ (wk f d i P).1 ∧ (wk f d i P).1 ≤ i + d ∧ rsP f P i d = rsP f (wk f d i P).2 (wk f d i P).1 (i + d - (wk f d i P).1) ∧ ((wk f d i P).1 < i + d → f ((wk f d i P).1 : Int) = 59 ∨ pTk (wk f d i P).2 (f ((wk f d i P).1 : Int)) = none) ∧ (wk f d i P).2.1 + i ≤ P.1 + (wk f d i P).1 := by
  intro d
  induction d with
  | zero =>
    intro i P h
    refine ⟨h, Nat.le_refl _, Nat.le_refl _, ?_, fun z => absurd z (Nat.lt_irrefl _), Nat.le_refl _⟩
    show rsP f P i 0 = rsP f P i (i + 0 - i)
    rw [show i + 0 - i = 0 by omega]
  | succ d ih =>
    intro i P h
    by_cases e : f (i : Int) = 59
    · have ew : wk f (d + 1) i P = (i, P) := if_pos e
      rw [ew]
      refine ⟨h, Nat.le_refl _, by show i ≤ i + (d + 1); omega, ?_, fun _ => Or.inl e, Nat.le_refl _⟩
      show rsP f P i (d + 1) = rsP f P i (i + (d + 1) - i)
      rw [show i + (d + 1) - i = d + 1 by omega]
    · cases e2 : pTk P (f (i : Int)) with
      | none =>
        have ew : wk f (d + 1) i P = (i, P) := by
          unfold wk
          rw [if_neg e, e2]
        rw [ew]
        refine ⟨h, Nat.le_refl _, by show i ≤ i + (d + 1); omega, ?_, fun _ => Or.inr e2, Nat.le_refl _⟩
        show rsP f P i (d + 1) = rsP f P i (i + (d + 1) - i)
        rw [show i + (d + 1) - i = d + 1 by omega]
      | some P' =>
        have ew : wk f (d + 1) i P = wk f d (i + 1) P' := by
          conv => lhs; unfold wk
          rw [if_neg e, e2]
        rw [ew]
        have hs : scP f (i + 1) = some P' := (scP_st h).trans e2
        obtain ⟨u1, u2, u3, u4, u5, u6⟩ := ih (i + 1) P' hs
        have hle := tk_le e2
        refine ⟨u1, by omega, by omega, ?_, fun z => u5 (by omega), by omega⟩
        rw [rsP_n e, e2]
        show rsP f P' (i + 1) d = _
        rw [u4, show i + 1 + d - (wk f d (i + 1) P').1 = i + (d + 1) - (wk f d (i + 1) P').1 by omega]
def tW (f : Int → Int) (N : Nat) : Bool := match scP f N with
  | none => false
  | some P => decide (pLen P.2.1 ≤ (P.1 : Int))
theorem tW_none {f : Int → Int} {N : Nat} (h : scP f N = none) : tW f N = false := by
  unfold tW
  rw [h]
theorem tW_some {f : Int → Int} {N j : Nat} {P : gPt} (h : scP f N = some P) : tW f N = wh (j, P) := by
  unfold tW
  rw [h]
  rfl
theorem wh_j {P : gPt} {i j : Nat} {b : Bool} (h : wh (i, P) = b) : wh (j, P) = b := h
theorem tx_none {f : Int → Int} {N j : Nat} (hj : j < N) (h : scP f (j + 1) = none) : scP f N = none := by
  have z := scP_no h (N - (j + 1))
  rw [show j + 1 + (N - (j + 1)) = N by omega] at z
  exact z
theorem tx_bad {f : Int → Int} {N j : Nat} {P : gPt} (h : scP f j = some P) (hj : j ≤ N) (hw : wh (j, P) = false) (hn : j < N → f (j : Int) = 59 ∨ pTk P (f (j : Int)) = none) : tW f N = false ∧ scE f N = j := by
  by_cases z : j < N
  · have h1 : scP f (j + 1) = none := by
      rw [scP_st h]
      rcases hn z with y | y
      · rw [y]
        exact tk59 (scP_pk h) (fun _ => hw)
      · exact y
    refine ⟨tW_none (tx_none z h1), ?_⟩
    have y := scE_no (by rw [h]; rfl) h1 (N - j)
    rw [show j + (N - j) = N by omega] at y
    exact y
  · have e : j = N := by omega
    subst e
    exact ⟨(tW_some (j := j) h).trans hw, scE_of (by rw [h]; rfl)⟩
theorem tx_step {f : Int → Int} {N j j2 : Nat} {l : List gPt} {Q P2 : gPt} (hb : rsP f gP0 0 N = l ++ rsP f Q j (N - j)) (h7 : 7 * l.length ≤ j) (hsc : scP f j = some Q) (hQ : Q.1 = 0) (hjN : j ≤ N) (hR : wk f (N - j) j Q = (j2, P2)) (hw : wh (j2, P2) = true) : j < j2 ∧ j2 ≤ N ∧ scP f j2 = some P2 ∧ okP P2 ∧ 7 * (l ++ [P2]).length ≤ j2 + 1 ∧ (j2 < N → f (j2 : Int) = 59 → scP f (j2 + 1) = some (0, P2.2) ∧ rsP f gP0 0 N = (l ++ [P2]) ++ rsP f (0, P2.2) (j2 + 1) (N - (j2 + 1))) ∧ (¬ (j2 < N ∧ f (j2 : Int) = 59) → (j2 < N → scP f (j2 + 1) = none) ∧ (j2 = N → rsP f gP0 0 N = l ++ [P2])) := by
  obtain ⟨u1, u2, u3, u4, u5, u6⟩ := wk_sp (N - j) j Q hsc
  rw [hR] at u1 u2 u3 u4 u5 u6
  dsimp only at u1 u2 u3 u4 u5 u6
  rw [show j + (N - j) = N by omega] at u3 u4 u5
  have hl := of_decide_eq_true hw
  have hl : pLen P2.2.1 ≤ (P2.1 : Int) := hl
  have hlr := pLen_r P2.2.1
  have hlen : (l ++ [P2]).length = l.length + 1 := by rw [List.length_append]; rfl
  refine ⟨by omega, u3, u1, scP_pk u1, by omega, fun z1 z2 => ?_, fun z => ⟨fun z1 => ?_, fun z1 => ?_⟩⟩
  · have ek : pTk P2 (f (j2 : Int)) = some (0, P2.2) := by rw [z2]; exact tkE (fun _ => hw)
    refine ⟨(scP_st u1).trans ek, ?_⟩
    rw [hb, u4, show N - j2 = (N - (j2 + 1)) + 1 by omega, rsP_y z2, ek, List.append_assoc]
    rfl
  · rw [scP_st u1]
    rcases u5 z1 with y | y
    · exact absurd ⟨z1, y⟩ z
    · exact y
  · rw [hb, u4, show N - j2 = 0 by omega]
    rfl
theorem scP_ext {f f' : Int → Int} : ∀ N : Nat, (∀ j : Int, 0 ≤ j → j < (N : Int) → f j = f' j) → scP f N = scP f' N := by
  intro N
  induction N with
  | zero => intro _; rfl
  | succ N ih =>
    intro h
    show (scP f N).bind _ = (scP f' N).bind _
    rw [ih (fun j j0 j1 => h j j0 (by omega)), h (N : Int) (by omega) (by omega)]
theorem scE_ext {f f' : Int → Int} : ∀ N : Nat, (∀ j : Int, 0 ≤ j → j < (N : Int) → f j = f' j) → scE f N = scE f' N := by
  intro N
  induction N with
  | zero => intro _; rfl
  | succ N ih =>
    intro h
    show (if (scP f (N + 1)).isSome then N + 1 else scE f N) = (if (scP f' (N + 1)).isSome then N + 1 else scE f' N)
    rw [ih (fun j j0 j1 => h j j0 (by omega)), scP_ext (N + 1) h]
theorem rsP_ext {f f' : Int → Int} : ∀ (d i : Nat) (P : gPt), (∀ j : Int, (i : Int) ≤ j → j < ((i + d : Nat) : Int) → f j = f' j) → rsP f P i d = rsP f' P i d := by
  intro d
  induction d with
  | zero => intro i P _; rfl
  | succ d ih =>
    intro i P h
    have e := h (i : Int) (by omega) (by omega)
    by_cases c : f (i : Int) = 59
    · rw [rsP_y c, rsP_y (e ▸ c), ← e, ih (i + 1) _ (fun j j0 j1 => h j (by omega) (by omega))]
    · rw [rsP_n c, rsP_n (e ▸ c), ← e, ih (i + 1) _ (fun j j0 j1 => h j (by omega) (by omega))]
/-- what isText leaves -/
def tTx (E : gEnv) (h0 : gH) (m : Nat) (g0 : Int → Int) (hs : Int64) (ft : Int → Int) (N : Nat) (h9 : gH) : Prop :=
  ∃ g9 fo9 : Int → Int, isMo h9 m g9 hs ∧ h9 (m + 6) = gI E 60 fo9 ∧ (∀ x9 : Nat, x9 ≠ m → x9 ≠ m + 6 → h9 x9 = h0 x9) ∧ (∀ j9 : Int, j9 ≠ 11 → j9 ≠ 12 → j9 ≠ 14 → g9 j9 = g0 j9) ∧ (tW ft N = true → scE ft N = N ∧ g9 14 = ((rsP ft gP0 0 N).length : Int) ∧ 7 * (rsP ft gP0 0 N).length ≤ N + 1 ∧ ∀ (p : Nat) (P : gPt), (rsP ft gP0 0 N)[p]? = some P → isTd fo9 p P ∧ okP P) ∧ (tW ft N = false → (g9 12 = 0 ∧ scE ft N = N) ∨ (g9 12 = 1 ∧ g9 11 = (scE ft N : Int)))
theorem tx_end {f : Int → Int} {N j : Nat} {Q : gPt} (h : scP f j = some Q) (hw : wh (j, Q) = true) (hj : j ≤ N) (hn : j < N → scP f (j + 1) = none) : (j < N → tW f N = false ∧ scE f N = j) ∧ (j = N → tW f N = true ∧ scE f N = N) := by
  refine ⟨fun z => ⟨tW_none (tx_none z (hn z)), ?_⟩, fun z => ?_⟩
  · have y := scE_no (by rw [h]; rfl) (hn z) (N - j)
    rw [show j + (N - j) = N by omega] at y
    exact y
  · subst z
    exact ⟨(tW_some (j := j) h).trans hw, scE_of (by rw [h]; rfl)⟩
theorem isTd_kept {fo fo1 : Int → Int} {p q : Nat} {P : gPt} (h : isTd fo p P) (hk : fKp (5 * (q : Int)) 5 fo fo1) (hpq : p < q) : isTd fo1 p P := by
  obtain ⟨t0, t1, t2, t3, t4⟩ := h
  exact ⟨(hk _ (by omega)).trans t0, (hk _ (by omega)).trans t1, (hk _ (by omega)).trans t2, (hk _ (by omega)).trans t3, fun z => (hk _ (by omega)).trans (t4 z)⟩
set_option maxRecDepth 100000 in
set_option maxHeartbeats 4000000 in
theorem c_X5_isText {E : gEnv} {n : Nat} {σ : Option Nat} {h : gH} (m : Nat) (g : Int → Int) (hs : Int64) (ft : Int → Int) (fo : Int → Int) (N : Nat) (hmb : gB E ≤ m ∧ m + 7 ≤ gB E + n) (hm : isMo h m g hs) (htx : h (m + 4) = gI E 60 ft) (htl : h (m + 6) = gI E 60 fo) (hN : g 5 = (N : Int)) (hN6 : N ≤ 60) (hch : ∀ j : Int, 0 ≤ j → j < (N : Int) → 33 ≤ ft j ∧ ft j ≤ 126)  : gM E mX5_isText [.ref m] n σ h (gD (some (.int (gi (gbi (tW ft N))))) n σ (fun h9 => tTx E h m g hs ft N h9)) (gNo) := by
  have m0 := hm
  unfold isMo at m0
  refine gM_of (by decide) (Nat.le_of_ble_eq_true rfl) (fun F C => ?_)
  refine g_aload_n 1 C dX5_isText_0 rfl rfl ?_
  refine g_iconst 2 C dX5_isText_1 rfl ?_
  refine g_putf 5 C dX5_isText_2 fp_RX5_138 rfl (by omega) m0 rfl rfl (Nat.le_of_ble_eq_true rfl) rfl ?_
  refine g_ab (fun z => isMo z m (gup g 11 0) hs ∧ gKp m (m + 1) h z) ⟨up_s, gKp_up (by omega)⟩ (fun ha qa => ?_)
  obtain ⟨na, ka⟩ := qa
  have ma := na
  unfold isMo at ma
  refine g_aload_n 6 C dX5_isText_5 rfl rfl ?_
  refine g_iconst 7 C dX5_isText_6 rfl ?_
  refine g_putf 10 C dX5_isText_7 fp_RX5_152 rfl (by omega) ma rfl rfl (Nat.le_of_ble_eq_true rfl) rfl ?_
  refine g_ab (fun z => isMo z m (gup (gup g 11 0) 14 0) hs ∧ gKp m (m + 1) h z) ⟨up_s, gKp_tr ka (gKp_up (by omega))⟩ (fun hb qb => ?_)
  obtain ⟨nb, kb⟩ := qb
  have mb := nb
  unfold isMo at mb
  refine g_aload_n 11 C dX5_isText_10 rfl rfl ?_
  refine g_iconst 12 C dX5_isText_11 rfl ?_
  refine g_putf 15 C dX5_isText_12 fp_RX5_141 rfl (by omega) mb rfl rfl (Nat.le_of_ble_eq_true rfl) rfl ?_
  refine g_ab (fun z => isMo z m (gup (gup (gup g 11 0) 14 0) 12 0) hs ∧ gKp m (m + 1) h z) ⟨up_s, gKp_tr kb (gKp_up (by omega))⟩ (fun hc qc => ?_)
  obtain ⟨nc, kc⟩ := qc
  refine g_iconst 16 C dX5_isText_15 rfl ?_
  refine g_istore_n 17 [(1, _), (0, _)] C dX5_isText_16 (by decide) rfl rfl ?_
  have lp17 : ∀ (k9 : Nat) (b : Bool) (j : Nat) (l : List gPt) (Q : gPt) (h1 : gH) (g1 fo1 : Int → Int), (isMo h1 m g1 hs) → (h1 (m + 6) = gI E 60 fo1) → (∀ x9 : Nat, x9 ≠ m → x9 ≠ m + 6 → h1 x9 = h x9) → (∀ j9 : Int, j9 ≠ 11 → j9 ≠ 12 → j9 ≠ 14 → g1 j9 = g j9) → (g1 11 = (j : Int)) → (g1 14 = (l.length : Int)) → (j ≤ N) → (∀ (p : Nat) (P : gPt), l[p]? = some P → isTd fo1 p P ∧ okP P) → (scP ft j = some Q) → (b = true → Q.1 = 0 ∧ rsP ft gP0 0 N = l ++ rsP ft Q j (N - j) ∧ 7 * l.length ≤ j) → (b = false → wh (j, Q) = true ∧ (j < N → scP ft (j + 1) = none) ∧ (j = N → rsP ft gP0 0 N = l ∧ 7 * l.length ≤ N + 1)) → N - j < k9 → G E F mX5_isText (gQ E F mX5_isText n (gD (some (.int (gi (gbi (tW ft N))))) n σ (fun h9 => tTx E h m g hs ft N h9)) (gNo)) n σ h1 0 0 17 [(1, .int (gi (gbi b))), (0, .ref m)] [] := by
    intro k9
    induction k9 with
    | zero => intro b j l Q h1 g1 fo1 hm1 ht1 hk1 hg1 h11 h14 hjN hl hsc hb1 hb0 h0; exact absurd h0 (Nat.not_lt_zero _)
    | succ k9 ih17 =>
      intro b j l Q h1 g1 fo1 hm1 ht1 hk1 hg1 h11 h14 hjN hl hsc hb1 hb0 hk17
      have m1 := hm1
      unfold isMo at m1
      have tx1 : h1 (m + 4) = gI E 60 ft := (hk1 _ (by omega) (by omega)).trans htx
      have hN1 : g1 5 = (N : Int) := (hg1 5 (by decide) (by decide) (by decide)).trans hN
      have hG1 : okG g1 ft := ⟨by rw [h11]; omega, by rw [h11, hN1]; omega, by rw [hN1]; omega, by rw [hN1]; exact hch⟩
      refine g_iload_n 18 C dX5_isText_17 rfl rfl ?_
      refine g_if_eq 50 21 C dX5_isText_18 rfl rfl (gbi_r _) (fun c18 => ?_) (fun c18 => ?_)
      · skip
        have eb := gbi_0 c18
        obtain ⟨w1, w2, w3⟩ := hb0 eb
        obtain ⟨v1, v2⟩ := tx_end hsc w1 hjN w2
        refine g_aload_n 51 C dX5_isText_50 rfl rfl ?_
        refine g_aload_n 52 C dX5_isText_51 rfl rfl ?_
        refine g_getf 55 C dX5_isText_52 fl_RX5_138 rfl (by omega) m1 rfl rfl ?_
        rw [h11]
        refine g_aload_n 56 C dX5_isText_55 rfl rfl ?_
        refine g_getf 59 C dX5_isText_56 fl_RX5_135 rfl (by omega) m1 rfl rfl ?_
        rw [hN1]
        refine g_icmp_ge 66 62 C dX5_isText_59 rfl rfl (by omega) (by omega) (fun c59 => ?_) (fun c59 => ?_)
        · skip
          refine g_iconst 67 C dX5_isText_66 rfl ?_
          refine g_putf 70 C dX5_isText_67 fp_RX5_141 rfl (by omega) m1 rfl rfl (Nat.le_of_ble_eq_true rfl) rfl ?_
          refine g_ab (fun z => isMo z m (gup g1 12 0) hs ∧ gKp m (m + 1) h1 z) ⟨up_s, gKp_up (by omega)⟩ (fun h2 q2 => ?_)
          obtain ⟨n2, k2⟩ := q2
          have m2 := n2
          unfold isMo at m2
          refine g_aload_n 71 C dX5_isText_70 rfl rfl ?_
          refine g_getf 74 C dX5_isText_71 fl_RX5_138 rfl (by omega) m2 rfl rfl ?_
          rw [show gup g1 12 _ 11 = g1 11 from gup_ne (by decide), h11]
          refine g_aload_n 75 C dX5_isText_74 rfl rfl ?_
          refine g_getf 78 C dX5_isText_75 fl_RX5_135 rfl (by omega) m2 rfl rfl ?_
          rw [show gup g1 12 _ 5 = g1 5 from gup_ne (by decide), hN1]
          refine g_icmp_ne 85 81 C dX5_isText_78 rfl rfl (by omega) (by omega) (fun c78 => ?_) (fun c78 => ?_)
          · skip
            exact absurd c78 (by omega)
          · skip
            refine g_iconst 82 C dX5_isText_81 rfl ?_
            refine g_goto 86 C dX5_isText_82 rfl ?_
            exact g_zret C dX5_isText_86 rfl rfl ⟨by decide, by decide⟩ (by
                have ej : j = N := by omega
                obtain ⟨z1, z2⟩ := v2 ej
                obtain ⟨z3, z4⟩ := w3 ej
                rw [z1]
                refine ⟨rfl, rfl, rfl, _, fo1, n2, (k2 _ (by omega)).trans ht1, fun x9 y1 y2 => (k2 _ (by omega)).trans (hk1 x9 y1 y2), fun j9 y1 y2 y3 => (gup_ne y2).trans (hg1 j9 y1 y2 y3), fun _ => ⟨z2, ?_, ?_, ?_⟩, fun z => ?_⟩
                · rw [z3]
                  exact (gup_ne (by decide)).trans h14
                · rw [z3]
                  exact z4
                · rw [z3]
                  exact hl
                · rw [z1] at z
                  cases z)
        · skip
          refine g_iconst 63 C dX5_isText_62 rfl ?_
          refine g_goto 67 C dX5_isText_63 rfl ?_
          refine g_putf 70 C dX5_isText_67 fp_RX5_141 rfl (by omega) m1 rfl rfl (Nat.le_of_ble_eq_true rfl) rfl ?_
          refine g_ab (fun z => isMo z m (gup g1 12 1) hs ∧ gKp m (m + 1) h1 z) ⟨up_s, gKp_up (by omega)⟩ (fun h2 q2 => ?_)
          obtain ⟨n2, k2⟩ := q2
          have m2 := n2
          unfold isMo at m2
          refine g_aload_n 71 C dX5_isText_70 rfl rfl ?_
          refine g_getf 74 C dX5_isText_71 fl_RX5_138 rfl (by omega) m2 rfl rfl ?_
          rw [show gup g1 12 _ 11 = g1 11 from gup_ne (by decide), h11]
          refine g_aload_n 75 C dX5_isText_74 rfl rfl ?_
          refine g_getf 78 C dX5_isText_75 fl_RX5_135 rfl (by omega) m2 rfl rfl ?_
          rw [show gup g1 12 _ 5 = g1 5 from gup_ne (by decide), hN1]
          refine g_icmp_ne 85 81 C dX5_isText_78 rfl rfl (by omega) (by omega) (fun c78 => ?_) (fun c78 => ?_)
          · skip
            refine g_iconst 86 C dX5_isText_85 rfl ?_
            exact g_zret C dX5_isText_86 rfl rfl ⟨by decide, by decide⟩ (by
                obtain ⟨z1, z2⟩ := v1 (by omega)
                rw [z1]
                refine ⟨rfl, rfl, rfl, _, fo1, n2, (k2 _ (by omega)).trans ht1, fun x9 y1 y2 => (k2 _ (by omega)).trans (hk1 x9 y1 y2), fun j9 y1 y2 y3 => (gup_ne y2).trans (hg1 j9 y1 y2 y3), fun z => ?_, fun _ => ?_⟩
                · rw [z1] at z
                  cases z
                · right
                  rw [z2]
                  exact ⟨gup_at, (gup_ne (by decide)).trans h11⟩)
          · skip
            exact absurd c78 (by omega)
      · skip
        have eb := gbi_1 c18
        obtain ⟨w1, w2, w3⟩ := hb1 eb
        refine g_aload_n 22 C dX5_isText_21 rfl rfl ?_
        refine g_V0r 25 0 0 C dX5_isText_22 rfl lk_RX5_164 gi_X5_takesOne gv_X5_takesOne ⟨_, _, rfl⟩ (by omega) m1 ⟨⟨by decide, by decide⟩, by decide, by decide⟩ (Nat.le_of_ble_eq_true rfl) rfl rfl rfl (c_X5_takesOne m g1 hs ft fo1 N l.length j Q hmb hm1 tx1 hG1 ht1 hN1 h14 (by omega) h11 w1) g_no (fun h2 e22 => ?_)
        obtain ⟨u1, u2, u3, u4, u5, u6⟩ := wk_sp (N - j) j Q hsc
        have hN2 : j + (N - j) = N := by omega
        generalize hR : wk ft (N - j) j Q = R at e22 u1 u2 u3 u4 u5 u6 ⊢
        obtain ⟨j2, P2⟩ := R
        dsimp only at u1 u2 u3 u4 u5 u6
        rw [hN2] at u3 u5
        obtain ⟨g2, fo2, t1, t2, t3, t4, t5, t6, t7, t8, t9⟩ := e22
        dsimp only at t5 t6
        have m2 := t1
        unfold isMo at m2
        refine g_if_ne 30 28 C dX5_isText_25 rfl rfl (gbi_r _) (fun c25 => ?_) (fun c25 => ?_)
        · skip
          have ew := gbi_1 c25
          obtain ⟨y1, y2, y3, y4, y5, y6, y7⟩ := tx_step w2 w3 hsc w1 hjN hR ew
          refine g_aload_n 31 C dX5_isText_30 rfl rfl ?_
          refine g_dup 32 C dX5_isText_31 rfl rfl ?_
          refine g_getf 35 C dX5_isText_32 fl_RX5_152 rfl (by omega) m2 rfl rfl ?_
          refine g_iconst 36 C dX5_isText_35 rfl ?_
          refine g_iadd 37 C dX5_isText_36 rfl ?_
          refine g_putf 40 C dX5_isText_37 fp_RX5_152 rfl (by omega) m2 rfl rfl (Nat.le_of_ble_eq_true rfl) rfl ?_
          refine g_ab (fun z => isMo z m (gup g2 14 (g2 14 + 1)) hs ∧ gKp m (m + 1) h2 z) ⟨up_s, gKp_up (by omega)⟩ (fun h3 q3 => ?_)
          obtain ⟨n3, k3⟩ := q3
          have h214 : g2 14 = (l.length : Int) := (t4 14 (by decide) (by decide)).trans h14
          have x314 : gup g2 14 (g2 14 + 1) 14 = ((l ++ [P2]).length : Int) := by rw [gup_at, h214, List.length_append]; rfl
          have x35 : gup g2 14 (g2 14 + 1) 5 = (N : Int) := (gup_ne (by decide)).trans ((t4 5 (by decide) (by decide)).trans hN1)
          have x311 : gup g2 14 (g2 14 + 1) 11 = (j2 : Int) := (gup_ne (by decide)).trans t5
          have x3o : ∀ j9 : Int, j9 ≠ 11 → j9 ≠ 12 → j9 ≠ 14 → gup g2 14 (g2 14 + 1) j9 = g j9 := fun j9 z1 z2 z3 => (gup_ne z3).trans ((t4 j9 z1 z2).trans (hg1 j9 z1 z2 z3))
          generalize gup g2 14 (g2 14 + 1) = g3 at n3 x314 x35 x311 x3o
          have tx3 : h3 (m + 4) = gI E 60 ft := (k3 _ (by omega)).trans ((t3 _ (by omega) (by omega)).trans tx1)
          have hG3 : okG g3 ft := ⟨by rw [x311]; omega, by rw [x311, x35]; omega, by rw [x35]; omega, by rw [x35]; exact hch⟩
          have m3 := n3
          unfold isMo at m3
          refine g_aload_n 41 C dX5_isText_40 rfl rfl ?_
          refine g_bipush 43 C dX5_isText_41 (by decide) rfl ?_
          refine g_V1r 46 0 0 C dX5_isText_43 rfl lk_RX5_155 gi_X5_takes gv_X5_takes ⟨_, _, rfl⟩ (by omega) m3 ⟨⟨by decide, by decide⟩, by decide, by decide⟩ (Nat.le_of_ble_eq_true rfl) rfl rfl rfl (c_X5_takes m g3 hs ft 59 hmb n3 tx3 hG3 (by decide)) g_no (fun h4 e43 => ?_)
          have eB : isAtB g3 ft 59 59 = decide (j2 < N ∧ ft (j2 : Int) = 59) := by
            unfold isAtB
            rw [x311, x35]
            apply decide_eq_decide.mpr
            omega
          rw [eB] at e43 ⊢
          obtain ⟨n4, k4⟩ := e43
          obtain ⟨b4, hb4⟩ : ∃ b4 : Bool, decide (j2 < N ∧ ft (j2 : Int) = 59) = b4 := ⟨_, rfl⟩
          rw [hb4] at n4 ⊢
          have hl4 : ∀ (p : Nat) (P : gPt), (l ++ [P2])[p]? = some P → isTd fo2 p P ∧ okP P := fun p P hP => by
            by_cases z : p < l.length
            · rw [List.getElem?_append_left z] at hP
              obtain ⟨z1, z2⟩ := hl p P hP
              exact ⟨isTd_kept z1 t7 z, z2⟩
            · have z2 := (List.getElem?_eq_some_iff.mp hP).1
              rw [List.length_append, List.length_singleton] at z2
              have z3 : p = l.length := by omega
              subst z3
              rw [List.getElem?_append_right (Nat.le_refl _), Nat.sub_self] at hP
              cases hP
              exact ⟨t8 ew, y4⟩
          obtain ⟨j3, Q3, w11, w12, w13, w14, w15, w16⟩ : ∃ (j3 : Nat) (Q3 : gPt), gup g3 11 (g3 11 + gbi b4) 11 = (j3 : Int) ∧ j < j3 ∧ j3 ≤ N ∧ scP ft j3 = some Q3 ∧ (b4 = true → Q3.1 = 0 ∧ rsP ft gP0 0 N = (l ++ [P2]) ++ rsP ft Q3 j3 (N - j3) ∧ 7 * (l ++ [P2]).length ≤ j3) ∧ (b4 = false → wh (j3, Q3) = true ∧ (j3 < N → scP ft (j3 + 1) = none) ∧ (j3 = N → rsP ft gP0 0 N = l ++ [P2] ∧ 7 * (l ++ [P2]).length ≤ N + 1)) := by
            rw [gup_at, x311]
            cases b4 with
            | true =>
              have z := of_decide_eq_true hb4
              obtain ⟨r1, r2⟩ := y6 z.1 z.2
              exact ⟨j2 + 1, (0, P2.2), rfl, by omega, by omega, r1, fun _ => ⟨rfl, r2, y5⟩, fun z => by cases z⟩
            | false =>
              have z := of_decide_eq_false hb4
              obtain ⟨r1, r2⟩ := y7 z
              exact ⟨j2, P2, Int.add_zero _, by omega, y2, y3, (fun z => by cases z), fun _ => ⟨ew, r1, fun z => ⟨r2 z, by omega⟩⟩⟩
          refine g_istore_n 47 [(1, _), (0, _)] C dX5_isText_46 (by decide) rfl rfl ?_
          refine g_goto 17 C dX5_isText_47 rfl ?_
          refine g_loc [(1, .int (gi (gbi b4))), (0, _)] ⟨rfl, rfl, trivial⟩ ?_
          exact ih17 b4 j3 (l ++ [P2]) Q3 h4 _ fo2 n4 ((k4 _ (by omega)).trans ((k3 _ (by omega)).trans t2)) (fun x9 z1 z2 => (k4 _ (by omega)).trans ((k3 _ (by omega)).trans ((t3 x9 z1 z2).trans (hk1 x9 z1 z2)))) (fun j9 z1 z2 z3 => (gup_ne z1).trans (x3o j9 z1 z2 z3)) w11 ((gup_ne (by decide)).trans x314) w13 hl4 w14 w15 w16 (by omega)
        · skip
          have ew := gbi_0 c25
          obtain ⟨y1, y2⟩ := tx_bad u1 t6 ew u5
          refine g_iconst 29 C dX5_isText_28 rfl ?_
          exact g_zret C dX5_isText_29 rfl rfl ⟨by decide, by decide⟩ (by
              rw [y1]
              refine ⟨rfl, rfl, rfl, g2, fo2, t1, t2, fun x9 z1 z2 => (t3 x9 z1 z2).trans (hk1 x9 z1 z2), fun j9 z1 z2 z3 => (t4 j9 z1 z2).trans (hg1 j9 z1 z2 z3), fun z => ?_, fun _ => ?_⟩
              · rw [y1] at z
                cases z
              · have z9 := t9 ew
                by_cases z : j2 < N
                · right
                  rw [y2]
                  exact ⟨z9.trans (by rw [decide_eq_true z]; rfl), t5⟩
                · left
                  rw [y2]
                  exact ⟨z9.trans (by rw [decide_eq_false z]; rfl), by omega⟩)
  refine g_loc [(1, _), (0, _)] ⟨rfl, rfl, trivial⟩ ?_
  refine g_loc [(1, .int (gi (gbi true))), (0, _)] ⟨rfl, rfl, trivial⟩ ?_
  exact lp17 _ true 0 [] gP0 hc _ fo nc ((kc _ (by omega)).trans htl) (fun x9 z1 z2 => kc _ (by omega)) (fun j9 z1 z2 z3 => (gup_ne z2).trans ((gup_ne z3).trans (gup_ne z1))) ((gup_ne (by decide)).trans ((gup_ne (by decide)).trans gup_at)) ((gup_ne (by decide)).trans gup_at) (Nat.zero_le _) (fun p P hP => by rw [List.getElem?_nil] at hP; cases hP) rfl (fun _ => ⟨rfl, by rw [Nat.sub_zero]; rfl, Nat.zero_le _⟩) (fun z => by cases z) (Nat.lt_succ_self _)
