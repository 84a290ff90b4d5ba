/-! SiblingJoinsModel: the other looks -/
theorem srt_sub : ∀ (B A : List Int), A.Pairwise (fun a b => a < b) → B.Pairwise (fun a b => a < b) → (∀ x ∈ A, x ∈ B) → A.length ≤ B.length ∧ (A.length = B.length → A = B) := by
  intro B
  induction B with
  | nil =>
    intro A _ _ h
    cases A with
    | nil => exact ⟨Nat.le_refl _, fun _ => rfl⟩
    | cons a A => exact absurd (h a List.mem_cons_self) List.not_mem_nil
  | cons b B ih =>
    intro A hA hB h
    rw [List.pairwise_cons] at hB
    cases A with
    | nil => exact ⟨Nat.zero_le _, fun z => by cases z⟩
    | cons a A =>
      rw [List.pairwise_cons] at hA
      by_cases e : a = b
      · subst e
        have hs : ∀ x ∈ A, x ∈ B := fun x hx => by
          rcases List.mem_cons.mp (h x (List.mem_cons_of_mem _ hx)) with z | z
          · have := hA.1 x hx
            omega
          · exact z
        obtain ⟨i1, i2⟩ := ih A hA.2 hB.2 hs
        exact ⟨Nat.succ_le_succ i1, fun z => by rw [i2 (Nat.succ.inj z)]⟩
      · have ha : a ∈ B := by
          rcases List.mem_cons.mp (h a List.mem_cons_self) with z | z
          · exact absurd z e
          · exact z
        have hab := hB.1 a ha
        have hs : ∀ x ∈ a :: A, x ∈ B := fun x hx => by
          rcases List.mem_cons.mp (h x hx) with z | z
          · rcases List.mem_cons.mp hx with y | y
            · rw [y]; exact ha
            · have := hA.1 x y
              omega
          · exact z
        obtain ⟨i1, -⟩ := ih (a :: A) (List.pairwise_cons.mpr hA) hB.2 hs
        exact ⟨Nat.le_succ_of_le i1, fun z => absurd i1 (by rw [z]; exact Nat.not_succ_le_self _)⟩
def srt (l : List (Int × Int)) : Prop := l.Pairwise (fun a b => a.1 < b.1)
def okO (K : gKy) : Prop := ∀ s : Int, 0 ≤ s → s < 3 → srt (K.2.2.2 s)
def alN (l l2 : List (Int × Int)) (i : Nat) : Bool := decide (l.length = l2.length) && (l.take i).all (fun y => hasM l2 y.1)
theorem alN_s {l l2 : List (Int × Int)} {i : Nat} {y : Int × Int} (h : l[i]? = some y) : alN l l2 (i + 1) = (alN l l2 i && hasM l2 y.1) := by
  unfold alN
  rw [take_s h, List.all_append, Bool.and_assoc]
  simp
theorem srt_m {l : List (Int × Int)} (h : srt l) : (mks l).Pairwise (fun a b => a < b) := List.pairwise_map.mpr h
theorem alN_e {l l2 : List (Int × Int)} (h : srt l) (h2 : srt l2) : alN l l2 l.length = decide (mks l = mks l2) := by
  unfold alN
  rw [List.take_length]
  have hl : (mks l).length = l.length := List.length_map _
  have hl2 : (mks l2).length = l2.length := List.length_map _
  by_cases e : mks l = mks l2
  · rw [decide_eq_true e, decide_eq_true (show l.length = l2.length by rw [← hl, ← hl2, e]), Bool.true_and, List.all_eq_true]
    intro y hy
    have hy2 : y.1 ∈ mks l2 := by rw [← e]; exact List.mem_map.mpr ⟨y, hy, rfl⟩
    obtain ⟨z, hz, hze⟩ := List.mem_map.mp hy2
    exact List.any_eq_true.mpr ⟨z, hz, by simpa using hze⟩
  · rw [decide_eq_false e]
    by_cases e1 : l.length = l2.length
    · rw [decide_eq_true e1, Bool.true_and]
      cases e2 : l.all (fun y => hasM l2 y.1) with
      | false => rfl
      | true =>
        rw [List.all_eq_true] at e2
        refine absurd ((srt_sub (mks l2) (mks l) (srt_m h) (srt_m h2) (fun x hx => ?_)).2 (by rw [hl, hl2, e1])) e
        obtain ⟨y, hy, rfl⟩ := List.mem_map.mp hx
        obtain ⟨z, hz, hze⟩ := List.any_eq_true.mp (e2 y hy)
        exact List.mem_map.mpr ⟨z, hz, by simpa using hze⟩
    · rw [decide_eq_false e1, Bool.false_and]
def avN (K : gKy) (i : Nat) : Bool := (List.range i).all (fun j : Nat => K.2.2.1 1 (j : Int) == K.2.2.1 0 (j : Int) && K.2.2.1 2 (j : Int) == K.2.2.1 0 (j : Int))
theorem avN_s {K : gKy} {i : Nat} : avN K (i + 1) = (avN K i && (K.2.2.1 1 (i : Int) == K.2.2.1 0 (i : Int) && K.2.2.1 2 (i : Int) == K.2.2.1 0 (i : Int))) := by
  unfold avN
  rw [List.range_succ, List.all_append]
  simp
theorem avN_e (K : gKy) : avN K 5 = seeA K := by
  rw [Bool.eq_iff_iff]
  unfold avN seeA veq
  rw [Bool.and_eq_true, List.all_eq_true, List.all_eq_true, List.all_eq_true]
  constructor
  · intro h
    refine ⟨fun j hj => ?_, fun j hj => ?_⟩
    · have z := h j hj
      rw [Bool.and_eq_true] at z
      exact beq_iff_eq.mpr (beq_iff_eq.mp z.1).symm
    · have z := h j hj
      rw [Bool.and_eq_true] at z
      exact beq_iff_eq.mpr (beq_iff_eq.mp z.2).symm
  · rintro ⟨h1, h2⟩ j hj
    rw [Bool.and_eq_true]
    exact ⟨beq_iff_eq.mpr (beq_iff_eq.mp (h1 j hj)).symm, beq_iff_eq.mpr (beq_iff_eq.mp (h2 j hj)).symm⟩
def jT (rule a : Int) (l : List (Int × Int)) : Int := if rule = 0 then mxs l a else if rule = 1 then mns l a else if rule = 2 then sms l 0 else a
theorem jT_s {rule a : Int} {l : List (Int × Int)} {i : Nat} {y : Int × Int} (h : l[i]? = some y) : jT rule a (l.take (i + 1)) = if rule = 0 then (if jT rule a (l.take i) < y.2 then y.2 else jT rule a (l.take i)) else if rule = 1 then (if y.2 < jT rule a (l.take i) then y.2 else jT rule a (l.take i)) else if rule = 2 then jT rule a (l.take i) + y.2 else a := by
  unfold jT
  rw [take_s h]
  by_cases e0 : rule = 0
  · simp only [if_pos e0]; unfold mxs; rw [List.foldl_append]; rfl
  · simp only [if_neg e0]
    by_cases e1 : rule = 1
    · simp only [if_pos e1]; unfold mns; rw [List.foldl_append]; rfl
    · simp only [if_neg e1]
      by_cases e2 : rule = 2
      · simp only [if_pos e2]; unfold sms; rw [List.foldl_append]; rfl
      · simp only [if_neg e2]
theorem jT_1 {rule : Int} {l : List (Int × Int)} {x0 : Int × Int} (h : l[0]? = some x0) : jT rule x0.2 (l.take 1) = x0.2 := by
  rw [show l.take 1 = [x0] by have e := take_s h; rw [List.take_zero] at e; exact e]
  unfold jT mxs mns sms
  by_cases e0 : rule = 0
  · rw [if_pos e0]
    show (if x0.2 < x0.2 then x0.2 else x0.2) = x0.2
    rw [ite_self]
  · rw [if_neg e0]
    by_cases e1 : rule = 1
    · rw [if_pos e1]
      show (if x0.2 < x0.2 then x0.2 else x0.2) = x0.2
      rw [ite_self]
    · rw [if_neg e1]
      by_cases e2 : rule = 2
      · rw [if_pos e2]
        show 0 + x0.2 = x0.2
        omega
      · rw [if_neg e2]
def cS (S : gSt) : Nat → Int
  | 0 => 0
  | i + 1 => cS S i + sLen S ((i : Int) / 3) ((i : Int) % 3)
def cM (S : gSt) : Nat → Int
  | 0 => 0
  | i + 1 => if cM S i < sLen S ((i : Int) / 3) ((i : Int) % 3) then sLen S ((i : Int) / 3) ((i : Int) % 3) else cM S i
theorem cM_e (S : gSt) : cM S 9 = sMst S 3 := rfl
theorem cS_e (S : gSt) : cS S 9 = sAll S := by
  show 0 + sLen S 0 0 + sLen S 0 1 + sLen S 0 2 + sLen S 1 0 + sLen S 1 1 + sLen S 1 2 + sLen S 2 0 + sLen S 2 1 + sLen S 2 2 = 0 + (0 + sLen S 0 0 + sLen S 0 1 + sLen S 0 2) + (0 + sLen S 1 0 + sLen S 1 1 + sLen S 1 2) + (0 + sLen S 2 0 + sLen S 2 1 + sLen S 2 2)
  omega
theorem sLen_r {S : gSt} (h : okS S) {k s : Int} (hk : 0 ≤ k ∧ k < 3) (hs : 0 ≤ s ∧ s < 3) : 0 ≤ sLen S k s ∧ sLen S k s ≤ 4 := ⟨Int.natCast_nonneg _, by have e := ((h k hk.1 hk.2).2.2.2 s hs.1 hs.2).1; show (((S.1 k).2.2.2 s).length : Int) ≤ 4; omega⟩
theorem cM_r {S : gSt} (h : okS S) : ∀ i : Nat, i ≤ 9 → 0 ≤ cM S i ∧ cM S i ≤ 4 := by
  intro i
  induction i with
  | zero => intro _; show (0 : Int) ≤ 0 ∧ (0 : Int) ≤ 4; decide
  | succ i ih =>
    intro hi
    have h1 := ih (by omega)
    have h2 := sLen_r h (k := (i : Int) / 3) (s := (i : Int) % 3) (by omega) (by omega)
    unfold cM
    split
    · exact h2
    · exact h1
set_option maxRecDepth 100000 in
set_option maxHeartbeats 4000000 in
theorem c_X5_areAlike {E : gEnv} {n : Nat} {σ : Option Nat} {h : gH} (m : Nat) (g : Int → Int) (hs : Int64) (f : Int → Int) (k : Int) (K : gKy) (s o : Int) (hmb : gB E ≤ m ∧ m + 7 ≤ gB E + n) (hm : isMo h m g hs) (hz : h (m + 1) = gI E 311 f) (hk : 0 ≤ k ∧ k < 3) (hR : Rk f k K) (hok : okK K) (hO : okO K) (hss : 0 ≤ s ∧ s < 3) (ho : 0 ≤ o ∧ o < 3)  : gM E mX5_areAlike [.ref m, .int (gi k), .int (gi s), .int (gi o)] n σ h (gD (some (.int (gi (gbi (agr K s o))))) n σ (fun h9 => h9 = h)) (gNo) := by
  have hm9 := hm
  unfold isMo at hm
  have hR9 := hR
  have hok9 := hok
  obtain ⟨rW, rN, rV, rL⟩ := hR
  obtain ⟨oW, oN, oV, oL⟩ := hok
  have h4 := (oL s (by omega) (by omega)).1
  have h42 := (oL o (by omega) (by omega)).1
  have hfin := alN_e (hO s hss.1 hss.2) (hO o ho.1 ho.2)
  refine gM_of (by decide) (Nat.le_of_ble_eq_true rfl) (fun F C => ?_)
  refine g_aload_n 1 C dX5_areAlike_0 rfl rfl ?_
  refine g_iload_n 2 C dX5_areAlike_1 rfl rfl ?_
  refine g_iload_n 3 C dX5_areAlike_2 rfl rfl ?_
  refine g_V2r 6 0 0 C dX5_areAlike_3 rfl lk_RX5_47 gi_X5_siblings gv_X5_siblings ⟨_, _, rfl⟩ (by omega) hm ⟨⟨by decide, by decide⟩, by decide, by decide⟩ (Nat.le_of_ble_eq_true rfl) rfl rfl rfl (c_X5_siblings m g hs f k s (K.2.2.2 s) hmb hm9 hz hk (by omega) (rL s (by omega) (by omega))) g_no (fun h9 e3 => ?_)
  replace e3 := e3.symm
  subst e3
  refine g_aload_n 7 C dX5_areAlike_6 rfl rfl ?_
  refine g_iload_n 8 C dX5_areAlike_7 rfl rfl ?_
  refine g_iload_n 9 C dX5_areAlike_8 rfl rfl ?_
  refine g_V2r 12 0 0 C dX5_areAlike_9 rfl lk_RX5_47 gi_X5_siblings gv_X5_siblings ⟨_, _, rfl⟩ (by omega) hm ⟨⟨by decide, by decide⟩, by decide, by decide⟩ (Nat.le_of_ble_eq_true rfl) rfl rfl rfl (c_X5_siblings m g hs f k o (K.2.2.2 o) hmb hm9 hz hk (by omega) (rL o (by omega) (by omega))) g_no (fun h9 e9 => ?_)
  replace e9 := e9.symm
  subst e9
  refine g_icmp_ne 19 15 C dX5_areAlike_12 rfl rfl (by omega) (by omega) (fun c12 => ?_) (fun c12 => ?_)
  · skip
    have eb0 : decide ((K.2.2.2 s).length = (K.2.2.2 o).length) = false := decide_eq_false (by omega)
    refine g_iconst 20 C dX5_areAlike_19 rfl ?_
    refine g_istore 22 [(4, _), (0, _), (1, _), (2, _), (3, _)] C dX5_areAlike_20 (by decide) rfl rfl ?_
    refine g_iconst 23 C dX5_areAlike_22 rfl ?_
    refine g_istore 25 [(5, _), (4, _), (0, _), (1, _), (2, _), (3, _)] C dX5_areAlike_23 (by decide) rfl rfl ?_
    have lp25 : ∀ (k9 : Nat) (i : Nat), (i ≤ (K.2.2.2 s).length) → (K.2.2.2 s).length - i < k9 → G E F mX5_areAlike (gQ E F mX5_areAlike n (gD (some (.int (gi (gbi (agr K s o))))) n σ (fun h9 => h9 = h)) (gNo)) n σ h 0 0 25 [(5, .int (gi (i : Int))), (4, .int (gi (gbi (alN (K.2.2.2 s) (K.2.2.2 o) i)))), (0, .ref m), (1, .int (gi k)), (2, .int (gi s)), (3, .int (gi o))] [] := by
      intro k9
      induction k9 with
      | zero => intro i hi h0; exact absurd h0 (Nat.not_lt_zero _)
      | succ k9 ih25 =>
        intro i hi hk25
        refine g_iload 27 C dX5_areAlike_25 rfl rfl ?_
        refine g_aload_n 28 C dX5_areAlike_27 rfl rfl ?_
        refine g_iload_n 29 C dX5_areAlike_28 rfl rfl ?_
        refine g_iload_n 30 C dX5_areAlike_29 rfl rfl ?_
        refine g_V2r 33 0 0 C dX5_areAlike_30 rfl lk_RX5_47 gi_X5_siblings gv_X5_siblings ⟨_, _, rfl⟩ (by omega) hm ⟨⟨by decide, by decide⟩, by decide, by decide⟩ (Nat.le_of_ble_eq_true rfl) rfl rfl rfl (c_X5_siblings m g hs f k s (K.2.2.2 s) hmb hm9 hz hk (by omega) (rL s (by omega) (by omega))) g_no (fun h9 e30 => ?_)
        replace e30 := e30.symm
        subst e30
        refine g_icmp_ge 88 36 C dX5_areAlike_33 rfl rfl (by omega) (by omega) (fun c33 => ?_) (fun c33 => ?_)
        · skip
          have hil : i = (K.2.2.2 s).length := by omega
          refine g_iload 90 C dX5_areAlike_88 rfl rfl ?_
          exact g_zret C dX5_areAlike_90 rfl (gbi_z _) ⟨by decide, by decide⟩ (by rw [hil, hfin]; exact ⟨rfl, rfl, rfl, rfl⟩)
        · skip
          have hl := rL s (by omega) (by omega)
          have hol := oL s (by omega) (by omega)
          have h4 := hol.1
          obtain ⟨y, hy, hyl⟩ := get_of (l := K.2.2.2 s) (i := i) (by omega)
          obtain ⟨y1, y2, y3⟩ := hl.2 i y hy
          have hyo := hol.2 y hyl
          refine g_iload_n 37 C dX5_areAlike_36 rfl rfl ?_
          refine g_iload_n 38 C dX5_areAlike_37 rfl rfl ?_
          refine g_iload 40 C dX5_areAlike_38 rfl rfl ?_
          refine g_S3r 43 0 0 C dX5_areAlike_40 rfl lk_RX5_50 gs_X5_placeAt ⟨⟨by decide, by decide⟩, by decide, by decide⟩ (Nat.le_of_ble_eq_true rfl) rfl rfl rfl (c_X5_placeAt k s (i : Int)) g_no (fun h9 e40 => ?_)
          replace e40 := e40.symm
          subst e40
          refine g_istore 45 [(6, _), (5, _), (4, _), (0, _), (1, _), (2, _), (3, _)] C dX5_areAlike_43 (by decide) rfl rfl ?_
          refine g_iload 47 C dX5_areAlike_45 rfl rfl ?_
          refine g_if_eq 79 50 C dX5_areAlike_47 rfl rfl (gbi_r _) (fun c47 => ?_) (fun c47 => ?_)
          · skip
            have eb : alN (K.2.2.2 s) (K.2.2.2 o) (i + 1) = false := by rw [alN_s hy, gbi_0 c47]; rfl
            refine g_iconst 80 C dX5_areAlike_79 rfl ?_
            refine g_istore 82 [(4, _), (6, _), (5, _), (0, _), (1, _), (2, _), (3, _)] C dX5_areAlike_80 (by decide) rfl rfl ?_
            refine g_iinc 85 [(5, _), (4, _), (6, _), (0, _), (1, _), (2, _), (3, _)] C dX5_areAlike_82 rfl (by decide) rfl rfl ?_
            refine g_goto 25 C dX5_areAlike_85 rfl ?_
            refine g_loc [(5, _), (4, .int (gi (gbi (alN (K.2.2.2 s) (K.2.2.2 o) (i + 1))))), (0, _), (1, _), (2, _), (3, _)] ⟨rfl, (by rw [eb]; rfl), rfl, rfl, rfl, rfl, trivial⟩ ?_
            exact ih25 (i + 1) (by omega) (by omega)
          · skip
            have e0 := gbi_1 c47
            refine g_aload_n 51 C dX5_areAlike_50 rfl rfl ?_
            refine g_iload_n 52 C dX5_areAlike_51 rfl rfl ?_
            refine g_iload_n 53 C dX5_areAlike_52 rfl rfl ?_
            refine g_aload_n 54 C dX5_areAlike_53 rfl rfl ?_
            refine g_getf 57 C dX5_areAlike_54 fl_RX5_7 rfl (by omega) hm rfl rfl ?_
            refine g_iload 59 C dX5_areAlike_57 rfl rfl ?_
            refine g_iald 60 C dX5_areAlike_59 (by omega) hz (by omega) (by decide) rfl ?_
            rw [y1]
            refine g_aload_n 61 C dX5_areAlike_60 rfl rfl ?_
            refine g_getf 64 C dX5_areAlike_61 fl_RX5_7 rfl (by omega) hm rfl rfl ?_
            refine g_iload 66 C dX5_areAlike_64 rfl rfl ?_
            refine g_iconst 67 C dX5_areAlike_66 rfl ?_
            refine g_iadd 68 C dX5_areAlike_67 rfl ?_
            refine g_iald 69 C dX5_areAlike_68 (by omega) hz (by omega) (by decide) rfl ?_
            rw [y2]
            refine g_V4r 72 0 0 C dX5_areAlike_69 rfl lk_RX5_121 gi_X5_has gv_X5_has ⟨_, _, rfl⟩ (by omega) hm ⟨⟨by decide, by decide⟩, by decide, by decide⟩ (Nat.le_of_ble_eq_true rfl) rfl rfl rfl (c_X5_has m g hs f k o (K.2.2.2 o) y.1 hmb hm9 hz hk ho (rL o (by omega) (by omega)) (oL o (by omega) (by omega)) (by omega)) g_no (fun h9 e69 => ?_)
            replace e69 := e69.symm
            subst e69
            refine g_if_eq 79 75 C dX5_areAlike_72 rfl rfl (gbi_r _) (fun c72 => ?_) (fun c72 => ?_)
            · skip
              have eb : alN (K.2.2.2 s) (K.2.2.2 o) (i + 1) = false := by rw [alN_s hy, e0, gbi_0 c72]; rfl
              refine g_iconst 80 C dX5_areAlike_79 rfl ?_
              refine g_istore 82 [(4, _), (6, _), (5, _), (0, _), (1, _), (2, _), (3, _)] C dX5_areAlike_80 (by decide) rfl rfl ?_
              refine g_iinc 85 [(5, _), (4, _), (6, _), (0, _), (1, _), (2, _), (3, _)] C dX5_areAlike_82 rfl (by decide) rfl rfl ?_
              refine g_goto 25 C dX5_areAlike_85 rfl ?_
              refine g_loc [(5, _), (4, .int (gi (gbi (alN (K.2.2.2 s) (K.2.2.2 o) (i + 1))))), (0, _), (1, _), (2, _), (3, _)] ⟨rfl, (by rw [eb]; rfl), rfl, rfl, rfl, rfl, trivial⟩ ?_
              exact ih25 (i + 1) (by omega) (by omega)
            · skip
              have eb : alN (K.2.2.2 s) (K.2.2.2 o) (i + 1) = true := by rw [alN_s hy, e0, gbi_1 c72]; rfl
              refine g_iconst 76 C dX5_areAlike_75 rfl ?_
              refine g_goto 80 C dX5_areAlike_76 rfl ?_
              refine g_istore 82 [(4, _), (6, _), (5, _), (0, _), (1, _), (2, _), (3, _)] C dX5_areAlike_80 (by decide) rfl rfl ?_
              refine g_iinc 85 [(5, _), (4, _), (6, _), (0, _), (1, _), (2, _), (3, _)] C dX5_areAlike_82 rfl (by decide) rfl rfl ?_
              refine g_goto 25 C dX5_areAlike_85 rfl ?_
              refine g_loc [(5, _), (4, .int (gi (gbi (alN (K.2.2.2 s) (K.2.2.2 o) (i + 1))))), (0, _), (1, _), (2, _), (3, _)] ⟨rfl, (by rw [eb]; rfl), rfl, rfl, rfl, rfl, trivial⟩ ?_
              exact ih25 (i + 1) (by omega) (by omega)
    refine g_loc [(5, _), (4, _), (0, _), (1, _), (2, _), (3, _)] ⟨rfl, rfl, rfl, rfl, rfl, rfl, trivial⟩ ?_
    refine g_loc [(5, .int (gi ((0 : Nat) : Int))), (4, .int (gi (gbi (alN (K.2.2.2 s) (K.2.2.2 o) 0)))), (0, _), (1, _), (2, _), (3, _)] ⟨rfl, (by rw [show alN (K.2.2.2 s) (K.2.2.2 o) 0 = decide ((K.2.2.2 s).length = (K.2.2.2 o).length) from Bool.and_true _, eb0]; rfl), rfl, rfl, rfl, rfl, trivial⟩ ?_
    exact lp25 _ 0 (Nat.zero_le _) (Nat.lt_succ_self _)
  · skip
    have eb0 : decide ((K.2.2.2 s).length = (K.2.2.2 o).length) = true := decide_eq_true (by omega)
    refine g_iconst 16 C dX5_areAlike_15 rfl ?_
    refine g_goto 20 C dX5_areAlike_16 rfl ?_
    refine g_istore 22 [(4, _), (0, _), (1, _), (2, _), (3, _)] C dX5_areAlike_20 (by decide) rfl rfl ?_
    refine g_iconst 23 C dX5_areAlike_22 rfl ?_
    refine g_istore 25 [(5, _), (4, _), (0, _), (1, _), (2, _), (3, _)] C dX5_areAlike_23 (by decide) rfl rfl ?_
    have lp25 : ∀ (k9 : Nat) (i : Nat), (i ≤ (K.2.2.2 s).length) → (K.2.2.2 s).length - i < k9 → G E F mX5_areAlike (gQ E F mX5_areAlike n (gD (some (.int (gi (gbi (agr K s o))))) n σ (fun h9 => h9 = h)) (gNo)) n σ h 0 0 25 [(5, .int (gi (i : Int))), (4, .int (gi (gbi (alN (K.2.2.2 s) (K.2.2.2 o) i)))), (0, .ref m), (1, .int (gi k)), (2, .int (gi s)), (3, .int (gi o))] [] := by
      intro k9
      induction k9 with
      | zero => intro i hi h0; exact absurd h0 (Nat.not_lt_zero _)
      | succ k9 ih25 =>
        intro i hi hk25
        refine g_iload 27 C dX5_areAlike_25 rfl rfl ?_
        refine g_aload_n 28 C dX5_areAlike_27 rfl rfl ?_
        refine g_iload_n 29 C dX5_areAlike_28 rfl rfl ?_
        refine g_iload_n 30 C dX5_areAlike_29 rfl rfl ?_
        refine g_V2r 33 0 0 C dX5_areAlike_30 rfl lk_RX5_47 gi_X5_siblings gv_X5_siblings ⟨_, _, rfl⟩ (by omega) hm ⟨⟨by decide, by decide⟩, by decide, by decide⟩ (Nat.le_of_ble_eq_true rfl) rfl rfl rfl (c_X5_siblings m g hs f k s (K.2.2.2 s) hmb hm9 hz hk (by omega) (rL s (by omega) (by omega))) g_no (fun h9 e30 => ?_)
        replace e30 := e30.symm
        subst e30
        refine g_icmp_ge 88 36 C dX5_areAlike_33 rfl rfl (by omega) (by omega) (fun c33 => ?_) (fun c33 => ?_)
        · skip
          have hil : i = (K.2.2.2 s).length := by omega
          refine g_iload 90 C dX5_areAlike_88 rfl rfl ?_
          exact g_zret C dX5_areAlike_90 rfl (gbi_z _) ⟨by decide, by decide⟩ (by rw [hil, hfin]; exact ⟨rfl, rfl, rfl, rfl⟩)
        · skip
          have hl := rL s (by omega) (by omega)
          have hol := oL s (by omega) (by omega)
          have h4 := hol.1
          obtain ⟨y, hy, hyl⟩ := get_of (l := K.2.2.2 s) (i := i) (by omega)
          obtain ⟨y1, y2, y3⟩ := hl.2 i y hy
          have hyo := hol.2 y hyl
          refine g_iload_n 37 C dX5_areAlike_36 rfl rfl ?_
          refine g_iload_n 38 C dX5_areAlike_37 rfl rfl ?_
          refine g_iload 40 C dX5_areAlike_38 rfl rfl ?_
          refine g_S3r 43 0 0 C dX5_areAlike_40 rfl lk_RX5_50 gs_X5_placeAt ⟨⟨by decide, by decide⟩, by decide, by decide⟩ (Nat.le_of_ble_eq_true rfl) rfl rfl rfl (c_X5_placeAt k s (i : Int)) g_no (fun h9 e40 => ?_)
          replace e40 := e40.symm
          subst e40
          refine g_istore 45 [(6, _), (5, _), (4, _), (0, _), (1, _), (2, _), (3, _)] C dX5_areAlike_43 (by decide) rfl rfl ?_
          refine g_iload 47 C dX5_areAlike_45 rfl rfl ?_
          refine g_if_eq 79 50 C dX5_areAlike_47 rfl rfl (gbi_r _) (fun c47 => ?_) (fun c47 => ?_)
          · skip
            have eb : alN (K.2.2.2 s) (K.2.2.2 o) (i + 1) = false := by rw [alN_s hy, gbi_0 c47]; rfl
            refine g_iconst 80 C dX5_areAlike_79 rfl ?_
            refine g_istore 82 [(4, _), (6, _), (5, _), (0, _), (1, _), (2, _), (3, _)] C dX5_areAlike_80 (by decide) rfl rfl ?_
            refine g_iinc 85 [(5, _), (4, _), (6, _), (0, _), (1, _), (2, _), (3, _)] C dX5_areAlike_82 rfl (by decide) rfl rfl ?_
            refine g_goto 25 C dX5_areAlike_85 rfl ?_
            refine g_loc [(5, _), (4, .int (gi (gbi (alN (K.2.2.2 s) (K.2.2.2 o) (i + 1))))), (0, _), (1, _), (2, _), (3, _)] ⟨rfl, (by rw [eb]; rfl), rfl, rfl, rfl, rfl, trivial⟩ ?_
            exact ih25 (i + 1) (by omega) (by omega)
          · skip
            have e0 := gbi_1 c47
            refine g_aload_n 51 C dX5_areAlike_50 rfl rfl ?_
            refine g_iload_n 52 C dX5_areAlike_51 rfl rfl ?_
            refine g_iload_n 53 C dX5_areAlike_52 rfl rfl ?_
            refine g_aload_n 54 C dX5_areAlike_53 rfl rfl ?_
            refine g_getf 57 C dX5_areAlike_54 fl_RX5_7 rfl (by omega) hm rfl rfl ?_
            refine g_iload 59 C dX5_areAlike_57 rfl rfl ?_
            refine g_iald 60 C dX5_areAlike_59 (by omega) hz (by omega) (by decide) rfl ?_
            rw [y1]
            refine g_aload_n 61 C dX5_areAlike_60 rfl rfl ?_
            refine g_getf 64 C dX5_areAlike_61 fl_RX5_7 rfl (by omega) hm rfl rfl ?_
            refine g_iload 66 C dX5_areAlike_64 rfl rfl ?_
            refine g_iconst 67 C dX5_areAlike_66 rfl ?_
            refine g_iadd 68 C dX5_areAlike_67 rfl ?_
            refine g_iald 69 C dX5_areAlike_68 (by omega) hz (by omega) (by decide) rfl ?_
            rw [y2]
            refine g_V4r 72 0 0 C dX5_areAlike_69 rfl lk_RX5_121 gi_X5_has gv_X5_has ⟨_, _, rfl⟩ (by omega) hm ⟨⟨by decide, by decide⟩, by decide, by decide⟩ (Nat.le_of_ble_eq_true rfl) rfl rfl rfl (c_X5_has m g hs f k o (K.2.2.2 o) y.1 hmb hm9 hz hk ho (rL o (by omega) (by omega)) (oL o (by omega) (by omega)) (by omega)) g_no (fun h9 e69 => ?_)
            replace e69 := e69.symm
            subst e69
            refine g_if_eq 79 75 C dX5_areAlike_72 rfl rfl (gbi_r _) (fun c72 => ?_) (fun c72 => ?_)
            · skip
              have eb : alN (K.2.2.2 s) (K.2.2.2 o) (i + 1) = false := by rw [alN_s hy, e0, gbi_0 c72]; rfl
              refine g_iconst 80 C dX5_areAlike_79 rfl ?_
              refine g_istore 82 [(4, _), (6, _), (5, _), (0, _), (1, _), (2, _), (3, _)] C dX5_areAlike_80 (by decide) rfl rfl ?_
              refine g_iinc 85 [(5, _), (4, _), (6, _), (0, _), (1, _), (2, _), (3, _)] C dX5_areAlike_82 rfl (by decide) rfl rfl ?_
              refine g_goto 25 C dX5_areAlike_85 rfl ?_
              refine g_loc [(5, _), (4, .int (gi (gbi (alN (K.2.2.2 s) (K.2.2.2 o) (i + 1))))), (0, _), (1, _), (2, _), (3, _)] ⟨rfl, (by rw [eb]; rfl), rfl, rfl, rfl, rfl, trivial⟩ ?_
              exact ih25 (i + 1) (by omega) (by omega)
            · skip
              have eb : alN (K.2.2.2 s) (K.2.2.2 o) (i + 1) = true := by rw [alN_s hy, e0, gbi_1 c72]; rfl
              refine g_iconst 76 C dX5_areAlike_75 rfl ?_
              refine g_goto 80 C dX5_areAlike_76 rfl ?_
              refine g_istore 82 [(4, _), (6, _), (5, _), (0, _), (1, _), (2, _), (3, _)] C dX5_areAlike_80 (by decide) rfl rfl ?_
              refine g_iinc 85 [(5, _), (4, _), (6, _), (0, _), (1, _), (2, _), (3, _)] C dX5_areAlike_82 rfl (by decide) rfl rfl ?_
              refine g_goto 25 C dX5_areAlike_85 rfl ?_
              refine g_loc [(5, _), (4, .int (gi (gbi (alN (K.2.2.2 s) (K.2.2.2 o) (i + 1))))), (0, _), (1, _), (2, _), (3, _)] ⟨rfl, (by rw [eb]; rfl), rfl, rfl, rfl, rfl, trivial⟩ ?_
              exact ih25 (i + 1) (by omega) (by omega)
    refine g_loc [(5, _), (4, _), (0, _), (1, _), (2, _), (3, _)] ⟨rfl, rfl, rfl, rfl, rfl, rfl, trivial⟩ ?_
    refine g_loc [(5, .int (gi ((0 : Nat) : Int))), (4, .int (gi (gbi (alN (K.2.2.2 s) (K.2.2.2 o) 0)))), (0, _), (1, _), (2, _), (3, _)] ⟨rfl, (by rw [show alN (K.2.2.2 s) (K.2.2.2 o) 0 = decide ((K.2.2.2 s).length = (K.2.2.2 o).length) from Bool.and_true _, eb0]; rfl), rfl, rfl, rfl, rfl, trivial⟩ ?_
    exact lp25 _ 0 (Nat.zero_le _) (Nat.lt_succ_self _)
set_option maxRecDepth 100000 in
set_option maxHeartbeats 4000000 in
theorem c_X5_areVectorsAlike {E : gEnv} {n : Nat} {σ : Option Nat} {h : gH} (m : Nat) (g : Int → Int) (hs : Int64) (f : Int → Int) (k : Int) (K : gKy) (hmb : gB E ≤ m ∧ m + 7 ≤ gB E + n) (hm : isMo h m g hs) (hz : h (m + 1) = gI E 311 f) (hk : 0 ≤ k ∧ k < 3) (hR : Rk f k K) (hok : okK K)  : gM E mX5_areVectorsAlike [.ref m, .int (gi k)] n σ h (gD (some (.int (gi (gbi (seeA K))))) n σ (fun h9 => h9 = h)) (gNo) := by
  have hm9 := hm
  unfold isMo at hm
  have hR9 := hR
  have hok9 := hok
  obtain ⟨rW, rN, rV, rL⟩ := hR
  obtain ⟨oW, oN, oV, oL⟩ := hok
  refine gM_of (by decide) (Nat.le_of_ble_eq_true rfl) (fun F C => ?_)
  refine g_iconst 1 C dX5_areVectorsAlike_0 rfl ?_
  refine g_istore_n 2 [(2, _), (0, _), (1, _)] C dX5_areVectorsAlike_1 (by decide) rfl rfl ?_
  refine g_iconst 3 C dX5_areVectorsAlike_2 rfl ?_
  refine g_istore_n 4 [(3, _), (2, _), (0, _), (1, _)] C dX5_areVectorsAlike_3 (by decide) rfl rfl ?_
  have lp4 : ∀ (k9 : Nat) (i : Nat), (i ≤ 5) → 5 - i < k9 → G E F mX5_areVectorsAlike (gQ E F mX5_areVectorsAlike n (gD (some (.int (gi (gbi (seeA K))))) n σ (fun h9 => h9 = h)) (gNo)) n σ h 0 0 4 [(3, .int (gi (i : Int))), (2, .int (gi (gbi (avN K i)))), (0, .ref m), (1, .int (gi k))] [] := by
    intro k9
    induction k9 with
    | zero => intro i hi h0; exact absurd h0 (Nat.not_lt_zero _)
    | succ k9 ih4 =>
      intro i hi hk4
      refine g_iload_n 5 C dX5_areVectorsAlike_4 rfl rfl ?_
      refine g_iconst 6 C dX5_areVectorsAlike_5 rfl ?_
      refine g_icmp_ge 73 9 C dX5_areVectorsAlike_6 rfl rfl (by omega) (by omega) (fun c6 => ?_) (fun c6 => ?_)
      · skip
        refine g_iload_n 74 C dX5_areVectorsAlike_73 rfl rfl ?_
        exact g_zret C dX5_areVectorsAlike_74 rfl (gbi_z _) ⟨by decide, by decide⟩ (by rw [show i = 5 by omega, avN_e]; exact ⟨rfl, rfl, rfl, rfl⟩)
      · skip
        have a0 := oV 0 (by omega) (by omega) (i : Int) (by omega) (by omega)
        have a1 := oV 1 (by omega) (by omega) (i : Int) (by omega) (by omega)
        have a2 := oV 2 (by omega) (by omega) (i : Int) (by omega) (by omega)
        refine g_aload_n 10 C dX5_areVectorsAlike_9 rfl rfl ?_
        refine g_getf 13 C dX5_areVectorsAlike_10 fl_RX5_7 rfl (by omega) hm rfl rfl ?_
        refine g_iload_n 14 C dX5_areVectorsAlike_13 rfl rfl ?_
        refine g_iconst 15 C dX5_areVectorsAlike_14 rfl ?_
        refine g_S2r 18 0 0 C dX5_areVectorsAlike_15 rfl lk_RX5_75 gs_X5_vectorAt ⟨⟨by decide, by decide⟩, by decide, by decide⟩ (Nat.le_of_ble_eq_true rfl) rfl rfl rfl (c_X5_vectorAt k 0) g_no (fun h9 e15 => ?_)
        replace e15 := e15.symm
        subst e15
        refine g_iload_n 19 C dX5_areVectorsAlike_18 rfl rfl ?_
        refine g_iadd 20 C dX5_areVectorsAlike_19 rfl ?_
        refine g_iald 21 C dX5_areVectorsAlike_20 (by omega) hz (by omega) (by decide) rfl ?_
        rw [rV 0 (by omega) (by omega) (i : Int) (by omega) (by omega)]
        refine g_istore 23 [(4, _), (3, _), (2, _), (0, _), (1, _)] C dX5_areVectorsAlike_21 (by decide) rfl rfl ?_
        refine g_iload_n 24 C dX5_areVectorsAlike_23 rfl rfl ?_
        refine g_if_eq 65 27 C dX5_areVectorsAlike_24 rfl rfl (gbi_r _) (fun c24 => ?_) (fun c24 => ?_)
        · skip
          have eb : avN K (i + 1) = false := by rw [avN_s, gbi_0 c24]; rfl
          refine g_iconst 66 C dX5_areVectorsAlike_65 rfl ?_
          refine g_istore_n 67 [(2, _), (4, _), (3, _), (0, _), (1, _)] C dX5_areVectorsAlike_66 (by decide) rfl rfl ?_
          refine g_iinc 70 [(3, _), (2, _), (4, _), (0, _), (1, _)] C dX5_areVectorsAlike_67 rfl (by decide) rfl rfl ?_
          refine g_goto 4 C dX5_areVectorsAlike_70 rfl ?_
          refine g_loc [(3, _), (2, .int (gi (gbi (avN K (i + 1))))), (0, _), (1, _)] ⟨rfl, (by rw [eb]; rfl), rfl, rfl, trivial⟩ ?_
          exact ih4 (i + 1) (by omega) (by omega)
        · skip
          have e0 := gbi_1 c24
          refine g_aload_n 28 C dX5_areVectorsAlike_27 rfl rfl ?_
          refine g_getf 31 C dX5_areVectorsAlike_28 fl_RX5_7 rfl (by omega) hm rfl rfl ?_
          refine g_iload_n 32 C dX5_areVectorsAlike_31 rfl rfl ?_
          refine g_iconst 33 C dX5_areVectorsAlike_32 rfl ?_
          refine g_S2r 36 0 0 C dX5_areVectorsAlike_33 rfl lk_RX5_75 gs_X5_vectorAt ⟨⟨by decide, by decide⟩, by decide, by decide⟩ (Nat.le_of_ble_eq_true rfl) rfl rfl rfl (c_X5_vectorAt k 1) g_no (fun h9 e33 => ?_)
          replace e33 := e33.symm
          subst e33
          refine g_iload_n 37 C dX5_areVectorsAlike_36 rfl rfl ?_
          refine g_iadd 38 C dX5_areVectorsAlike_37 rfl ?_
          refine g_iald 39 C dX5_areVectorsAlike_38 (by omega) hz (by omega) (by decide) rfl ?_
          rw [rV 1 (by omega) (by omega) (i : Int) (by omega) (by omega)]
          refine g_iload 41 C dX5_areVectorsAlike_39 rfl rfl ?_
          refine g_icmp_ne 65 44 C dX5_areVectorsAlike_41 rfl rfl (by omega) (by omega) (fun c41 => ?_) (fun c41 => ?_)
          · skip
            have eb : avN K (i + 1) = false := by rw [avN_s, e0, beq_eq_false_iff_ne.mpr c41]; rfl
            refine g_iconst 66 C dX5_areVectorsAlike_65 rfl ?_
            refine g_istore_n 67 [(2, _), (4, _), (3, _), (0, _), (1, _)] C dX5_areVectorsAlike_66 (by decide) rfl rfl ?_
            refine g_iinc 70 [(3, _), (2, _), (4, _), (0, _), (1, _)] C dX5_areVectorsAlike_67 rfl (by decide) rfl rfl ?_
            refine g_goto 4 C dX5_areVectorsAlike_70 rfl ?_
            refine g_loc [(3, _), (2, .int (gi (gbi (avN K (i + 1))))), (0, _), (1, _)] ⟨rfl, (by rw [eb]; rfl), rfl, rfl, trivial⟩ ?_
            exact ih4 (i + 1) (by omega) (by omega)
          · skip
            have e1 : K.2.2.1 1 (i : Int) = K.2.2.1 0 (i : Int) := by omega
            refine g_aload_n 45 C dX5_areVectorsAlike_44 rfl rfl ?_
            refine g_getf 48 C dX5_areVectorsAlike_45 fl_RX5_7 rfl (by omega) hm rfl rfl ?_
            refine g_iload_n 49 C dX5_areVectorsAlike_48 rfl rfl ?_
            refine g_iconst 50 C dX5_areVectorsAlike_49 rfl ?_
            refine g_S2r 53 0 0 C dX5_areVectorsAlike_50 rfl lk_RX5_75 gs_X5_vectorAt ⟨⟨by decide, by decide⟩, by decide, by decide⟩ (Nat.le_of_ble_eq_true rfl) rfl rfl rfl (c_X5_vectorAt k 2) g_no (fun h9 e50 => ?_)
            replace e50 := e50.symm
            subst e50
            refine g_iload_n 54 C dX5_areVectorsAlike_53 rfl rfl ?_
            refine g_iadd 55 C dX5_areVectorsAlike_54 rfl ?_
            refine g_iald 56 C dX5_areVectorsAlike_55 (by omega) hz (by omega) (by decide) rfl ?_
            rw [rV 2 (by omega) (by omega) (i : Int) (by omega) (by omega)]
            refine g_iload 58 C dX5_areVectorsAlike_56 rfl rfl ?_
            refine g_icmp_ne 65 61 C dX5_areVectorsAlike_58 rfl rfl (by omega) (by omega) (fun c58 => ?_) (fun c58 => ?_)
            · skip
              have eb : avN K (i + 1) = false := by rw [avN_s, e0, beq_eq_false_iff_ne.mpr c58, Bool.and_false]; rfl
              refine g_iconst 66 C dX5_areVectorsAlike_65 rfl ?_
              refine g_istore_n 67 [(2, _), (4, _), (3, _), (0, _), (1, _)] C dX5_areVectorsAlike_66 (by decide) rfl rfl ?_
              refine g_iinc 70 [(3, _), (2, _), (4, _), (0, _), (1, _)] C dX5_areVectorsAlike_67 rfl (by decide) rfl rfl ?_
              refine g_goto 4 C dX5_areVectorsAlike_70 rfl ?_
              refine g_loc [(3, _), (2, .int (gi (gbi (avN K (i + 1))))), (0, _), (1, _)] ⟨rfl, (by rw [eb]; rfl), rfl, rfl, trivial⟩ ?_
              exact ih4 (i + 1) (by omega) (by omega)
            · skip
              have eb : avN K (i + 1) = true := by rw [avN_s, e0, beq_iff_eq.mpr e1, beq_iff_eq.mpr (show K.2.2.1 2 (i : Int) = K.2.2.1 0 (i : Int) by omega)]; rfl
              refine g_iconst 62 C dX5_areVectorsAlike_61 rfl ?_
              refine g_goto 66 C dX5_areVectorsAlike_62 rfl ?_
              refine g_istore_n 67 [(2, _), (4, _), (3, _), (0, _), (1, _)] C dX5_areVectorsAlike_66 (by decide) rfl rfl ?_
              refine g_iinc 70 [(3, _), (2, _), (4, _), (0, _), (1, _)] C dX5_areVectorsAlike_67 rfl (by decide) rfl rfl ?_
              refine g_goto 4 C dX5_areVectorsAlike_70 rfl ?_
              refine g_loc [(3, _), (2, .int (gi (gbi (avN K (i + 1))))), (0, _), (1, _)] ⟨rfl, (by rw [eb]; rfl), rfl, rfl, trivial⟩ ?_
              exact ih4 (i + 1) (by omega) (by omega)
  refine g_loc [(3, _), (2, _), (0, _), (1, _)] ⟨rfl, rfl, rfl, rfl, trivial⟩ ?_
  exact lp4 _ 0 (by omega) (Nat.lt_succ_self _)
set_option maxRecDepth 100000 in
set_option maxHeartbeats 4000000 in
theorem c_X5_joined {E : gEnv} {n : Nat} {σ : Option Nat} {h : gH} (m : Nat) (g : Int → Int) (hs : Int64) (f : Int → Int) (k : Int) (K : gKy) (s rule : Int) (x0 : Int × Int) (hmb : gB E ≤ m ∧ m + 7 ≤ gB E + n) (hm : isMo h m g hs) (hz : h (m + 1) = gI E 311 f) (hk : 0 ≤ k ∧ k < 3) (hR : Rk f k K) (hok : okK K) (hss : 0 ≤ s ∧ s < 3) (hr : 0 ≤ rule ∧ rule ≤ 3) (hx : (K.2.2.2 s)[0]? = some x0)  : gM E mX5_joined [.ref m, .int (gi k), .int (gi s), .int (gi rule)] n σ h (gD (some (.int (gi (jval rule x0.2 (K.2.2.2 s))))) n σ (fun h9 => h9 = h)) (gNo) := by
  have hm9 := hm
  unfold isMo at hm
  have hR9 := hR
  have hok9 := hok
  obtain ⟨rW, rN, rV, rL⟩ := hR
  obtain ⟨oW, oN, oV, oL⟩ := hok
  have h4 := (oL s (by omega) (by omega)).1
  have hpos := (List.getElem?_eq_some_iff.mp hx).1
  obtain ⟨x1, x2, x3⟩ := (rL s hss.1 hss.2).2 0 x0 hx
  have hxo := (oL s hss.1 hss.2).2 x0 (List.mem_of_getElem? hx)
  refine gM_of (by decide) (Nat.le_of_ble_eq_true rfl) (fun F C => ?_)
  refine g_aload_n 1 C dX5_joined_0 rfl rfl ?_
  refine g_getf 4 C dX5_joined_1 fl_RX5_7 rfl (by omega) hm rfl rfl ?_
  refine g_iload_n 5 C dX5_joined_4 rfl rfl ?_
  refine g_iload_n 6 C dX5_joined_5 rfl rfl ?_
  refine g_iconst 7 C dX5_joined_6 rfl ?_
  refine g_S3r 10 0 0 C dX5_joined_7 rfl lk_RX5_50 gs_X5_placeAt ⟨⟨by decide, by decide⟩, by decide, by decide⟩ (Nat.le_of_ble_eq_true rfl) rfl rfl rfl (c_X5_placeAt k s 0) g_no (fun h9 e7 => ?_)
  replace e7 := e7.symm
  subst e7
  refine g_iconst 11 C dX5_joined_10 rfl ?_
  refine g_iadd 12 C dX5_joined_11 rfl ?_
  refine g_iald 13 C dX5_joined_12 (by omega) hz (by omega) (by decide) rfl ?_
  rw [show 135 + 19 * (3 * k + s) + 1 + 3 * 0 + 2 = 135 + 19 * (3 * k + s) + 1 + 3 * ((0 : Nat) : Int) + 2 by omega, x3]
  refine g_istore 15 [(4, _), (0, _), (1, _), (2, _), (3, _)] C dX5_joined_13 (by decide) rfl rfl ?_
  refine g_iconst 16 C dX5_joined_15 rfl ?_
  refine g_istore 18 [(5, _), (4, _), (0, _), (1, _), (2, _), (3, _)] C dX5_joined_16 (by decide) rfl rfl ?_
  have lp18 : ∀ (k9 : Nat) (i : Nat), (1 ≤ i ∧ i ≤ (K.2.2.2 s).length) → (0 ≤ (jT rule x0.2 ((K.2.2.2 s).take i)) ∧ (jT rule x0.2 ((K.2.2.2 s).take i)) ≤ 99 * (i : Int) ∧ (rule = 0 ∨ rule = 1 → (jT rule x0.2 ((K.2.2.2 s).take i)) ≤ 99) ∧ (rule = 3 → (jT rule x0.2 ((K.2.2.2 s).take i)) = x0.2)) → (K.2.2.2 s).length - i < k9 → G E F mX5_joined (gQ E F mX5_joined n (gD (some (.int (gi (jval rule x0.2 (K.2.2.2 s))))) n σ (fun h9 => h9 = h)) (gNo)) n σ h 0 0 18 [(5, .int (gi (i : Int))), (4, .int (gi (jT rule x0.2 ((K.2.2.2 s).take i)))), (0, .ref m), (1, .int (gi k)), (2, .int (gi s)), (3, .int (gi rule))] [] := by
    intro k9
    induction k9 with
    | zero => intro i hi hj h0; exact absurd h0 (Nat.not_lt_zero _)
    | succ k9 ih18 =>
      intro i hi hj hk18
      refine g_iload 20 C dX5_joined_18 rfl rfl ?_
      refine g_aload_n 21 C dX5_joined_20 rfl rfl ?_
      refine g_iload_n 22 C dX5_joined_21 rfl rfl ?_
      refine g_iload_n 23 C dX5_joined_22 rfl rfl ?_
      refine g_V2r 26 0 0 C dX5_joined_23 rfl lk_RX5_47 gi_X5_siblings gv_X5_siblings ⟨_, _, rfl⟩ (by omega) hm ⟨⟨by decide, by decide⟩, by decide, by decide⟩ (Nat.le_of_ble_eq_true rfl) rfl rfl rfl (c_X5_siblings m g hs f k s (K.2.2.2 s) hmb hm9 hz hk (by omega) (rL s (by omega) (by omega))) g_no (fun h9 e23 => ?_)
      replace e23 := e23.symm
      subst e23
      refine g_icmp_ge 99 29 C dX5_joined_26 rfl rfl (by omega) (by omega) (fun c26 => ?_) (fun c26 => ?_)
      · skip
        have hil : i = (K.2.2.2 s).length ∨ rule = 3 := Or.inl (by omega)
        refine g_iload_n 100 C dX5_joined_99 rfl rfl ?_
        refine g_iconst 101 C dX5_joined_100 rfl ?_
        refine g_icmp_ne 112 104 C dX5_joined_101 rfl rfl (by omega) (by omega) (fun c101 => ?_) (fun c101 => ?_)
        · skip
          have ef : jval rule x0.2 (K.2.2.2 s) = jT rule x0.2 ((K.2.2.2 s).take i) := by
            rcases hil with z | z
            · rw [z, List.take_length]; unfold jval jT; simp only [if_neg c101]
            · rw [hj.2.2.2 z]; unfold jval; rw [if_neg (show ¬ rule = 0 by omega), if_neg (show ¬ rule = 1 by omega), if_neg (show ¬ rule = 2 by omega)]
          refine g_iload 114 C dX5_joined_112 rfl rfl ?_
          exact g_iret C dX5_joined_114 rfl ⟨by decide, by decide⟩ (by rw [ef]; exact ⟨rfl, rfl, rfl, rfl⟩)
        · skip
          have ef : jval rule x0.2 (K.2.2.2 s) = jT rule x0.2 ((K.2.2.2 s).take i) % 100 := by
            rw [show i = (K.2.2.2 s).length by omega, List.take_length]; unfold jval jT; simp only [if_neg (show ¬ rule = 0 by omega), if_neg (show ¬ rule = 1 by omega), if_pos (show rule = 2 by omega)]
          refine g_iload 106 C dX5_joined_104 rfl rfl ?_
          refine g_bipush 108 C dX5_joined_106 (by decide) rfl ?_
          refine g_irem 109 C dX5_joined_108 (by omega) (by omega) rfl ?_
          refine g_goto 114 C dX5_joined_109 rfl ?_
          exact g_iret C dX5_joined_114 rfl ⟨by decide, by decide⟩ (by rw [ef]; exact ⟨rfl, rfl, rfl, rfl⟩)
      · skip
        have hl := rL s (by omega) (by omega)
        have hol := oL s (by omega) (by omega)
        have h4 := hol.1
        obtain ⟨y, hy, hyl⟩ := get_of (l := K.2.2.2 s) (i := i) (by omega)
        obtain ⟨y1, y2, y3⟩ := hl.2 i y hy
        have hyo := hol.2 y hyl
        have ejs := jT_s (rule := rule) (a := x0.2) hy
        refine g_iload_n 30 C dX5_joined_29 rfl rfl ?_
        refine g_iconst 31 C dX5_joined_30 rfl ?_
        refine g_icmp_ge 99 34 C dX5_joined_31 rfl rfl (by omega) (by omega) (fun c31 => ?_) (fun c31 => ?_)
        · skip
          have hil : i = (K.2.2.2 s).length ∨ rule = 3 := Or.inr (by omega)
          refine g_iload_n 100 C dX5_joined_99 rfl rfl ?_
          refine g_iconst 101 C dX5_joined_100 rfl ?_
          refine g_icmp_ne 112 104 C dX5_joined_101 rfl rfl (by omega) (by omega) (fun c101 => ?_) (fun c101 => ?_)
          · skip
            have ef : jval rule x0.2 (K.2.2.2 s) = jT rule x0.2 ((K.2.2.2 s).take i) := by
              rcases hil with z | z
              · rw [z, List.take_length]; unfold jval jT; simp only [if_neg c101]
              · rw [hj.2.2.2 z]; unfold jval; rw [if_neg (show ¬ rule = 0 by omega), if_neg (show ¬ rule = 1 by omega), if_neg (show ¬ rule = 2 by omega)]
            refine g_iload 114 C dX5_joined_112 rfl rfl ?_
            exact g_iret C dX5_joined_114 rfl ⟨by decide, by decide⟩ (by rw [ef]; exact ⟨rfl, rfl, rfl, rfl⟩)
          · skip
            have ef : jval rule x0.2 (K.2.2.2 s) = jT rule x0.2 ((K.2.2.2 s).take i) % 100 := by
              rw [show i = (K.2.2.2 s).length by omega, List.take_length]; unfold jval jT; simp only [if_neg (show ¬ rule = 0 by omega), if_neg (show ¬ rule = 1 by omega), if_pos (show rule = 2 by omega)]
            refine g_iload 106 C dX5_joined_104 rfl rfl ?_
            refine g_bipush 108 C dX5_joined_106 (by decide) rfl ?_
            refine g_irem 109 C dX5_joined_108 (by omega) (by omega) rfl ?_
            refine g_goto 114 C dX5_joined_109 rfl ?_
            exact g_iret C dX5_joined_114 rfl ⟨by decide, by decide⟩ (by rw [ef]; exact ⟨rfl, rfl, rfl, rfl⟩)
        · skip
          refine g_aload_n 35 C dX5_joined_34 rfl rfl ?_
          refine g_getf 38 C dX5_joined_35 fl_RX5_7 rfl (by omega) hm rfl rfl ?_
          refine g_iload_n 39 C dX5_joined_38 rfl rfl ?_
          refine g_iload_n 40 C dX5_joined_39 rfl rfl ?_
          refine g_iload 42 C dX5_joined_40 rfl rfl ?_
          refine g_S3r 45 0 0 C dX5_joined_42 rfl lk_RX5_50 gs_X5_placeAt ⟨⟨by decide, by decide⟩, by decide, by decide⟩ (Nat.le_of_ble_eq_true rfl) rfl rfl rfl (c_X5_placeAt k s (i : Int)) g_no (fun h9 e42 => ?_)
          replace e42 := e42.symm
          subst e42
          refine g_iconst 46 C dX5_joined_45 rfl ?_
          refine g_iadd 47 C dX5_joined_46 rfl ?_
          refine g_iald 48 C dX5_joined_47 (by omega) hz (by omega) (by decide) rfl ?_
          rw [y3]
          refine g_istore 50 [(6, _), (5, _), (4, _), (0, _), (1, _), (2, _), (3, _)] C dX5_joined_48 (by decide) rfl rfl ?_
          refine g_iload_n 51 C dX5_joined_50 rfl rfl ?_
          refine g_iconst 52 C dX5_joined_51 rfl ?_
          refine g_icmp_ne 63 55 C dX5_joined_52 rfl rfl (by omega) (by omega) (fun c52 => ?_) (fun c52 => ?_)
          · skip
            refine g_iload_n 64 C dX5_joined_63 rfl rfl ?_
            refine g_if_ne 77 67 C dX5_joined_64 rfl rfl (by omega) (fun c64 => ?_) (fun c64 => ?_)
            · skip
              rw [if_neg (show ¬ rule = 0 by omega), if_pos (show rule = 1 by omega)] at ejs
              refine g_iload 79 C dX5_joined_77 rfl rfl ?_
              refine g_iload 81 C dX5_joined_79 rfl rfl ?_
              refine g_icmp_ge 89 84 C dX5_joined_81 rfl rfl (by omega) (by omega) (fun c81 => ?_) (fun c81 => ?_)
              · skip
                have eb : jT rule x0.2 ((K.2.2.2 s).take (i + 1)) = (jT rule x0.2 ((K.2.2.2 s).take i)) := by rw [ejs, if_neg (by omega)]
                refine g_iload 91 C dX5_joined_89 rfl rfl ?_
                refine g_istore 93 [(4, _), (6, _), (5, _), (0, _), (1, _), (2, _), (3, _)] C dX5_joined_91 (by decide) rfl rfl ?_
                refine g_iinc 96 [(5, _), (4, _), (6, _), (0, _), (1, _), (2, _), (3, _)] C dX5_joined_93 rfl (by decide) rfl rfl ?_
                refine g_goto 18 C dX5_joined_96 rfl ?_
                refine g_loc [(5, _), (4, .int (gi (jT rule x0.2 ((K.2.2.2 s).take (i + 1))))), (0, _), (1, _), (2, _), (3, _)] ⟨rfl, (by rw [eb]; rfl), rfl, rfl, rfl, rfl, trivial⟩ ?_
                exact ih18 (i + 1) (by omega) (by rw [eb]; omega) (by omega)
              · skip
                have eb : jT rule x0.2 ((K.2.2.2 s).take (i + 1)) = y.2 := by rw [ejs, if_pos (by omega)]
                refine g_iload 86 C dX5_joined_84 rfl rfl ?_
                refine g_goto 91 C dX5_joined_86 rfl ?_
                refine g_istore 93 [(4, _), (6, _), (5, _), (0, _), (1, _), (2, _), (3, _)] C dX5_joined_91 (by decide) rfl rfl ?_
                refine g_iinc 96 [(5, _), (4, _), (6, _), (0, _), (1, _), (2, _), (3, _)] C dX5_joined_93 rfl (by decide) rfl rfl ?_
                refine g_goto 18 C dX5_joined_96 rfl ?_
                refine g_loc [(5, _), (4, .int (gi (jT rule x0.2 ((K.2.2.2 s).take (i + 1))))), (0, _), (1, _), (2, _), (3, _)] ⟨rfl, (by rw [eb]; rfl), rfl, rfl, rfl, rfl, trivial⟩ ?_
                exact ih18 (i + 1) (by omega) (by rw [eb]; omega) (by omega)
            · skip
              rw [if_pos (show rule = 0 by omega)] at ejs
              refine g_iload 69 C dX5_joined_67 rfl rfl ?_
              refine g_iload 71 C dX5_joined_69 rfl rfl ?_
              refine g_icmp_le 89 74 C dX5_joined_71 rfl rfl (by omega) (by omega) (fun c71 => ?_) (fun c71 => ?_)
              · skip
                have eb : jT rule x0.2 ((K.2.2.2 s).take (i + 1)) = (jT rule x0.2 ((K.2.2.2 s).take i)) := by rw [ejs, if_neg (by omega)]
                refine g_iload 91 C dX5_joined_89 rfl rfl ?_
                refine g_istore 93 [(4, _), (6, _), (5, _), (0, _), (1, _), (2, _), (3, _)] C dX5_joined_91 (by decide) rfl rfl ?_
                refine g_iinc 96 [(5, _), (4, _), (6, _), (0, _), (1, _), (2, _), (3, _)] C dX5_joined_93 rfl (by decide) rfl rfl ?_
                refine g_goto 18 C dX5_joined_96 rfl ?_
                refine g_loc [(5, _), (4, .int (gi (jT rule x0.2 ((K.2.2.2 s).take (i + 1))))), (0, _), (1, _), (2, _), (3, _)] ⟨rfl, (by rw [eb]; rfl), rfl, rfl, rfl, rfl, trivial⟩ ?_
                exact ih18 (i + 1) (by omega) (by rw [eb]; omega) (by omega)
              · skip
                have eb : jT rule x0.2 ((K.2.2.2 s).take (i + 1)) = y.2 := by rw [ejs, if_pos (by omega)]
                refine g_goto 84 C dX5_joined_74 rfl ?_
                refine g_iload 86 C dX5_joined_84 rfl rfl ?_
                refine g_goto 91 C dX5_joined_86 rfl ?_
                refine g_istore 93 [(4, _), (6, _), (5, _), (0, _), (1, _), (2, _), (3, _)] C dX5_joined_91 (by decide) rfl rfl ?_
                refine g_iinc 96 [(5, _), (4, _), (6, _), (0, _), (1, _), (2, _), (3, _)] C dX5_joined_93 rfl (by decide) rfl rfl ?_
                refine g_goto 18 C dX5_joined_96 rfl ?_
                refine g_loc [(5, _), (4, .int (gi (jT rule x0.2 ((K.2.2.2 s).take (i + 1))))), (0, _), (1, _), (2, _), (3, _)] ⟨rfl, (by rw [eb]; rfl), rfl, rfl, rfl, rfl, trivial⟩ ?_
                exact ih18 (i + 1) (by omega) (by rw [eb]; omega) (by omega)
          · skip
            have eb : jT rule x0.2 ((K.2.2.2 s).take (i + 1)) = (jT rule x0.2 ((K.2.2.2 s).take i)) + y.2 := by rw [ejs, if_neg (show ¬ rule = 0 by omega), if_neg (show ¬ rule = 1 by omega), if_pos (show rule = 2 by omega)]
            refine g_iload 57 C dX5_joined_55 rfl rfl ?_
            refine g_iload 59 C dX5_joined_57 rfl rfl ?_
            refine g_iadd 60 C dX5_joined_59 rfl ?_
            refine g_goto 91 C dX5_joined_60 rfl ?_
            refine g_istore 93 [(4, _), (6, _), (5, _), (0, _), (1, _), (2, _), (3, _)] C dX5_joined_91 (by decide) rfl rfl ?_
            refine g_iinc 96 [(5, _), (4, _), (6, _), (0, _), (1, _), (2, _), (3, _)] C dX5_joined_93 rfl (by decide) rfl rfl ?_
            refine g_goto 18 C dX5_joined_96 rfl ?_
            refine g_loc [(5, _), (4, .int (gi (jT rule x0.2 ((K.2.2.2 s).take (i + 1))))), (0, _), (1, _), (2, _), (3, _)] ⟨rfl, (by rw [eb]; rfl), rfl, rfl, rfl, rfl, trivial⟩ ?_
            exact ih18 (i + 1) (by omega) (by rw [eb]; omega) (by omega)
  refine g_loc [(5, _), (4, _), (0, _), (1, _), (2, _), (3, _)] ⟨rfl, rfl, rfl, rfl, rfl, rfl, trivial⟩ ?_
  refine g_loc [(5, .int (gi ((1 : Nat) : Int))), (4, .int (gi (jT rule x0.2 ((K.2.2.2 s).take 1)))), (0, _), (1, _), (2, _), (3, _)] ⟨rfl, (by rw [jT_1 hx]; rfl), rfl, rfl, rfl, rfl, trivial⟩ ?_
  exact lp18 _ 1 (by omega) (by rw [jT_1 hx]; omega) (Nat.lt_succ_self _)
