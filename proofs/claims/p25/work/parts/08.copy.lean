/-! SiblingJoins$Copy, and the static functions over marks and vectors -/
def gbi (b : Bool) : Int := if b then 1 else 0
theorem gbi_t {b : Bool} (h : b = true) : gbi b = 1 := by rw [h]; rfl
theorem gbi_f {b : Bool} (h : b = false) : gbi b = 0 := by rw [h]; rfl
theorem gbi_0 {b : Bool} (h : gbi b = 0) : b = false := by cases b; rfl; exact absurd h (by decide)
theorem gbi_1 {b : Bool} (h : ¬ gbi b = 0) : b = true := by cases b; exact absurd rfl h; rfl
theorem gbi_r (b : Bool) : -2147483648 ≤ gbi b ∧ gbi b < 2147483648 := by cases b <;> decide
theorem gbi_z (b : Bool) : narrow .boolean (.int (gi (gbi b))) = .int (gi (gbi b)) := by cases b <;> rfl
/-- the vector f covers the mark -/
def cov (f : Int → Int) (mark : Int) : Bool := decide (mark % 1000 ≤ f (mark / 1000))
/-- what a list of siblings is, by rows of marks and values -/
def lst (mk vl : Int → Int) (n : Nat) : List (Int × Int) := (List.range n).map (fun j : Nat => (mk (j : Int), vl (j : Int)))
theorem lst_len {mk vl : Int → Int} {n : Nat} : (lst mk vl n).length = n := by unfold lst; rw [List.length_map, List.length_range]
theorem lst_succ {mk vl : Int → Int} {n : Nat} : lst mk vl (n + 1) = lst mk vl n ++ [(mk (n : Int), vl (n : Int))] := by unfold lst; rw [List.range_succ, List.map_append]; rfl
theorem lst_get {mk vl : Int → Int} {n j : Nat} (h : j < n) : (lst mk vl n)[j]? = some (mk (j : Int), vl (j : Int)) := by unfold lst; rw [List.getElem?_map, List.getElem?_range h]; rfl
theorem lst_mem {mk vl : Int → Int} {n j : Nat} (h : j < n) : (mk (j : Int), vl (j : Int)) ∈ lst mk vl n := List.mem_of_getElem? (lst_get h)
theorem lst_cong {mk vl mk' vl' : Int → Int} {n : Nat} (h : ∀ j : Nat, j < n → mk (j : Int) = mk' (j : Int) ∧ vl (j : Int) = vl' (j : Int)) : lst mk vl n = lst mk' vl' n := by
  unfold lst
  apply List.map_congr_left
  intro j hj
  obtain ⟨h1, h2⟩ := h j (List.mem_range.mp hj)
  rw [h1, h2]
theorem lst_any {mk vl : Int → Int} {n : Nat} {p : Int × Int → Bool} (h : ∀ j : Nat, j < n → p (mk (j : Int), vl (j : Int)) = false) : (lst mk vl n).any p = false := by
  rw [List.any_eq_false]
  intro x hx
  unfold lst at hx
  obtain ⟨j, hj, rfl⟩ := List.mem_map.mp hx
  rw [h j (List.mem_range.mp hj)]
  decide
theorem lst_any1 {mk vl : Int → Int} {n j : Nat} {p : Int × Int → Bool} (h : j < n) (hp : p (mk (j : Int), vl (j : Int)) = true) : (lst mk vl n).any p = true := List.any_eq_true.mpr ⟨_, lst_mem h, hp⟩
theorem lst_ct {mk vl : Int → Int} {n : Nat} {p : Int × Int → Bool} : (((lst mk vl (n + 1)).countP p : Nat) : Int) = ((lst mk vl n).countP p : Int) + gbi (p (mk (n : Int), vl (n : Int))) := by
  rw [lst_succ, List.countP_append]
  cases hp : p (mk (n : Int), vl (n : Int)) <;> simp [gbi, hp]
/-- siblings as they can be -/
def okL (l : List (Int × Int)) : Prop := l.length ≤ 4 ∧ ∀ p ∈ l, 0 ≤ p.1 ∧ p.1 < 5000 ∧ 0 ≤ p.2 ∧ p.2 ≤ 99
def okV (f : Int → Int) : Prop := ∀ i : Int, 0 ≤ i → i < 5 → 0 ≤ f i ∧ f i < 1000
theorem okL_at {mk vl : Int → Int} {l : List (Int × Int)} (hl : l = lst mk vl l.length) (hok : okL l) {j : Nat} (hj : j < l.length) : 0 ≤ mk (j : Int) ∧ mk (j : Int) < 5000 ∧ 0 ≤ vl (j : Int) ∧ vl (j : Int) ≤ 99 := hok.2 _ (by rw [hl]; exact lst_mem hj)
/-- the four cells of a Copy at c -/
def isR (E : gEnv) (h : gH) (c : Nat) (V mk vl : Int → Int) (sz : Int) : Prop := h c = gO 0 [.ref (c + 1), .ref (c + 2), .ref (c + 3), .int (gi sz)] ∧ h (c + 1) = gI E 5 V ∧ h (c + 2) = gI E 4 mk ∧ h (c + 3) = gI E 4 vl
def isC (E : gEnv) (h : gH) (c : Nat) (V : Int → Int) (l : List (Int × Int)) : Prop := ∃ mk vl : Int → Int, l = lst mk vl l.length ∧ isR E h c V mk vl (l.length : Int)
/-- h1 is h but at the addresses from a to b -/
def gKp (a b : Nat) (h h1 : gH) : Prop := ∀ q : Nat, (q < a ∨ b ≤ q) → h1 q = h q
theorem gKp_rf {a b : Nat} {h : gH} : gKp a b h h := fun _ _ => rfl
theorem gKp_tr {a b : Nat} {h h1 h2 : gH} (x : gKp a b h h1) (y : gKp a b h1 h2) : gKp a b h h2 := fun q hq => (y q hq).trans (x q hq)
theorem gKp_wd {a b a' b' : Nat} {h h1 : gH} (x : gKp a b h h1) (h1' : a' ≤ a) (h2' : b ≤ b') : gKp a' b' h h1 := fun q hq => x q (by omega)
theorem gKp_up {a b q : Nat} {h : gH} {e : va_E} (hq : a ≤ q ∧ q < b) : gKp a b h (va_up h q e) := fun x hx => if_neg (by omega)
theorem up_s {h : gH} {q : Nat} {e : va_E} : va_up h q e q = e := if_pos rfl
theorem up_n {h : gH} {q x : Nat} {e : va_E} (hx : x ≠ q) : va_up h q e x = h x := if_neg hx
theorem isR.kept {E : gEnv} {h h1 : gH} {c : Nat} {V mk vl : Int → Int} {sz : Int} (x : isR E h c V mk vl sz) (hk : ∀ q : Nat, c ≤ q → q < c + 4 → h1 q = h q) : isR E h1 c V mk vl sz := ⟨(hk _ (by omega) (by omega)).trans x.1, (hk _ (by omega) (by omega)).trans x.2.1, (hk _ (by omega) (by omega)).trans x.2.2.1, (hk _ (by omega) (by omega)).trans x.2.2.2⟩
theorem isC.kept {E : gEnv} {h h1 : gH} {c : Nat} {V : Int → Int} {l : List (Int × Int)} (x : isC E h c V l) (hk : ∀ q : Nat, c ≤ q → q < c + 4 → h1 q = h q) : isC E h1 c V l := by
  obtain ⟨mk, vl, hl, x⟩ := x
  exact ⟨mk, vl, hl, x.kept hk⟩
theorem isR.mk {E : gEnv} {h : gH} {c : Nat} {V mk vl : Int → Int} {sz : Int} (x : isR E h c V mk vl sz) (mk' : Int → Int) : isR E (va_up h (c + 2) (gI E 4 mk')) c V mk' vl sz := ⟨(up_n (by omega)).trans x.1, (up_n (by omega)).trans x.2.1, up_s, (up_n (by omega)).trans x.2.2.2⟩
theorem isR.vl {E : gEnv} {h : gH} {c : Nat} {V mk vl : Int → Int} {sz : Int} (x : isR E h c V mk vl sz) (vl' : Int → Int) : isR E (va_up h (c + 3) (gI E 4 vl')) c V mk vl' sz := ⟨(up_n (by omega)).trans x.1, (up_n (by omega)).trans x.2.1, (up_n (by omega)).trans x.2.2.1, up_s⟩
theorem isR.V {E : gEnv} {h : gH} {c : Nat} {V mk vl : Int → Int} {sz : Int} (x : isR E h c V mk vl sz) (V' : Int → Int) : isR E (va_up h (c + 1) (gI E 5 V')) c V' mk vl sz := ⟨(up_n (by omega)).trans x.1, up_s, (up_n (by omega)).trans x.2.2.1, (up_n (by omega)).trans x.2.2.2⟩
theorem isR.sz {E : gEnv} {h : gH} {c : Nat} {V mk vl : Int → Int} {sz : Int} (x : isR E h c V mk vl sz) (sz' : Int) : isR E (va_up h c (gO 0 ([.ref (c + 1), .ref (c + 2), .ref (c + 3), .int (gi sz)].set 3 (.int (gi sz'))))) c V mk vl sz' := ⟨up_s, (up_n (by omega)).trans x.2.1, (up_n (by omega)).trans x.2.2.1, (up_n (by omega)).trans x.2.2.2⟩

def hasM (l : List (Int × Int)) (mark : Int) : Bool := l.any (fun p => p.1 == mark)
def drp (V : Int → Int) (l : List (Int × Int)) (mark : Int) : Bool := !(hasM l mark) && cov V mark
def isN (V : Int → Int) (l : List (Int × Int)) (mark : Int) : Bool := !(hasM l mark) && !(cov V mark)
def vmx (f g : Int → Int) : Int → Int := fun j => if f j < g j then g j else f j
def veq (f g : Int → Int) : Bool := (List.range 5).all (fun j : Nat => f (j : Int) == g (j : Int))
theorem veq_t {f g : Int → Int} (h : ∀ j : Nat, j < 5 → f (j : Int) = g (j : Int)) : veq f g = true := by
  unfold veq
  rw [List.all_eq_true]
  intro j hj
  simpa using h j (List.mem_range.mp hj)
theorem veq_f {f g : Int → Int} {j : Nat} (hj : j < 5) (h : ¬ f (j : Int) = g (j : Int)) : veq f g = false := by
  unfold veq
  rw [List.all_eq_false]
  exact ⟨j, List.mem_range.mpr hj, by simpa using h⟩
def mks (l : List (Int × Int)) : List Int := l.map (fun p => p.1)
theorem mks_lst {mk vl : Int → Int} {n : Nat} : mks (lst mk vl n) = (List.range n).map (fun j : Nat => mk (j : Int)) := by unfold mks lst; rw [List.map_map]; rfl
theorem mks_eq {mk vl mk2 vl2 : Int → Int} {n : Nat} (h : ∀ j : Nat, j < n → mk (j : Int) = mk2 (j : Int)) : mks (lst mk vl n) = mks (lst mk2 vl2 n) := by
  rw [mks_lst, mks_lst]
  exact List.map_congr_left fun j hj => h j (List.mem_range.mp hj)
theorem mks_ne {mk vl mk2 vl2 : Int → Int} {n j : Nat} (hj : j < n) (h : ¬ mk (j : Int) = mk2 (j : Int)) : mks (lst mk vl n) ≠ mks (lst mk2 vl2 n) := by
  intro e
  rw [mks_lst, mks_lst] at e
  have := congrArg (fun z => z[j]?) e
  simp only [List.getElem?_map, List.getElem?_range hj, Option.map_some, Option.some.injEq] at this
  exact h this
/-- x put to its place, from the end on -/
def insr (x : Int × Int) (l : List (Int × Int)) : List (Int × Int) := (l.reverse.dropWhile (fun y => decide (x.1 < y.1))).reverse ++ x :: (l.reverse.takeWhile (fun y => decide (x.1 < y.1))).reverse
def ins4 (x : Int × Int) (l : List (Int × Int)) : List (Int × Int) := if l.length < 4 then insr x l else l
theorem insr_len {x : Int × Int} {l : List (Int × Int)} : (insr x l).length = l.length + 1 := by
  have h := congrArg List.length (List.takeWhile_append_dropWhile (p := fun y : Int × Int => decide (x.1 < y.1)) (l := l.reverse))
  rw [List.length_append, List.length_reverse] at h
  unfold insr
  rw [List.length_append, List.length_cons, List.length_reverse, List.length_reverse]
  omega
theorem insr_mem {x y : Int × Int} {l : List (Int × Int)} (h : y ∈ insr x l) : y = x ∨ y ∈ l := by
  unfold insr at h
  rcases List.mem_append.mp h with h | h
  · exact Or.inr (List.mem_reverse.mp ((List.dropWhile_sublist _).subset (List.mem_reverse.mp h)))
  · rcases List.mem_cons.mp h with h | h
    · exact Or.inl h
    · exact Or.inr (List.mem_reverse.mp ((List.takeWhile_sublist _).subset (List.mem_reverse.mp h)))
theorem okL_ins4 {x : Int × Int} {l : List (Int × Int)} (h : okL l) (hx : 0 ≤ x.1 ∧ x.1 < 5000 ∧ 0 ≤ x.2 ∧ x.2 ≤ 99) : okL (ins4 x l) := by
  unfold ins4
  by_cases hl : l.length < 4
  · rw [if_pos hl]
    refine ⟨by rw [insr_len]; omega, fun p hp => ?_⟩
    rcases insr_mem hp with rfl | hp
    · exact hx
    · exact h.2 p hp
  · rw [if_neg hl]
    exact h
theorem okL_sub {l l' : List (Int × Int)} (h : okL l) (hl : l'.length ≤ l.length) (hs : ∀ p ∈ l', p ∈ l) : okL l' := ⟨Nat.le_trans hl h.1, fun p hp => h.2 p (hs p hp)⟩
theorem insr_of {x : Int × Int} {A B : List (Int × Int)} (hB : ∀ y ∈ B, x.1 < y.1) (hA : ∀ y, A.getLast? = some y → ¬ x.1 < y.1) : insr x (A ++ B) = A ++ x :: B := by
  unfold insr
  have e1 : ∀ (C D : List (Int × Int)), (∀ y ∈ C, x.1 < y.1) → (∀ y, D.head? = some y → ¬ x.1 < y.1) → (C ++ D).takeWhile (fun y => decide (x.1 < y.1)) = C ∧ (C ++ D).dropWhile (fun y => decide (x.1 < y.1)) = D := by
    intro C D hC hD
    induction C with
    | nil =>
      cases D with
      | nil => exact ⟨rfl, rfl⟩
      | cons d D =>
        have := hD d rfl
        simp [List.takeWhile, List.dropWhile, this]
    | cons c C ih =>
      obtain ⟨i1, i2⟩ := ih (fun y hy => hC y (List.mem_cons_of_mem _ hy))
      have := hC c List.mem_cons_self
      simp only [List.cons_append, List.takeWhile_cons, List.dropWhile_cons, this, decide_true, if_true, i1, i2, and_self]
  have e2 := e1 B.reverse A.reverse (fun y hy => hB y (List.mem_reverse.mp hy)) (fun y hy => hA y (by rw [List.head?_reverse] at hy; exact hy))
  rw [List.reverse_append, e2.1, e2.2, List.reverse_reverse, List.reverse_reverse]
/-- what a store has after a pull -/
def tkA (V2 : Int → Int) (l l2 : List (Int × Int)) : List (Int × Int) := l.filter (fun p => !(drp V2 l2 p.1))
def tkS (V : Int → Int) (acc : List (Int × Int)) (x : Int × Int) : List (Int × Int) := if isN V acc x.1 then ins4 x acc else acc
def tkL (V V2 : Int → Int) (l l2 : List (Int × Int)) : List (Int × Int) := l2.foldl (tkS V) (tkA V2 l l2)
def mxs (l : List (Int × Int)) (a : Int) : Int := l.foldl (fun a p => if a < p.2 then p.2 else a) a
def mns (l : List (Int × Int)) (a : Int) : Int := l.foldl (fun a p => if p.2 < a then p.2 else a) a
def sms (l : List (Int × Int)) (a : Int) : Int := l.foldl (fun a p => a + p.2) a
/-- the value of a joining: its first sibling's is a -/
def jval (rule a : Int) (l : List (Int × Int)) : Int := if rule = 0 then mxs l a else if rule = 1 then mns l a else if rule = 2 then sms l 0 % 100 else a
theorem lst_erase {mk vl mk' vl' : Int → Int} {n p : Nat} (hp : p < n) (h : ∀ j : Nat, j < n - 1 → mk' (j : Int) = (if j < p then mk (j : Int) else mk ((j + 1 : Nat) : Int)) ∧ vl' (j : Int) = (if j < p then vl (j : Int) else vl ((j + 1 : Nat) : Int))) : (lst mk vl n).eraseIdx p = lst mk' vl' (n - 1) := by
  apply List.ext_getElem?
  intro j
  rw [List.getElem?_eraseIdx]
  by_cases hj : j < n - 1
  · obtain ⟨h1, h2⟩ := h j hj
    rw [lst_get hj, h1, h2]
    by_cases hjp : j < p
    · rw [if_pos hjp, if_pos hjp, if_pos hjp, lst_get (by omega)]
    · rw [if_neg hjp, if_neg hjp, if_neg hjp, lst_get (by omega)]
  · have e : (lst mk' vl' (n - 1))[j]? = none := List.getElem?_eq_none (by rw [lst_len]; omega)
    rw [e]
    by_cases hjp : j < p
    · rw [if_pos hjp]
      exact List.getElem?_eq_none (by rw [lst_len]; omega)
    · rw [if_neg hjp]
      exact List.getElem?_eq_none (by rw [lst_len]; omega)

set_option maxRecDepth 100000 in
set_option maxHeartbeats 4000000 in
theorem c_X4_covers {E : gEnv} {n : Nat} {σ : Option Nat} {h : gH} (a : Nat) (f : Int → Int) (mark : Int) (hb : gB E ≤ a ∧ a < gB E + n) (hq : h a = gI E 5 f) (hm : 0 ≤ mark ∧ mark < 5000) (hf : okV f) : gM E mX4_covers [.ref a, .int (gi mark)] n σ h (gD (some (.int (gi (gbi (cov f mark))))) n σ (fun h9 => h9 = h)) (gNo) := by
  have hw := hf (mark / 1000) (by omega) (by omega)
  refine gM_of (by decide) (Nat.le_of_ble_eq_true rfl) (fun F C => ?_)
  refine g_iload_n 1 C dX4_covers_0 rfl rfl ?_
  refine g_sipush 4 C dX4_covers_1 (by decide) rfl ?_
  refine g_idiv 5 C dX4_covers_4 (by omega) (by omega) rfl ?_
  refine g_istore_n 6 [(2, _), (0, _), (1, _)] C dX4_covers_5 (by decide) rfl rfl ?_
  refine g_iload_n 7 C dX4_covers_6 rfl rfl ?_
  refine g_if_lt 31 10 C dX4_covers_7 rfl rfl (by omega) (fun c7 => ?_) (fun c7 => ?_)
  · skip
    exact absurd c7 (by omega)
  · skip
    refine g_iload_n 11 C dX4_covers_10 rfl rfl ?_
    refine g_aload_n 12 C dX4_covers_11 rfl rfl ?_
    refine g_alen 13 C dX4_covers_12 hb hq rfl rfl rfl ?_
    refine g_icmp_ge 31 16 C dX4_covers_13 rfl rfl (by omega) (by omega) (fun c13 => ?_) (fun c13 => ?_)
    · skip
      exact absurd c13 (by omega)
    · skip
      refine g_aload_n 17 C dX4_covers_16 rfl rfl ?_
      refine g_iload_n 18 C dX4_covers_17 rfl rfl ?_
      refine g_iald 19 C dX4_covers_18 hb hq (by omega) (by decide) rfl ?_
      refine g_iload_n 20 C dX4_covers_19 rfl rfl ?_
      refine g_sipush 23 C dX4_covers_20 (by decide) rfl ?_
      refine g_irem 24 C dX4_covers_23 (by omega) (by omega) rfl ?_
      refine g_icmp_lt 31 27 C dX4_covers_24 rfl rfl (by omega) (by omega) (fun c24 => ?_) (fun c24 => ?_)
      · skip
        have ec := gbi_f (b := cov f mark) (decide_eq_false (by omega))
        refine g_iconst 32 C dX4_covers_31 rfl ?_
        exact g_zret C dX4_covers_32 rfl rfl ⟨by decide, by decide⟩ (by rw [ec]; exact ⟨rfl, rfl, rfl, rfl⟩)
      · skip
        have ec := gbi_t (b := cov f mark) (decide_eq_true (by omega))
        refine g_iconst 28 C dX4_covers_27 rfl ?_
        refine g_goto 32 C dX4_covers_28 rfl ?_
        exact g_zret C dX4_covers_32 rfl rfl ⟨by decide, by decide⟩ (by rw [ec]; exact ⟨rfl, rfl, rfl, rfl⟩)
set_option maxRecDepth 100000 in
set_option maxHeartbeats 4000000 in
theorem c_X4_writerOf {E : gEnv} {n : Nat} {σ : Option Nat} {h : gH} (mark : Int) (hm : 0 ≤ mark ∧ mark < 5000) : gM E mX4_writerOf [.int (gi mark)] n σ h (gD (some (.int (gi (mark / 1000)))) n σ (fun h9 => h9 = h)) (gNo) := by
  refine gM_of (by decide) (Nat.le_of_ble_eq_true rfl) (fun F C => ?_)
  refine g_iload_n 1 C dX4_writerOf_0 rfl rfl ?_
  refine g_sipush 4 C dX4_writerOf_1 (by decide) rfl ?_
  refine g_idiv 5 C dX4_writerOf_4 (by omega) (by omega) rfl ?_
  exact g_iret C dX4_writerOf_5 rfl ⟨by decide, by decide⟩ (⟨rfl, rfl, rfl, rfl⟩)
set_option maxRecDepth 100000 in
set_option maxHeartbeats 4000000 in
theorem c_X4_numberOf {E : gEnv} {n : Nat} {σ : Option Nat} {h : gH} (mark : Int) (hm : 0 ≤ mark ∧ mark < 5000) : gM E mX4_numberOf [.int (gi mark)] n σ h (gD (some (.int (gi (mark % 1000)))) n σ (fun h9 => h9 = h)) (gNo) := by
  refine gM_of (by decide) (Nat.le_of_ble_eq_true rfl) (fun F C => ?_)
  refine g_iload_n 1 C dX4_numberOf_0 rfl rfl ?_
  refine g_sipush 4 C dX4_numberOf_1 (by decide) rfl ?_
  refine g_irem 5 C dX4_numberOf_4 (by omega) (by omega) rfl ?_
  exact g_iret C dX4_numberOf_5 rfl ⟨by decide, by decide⟩ (⟨rfl, rfl, rfl, rfl⟩)
set_option maxRecDepth 100000 in
set_option maxHeartbeats 4000000 in
theorem c_X0_has {E : gEnv} {n : Nat} {σ : Option Nat} {h : gH} (c : Nat) (V : Int → Int) (l : List (Int × Int)) (mark : Int) (hcb : gB E ≤ c ∧ c + 4 ≤ gB E + n) (hC : isC E h c V l) (hok : okL l) (hm : 0 ≤ mark ∧ mark < 5000) : gM E mX0_has [.ref c, .int (gi mark)] n σ h (gD (some (.int (gi (gbi (hasM l mark))))) n σ (fun h9 => h9 = h)) (gNo) := by
  obtain ⟨mk, vl, hl, q⟩ := hC
  have hlen := hok.1
  refine gM_of (by decide) (Nat.le_of_ble_eq_true rfl) (fun F C => ?_)
  refine g_iconst 1 C dX0_has_0 rfl ?_
  refine g_istore_n 2 [(2, _), (0, _), (1, _)] C dX0_has_1 (by decide) rfl rfl ?_
  have lp2 : ∀ (k9 : Nat) (i : Nat), i ≤ l.length → (∀ j : Nat, j < i → ¬ mk (j : Int) = mark) → l.length - i < k9 → G E F mX0_has (gQ E F mX0_has n (gD (some (.int (gi (gbi (hasM l mark))))) n σ (fun h9 => h9 = h)) (gNo)) n σ h 0 0 2 [(2, .int (gi (i : Int))), (0, .ref c), (1, .int (gi mark))] [] := by
    intro k9
    induction k9 with
    | zero => intro i hi hno h0; exact absurd h0 (Nat.not_lt_zero _)
    | succ k9 ih2 =>
      intro i hi hno hk2
      refine g_iload_n 3 C dX0_has_2 rfl rfl ?_
      refine g_aload_n 4 C dX0_has_3 rfl rfl ?_
      refine g_getf 7 C dX0_has_4 fl_RX0_27 rfl (by omega) q.1 rfl rfl ?_
      refine g_icmp_ge 28 10 C dX0_has_7 rfl rfl (by omega) (by omega) (fun c7 => ?_) (fun c7 => ?_)
      · skip
        refine g_iconst 29 C dX0_has_28 rfl ?_
        exact g_zret C dX0_has_29 rfl rfl ⟨by decide, by decide⟩ (by rw [gbi_f (show hasM l mark = false by unfold hasM; rw [hl]; exact lst_any (fun j hj => by simpa using hno j (by omega)))]; exact ⟨rfl, rfl, rfl, rfl⟩)
      · skip
        have hv := okL_at hl hok (j := i) (by omega)
        refine g_aload_n 11 C dX0_has_10 rfl rfl ?_
        refine g_getf 14 C dX0_has_11 fl_RX0_15 rfl (by omega) q.1 rfl rfl ?_
        refine g_iload_n 15 C dX0_has_14 rfl rfl ?_
        refine g_iald 16 C dX0_has_15 (by omega) q.2.2.1 (by omega) (by decide) rfl ?_
        refine g_iload_n 17 C dX0_has_16 rfl rfl ?_
        refine g_icmp_ne 22 20 C dX0_has_17 rfl rfl (by omega) (by omega) (fun c17 => ?_) (fun c17 => ?_)
        · skip
          refine g_iinc 25 [(2, _), (0, _), (1, _)] C dX0_has_22 rfl (by decide) rfl rfl ?_
          refine g_goto 2 C dX0_has_25 rfl ?_
          refine g_loc [(2, _), (0, _), (1, _)] ⟨rfl, rfl, rfl, trivial⟩ ?_
          exact ih2 (i + 1) (by omega) (fun j hj => by rcases Nat.lt_or_ge j i with z | z; exact hno j z; rw [show j = i by omega]; exact c17) (by omega)
        · skip
          refine g_iconst 21 C dX0_has_20 rfl ?_
          exact g_zret C dX0_has_21 rfl rfl ⟨by decide, by decide⟩ (by rw [gbi_t (show hasM l mark = true by unfold hasM; rw [hl]; exact lst_any1 (j := i) (by omega) (by simpa using c17))]; exact ⟨rfl, rfl, rfl, rfl⟩)
  refine g_loc [(2, _), (0, _), (1, _)] ⟨rfl, rfl, rfl, trivial⟩ ?_
  exact lp2 _ 0 (Nat.zero_le _) (fun j hj => absurd hj (Nat.not_lt_zero _)) (Nat.lt_succ_self _)
set_option maxRecDepth 100000 in
set_option maxHeartbeats 4000000 in
theorem c_X0_hasOneOf {E : gEnv} {n : Nat} {σ : Option Nat} {h : gH} (c : Nat) (V : Int → Int) (l : List (Int × Int)) (w : Int) (hcb : gB E ≤ c ∧ c + 4 ≤ gB E + n) (hC : isC E h c V l) (hok : okL l) (hm : 0 ≤ w ∧ w < 5) : gM E mX0_hasOneOf [.ref c, .int (gi w)] n σ h (gD (some (.int (gi (gbi (l.any (fun p => p.1 / 1000 == w)))))) n σ (fun h9 => h9 = h)) (gNo) := by
  obtain ⟨mk, vl, hl, q⟩ := hC
  have hlen := hok.1
  refine gM_of (by decide) (Nat.le_of_ble_eq_true rfl) (fun F C => ?_)
  refine g_iconst 1 C dX0_hasOneOf_0 rfl ?_
  refine g_istore_n 2 [(2, _), (0, _), (1, _)] C dX0_hasOneOf_1 (by decide) rfl rfl ?_
  have lp2 : ∀ (k9 : Nat) (i : Nat), i ≤ l.length → (∀ j : Nat, j < i → ¬ mk (j : Int) / 1000 = w) → l.length - i < k9 → G E F mX0_hasOneOf (gQ E F mX0_hasOneOf n (gD (some (.int (gi (gbi (l.any (fun p => p.1 / 1000 == w)))))) n σ (fun h9 => h9 = h)) (gNo)) n σ h 0 0 2 [(2, .int (gi (i : Int))), (0, .ref c), (1, .int (gi w))] [] := by
    intro k9
    induction k9 with
    | zero => intro i hi hno h0; exact absurd h0 (Nat.not_lt_zero _)
    | succ k9 ih2 =>
      intro i hi hno hk2
      refine g_iload_n 3 C dX0_hasOneOf_2 rfl rfl ?_
      refine g_aload_n 4 C dX0_hasOneOf_3 rfl rfl ?_
      refine g_getf 7 C dX0_hasOneOf_4 fl_RX0_27 rfl (by omega) q.1 rfl rfl ?_
      refine g_icmp_ge 31 10 C dX0_hasOneOf_7 rfl rfl (by omega) (by omega) (fun c7 => ?_) (fun c7 => ?_)
      · skip
        refine g_iconst 32 C dX0_hasOneOf_31 rfl ?_
        exact g_zret C dX0_hasOneOf_32 rfl rfl ⟨by decide, by decide⟩ (by rw [gbi_f (show l.any (fun p => p.1 / 1000 == w) = false by rw [hl]; exact lst_any (fun j hj => by simpa using hno j (by omega)))]; exact ⟨rfl, rfl, rfl, rfl⟩)
      · skip
        have hv := okL_at hl hok (j := i) (by omega)
        refine g_aload_n 11 C dX0_hasOneOf_10 rfl rfl ?_
        refine g_getf 14 C dX0_hasOneOf_11 fl_RX0_15 rfl (by omega) q.1 rfl rfl ?_
        refine g_iload_n 15 C dX0_hasOneOf_14 rfl rfl ?_
        refine g_iald 16 C dX0_hasOneOf_15 (by omega) q.2.2.1 (by omega) (by decide) rfl ?_
        refine g_SN1r 19 0 0 C dX0_hasOneOf_16 rfl ln_RX0_31 gs_X4_writerOf ⟨⟨by decide, by decide⟩, by decide, by decide⟩ (Nat.le_of_ble_eq_true rfl) rfl rfl rfl (c_X4_writerOf (mk (i : Int)) (by omega)) g_no (fun h9 e16 => ?_)
        subst e16
        refine g_iload_n 20 C dX0_hasOneOf_19 rfl rfl ?_
        refine g_icmp_ne 25 23 C dX0_hasOneOf_20 rfl rfl (by omega) (by omega) (fun c20 => ?_) (fun c20 => ?_)
        · skip
          refine g_iinc 28 [(2, _), (0, _), (1, _)] C dX0_hasOneOf_25 rfl (by decide) rfl rfl ?_
          refine g_goto 2 C dX0_hasOneOf_28 rfl ?_
          refine g_loc [(2, _), (0, _), (1, _)] ⟨rfl, rfl, rfl, trivial⟩ ?_
          exact ih2 (i + 1) (by omega) (fun j hj => by rcases Nat.lt_or_ge j i with z | z; exact hno j z; rw [show j = i by omega]; exact c20) (by omega)
        · skip
          refine g_iconst 24 C dX0_hasOneOf_23 rfl ?_
          exact g_zret C dX0_hasOneOf_24 rfl rfl ⟨by decide, by decide⟩ (by rw [gbi_t (show l.any (fun p => p.1 / 1000 == w) = true by rw [hl]; exact lst_any1 (j := i) (by omega) (by simpa using c20))]; exact ⟨rfl, rfl, rfl, rfl⟩)
  refine g_loc [(2, _), (0, _), (1, _)] ⟨rfl, rfl, rfl, trivial⟩ ?_
  exact lp2 _ 0 (Nat.zero_le _) (fun j hj => absurd hj (Nat.not_lt_zero _)) (Nat.lt_succ_self _)
set_option maxRecDepth 100000 in
set_option maxHeartbeats 4000000 in
theorem c_X0_coveredBy {E : gEnv} {n : Nat} {σ : Option Nat} {h : gH} (c : Nat) (V : Int → Int) (l : List (Int × Int)) (a : Nat) (f : Int → Int) (hcb : gB E ≤ c ∧ c + 4 ≤ gB E + n) (hC : isC E h c V l) (hok : okL l) (hab : gB E ≤ a ∧ a < gB E + n) (ha : h a = gI E 5 f) (hf : okV f) : gM E mX0_coveredBy [.ref c, .ref a] n σ h (gD (some (.int (gi (l.countP (fun p => cov f p.1) : Int)))) n σ (fun h9 => h9 = h)) (gNo) := by
  obtain ⟨mk, vl, hl, q⟩ := hC
  have hlen := hok.1
  refine gM_of (by decide) (Nat.le_of_ble_eq_true rfl) (fun F C => ?_)
  refine g_iconst 1 C dX0_coveredBy_0 rfl ?_
  refine g_istore_n 2 [(2, _), (0, _), (1, _)] C dX0_coveredBy_1 (by decide) rfl rfl ?_
  refine g_iconst 3 C dX0_coveredBy_2 rfl ?_
  refine g_istore_n 4 [(3, _), (2, _), (0, _), (1, _)] C dX0_coveredBy_3 (by decide) rfl rfl ?_
  have lp4 : ∀ (k9 : Nat) (i : Nat), i ≤ l.length → l.length - i < k9 → G E F mX0_coveredBy (gQ E F mX0_coveredBy n (gD (some (.int (gi (l.countP (fun p => cov f p.1) : Int)))) n σ (fun h9 => h9 = h)) (gNo)) n σ h 0 0 4 [(3, .int (gi (i : Int))), (2, .int (gi ((lst mk vl i).countP (fun p => cov f p.1) : Int))), (0, .ref c), (1, .ref a)] [] := by
    intro k9
    induction k9 with
    | zero => intro i hi h0; exact absurd h0 (Nat.not_lt_zero _)
    | succ k9 ih4 =>
      intro i hi hk4
      refine g_iload_n 5 C dX0_coveredBy_4 rfl rfl ?_
      refine g_aload_n 6 C dX0_coveredBy_5 rfl rfl ?_
      refine g_getf 9 C dX0_coveredBy_6 fl_RX0_27 rfl (by omega) q.1 rfl rfl ?_
      refine g_icmp_ge 34 12 C dX0_coveredBy_9 rfl rfl (by omega) (by omega) (fun c9 => ?_) (fun c9 => ?_)
      · skip
        refine g_iload_n 35 C dX0_coveredBy_34 rfl rfl ?_
        exact g_iret C dX0_coveredBy_35 rfl ⟨by decide, by decide⟩ (by rw [show i = l.length by omega, ← hl]; exact ⟨rfl, rfl, rfl, rfl⟩)
      · skip
        have hv := okL_at hl hok (j := i) (by omega)
        have hcl := List.countP_le_length (p := fun p : Int × Int => cov f p.1) (l := lst mk vl i)
        rw [lst_len] at hcl
        refine g_aload_n 13 C dX0_coveredBy_12 rfl rfl ?_
        refine g_aload_n 14 C dX0_coveredBy_13 rfl rfl ?_
        refine g_getf 17 C dX0_coveredBy_14 fl_RX0_15 rfl (by omega) q.1 rfl rfl ?_
        refine g_iload_n 18 C dX0_coveredBy_17 rfl rfl ?_
        refine g_iald 19 C dX0_coveredBy_18 (by omega) q.2.2.1 (by omega) (by decide) rfl ?_
        refine g_SN2r 22 0 0 C dX0_coveredBy_19 rfl ln_RX0_35 gs_X4_covers ⟨⟨by decide, by decide⟩, by decide, by decide⟩ (Nat.le_of_ble_eq_true rfl) rfl rfl rfl (c_X4_covers a f (mk (i : Int)) hab ha (by omega) hf) g_no (fun h9 e19 => ?_)
        subst e19
        refine g_if_eq 28 25 C dX0_coveredBy_22 rfl rfl (gbi_r _) (fun c22 => ?_) (fun c22 => ?_)
        · skip
          have hb9 := gbi_f (gbi_0 c22)
          refine g_iinc 31 [(3, _), (2, _), (0, _), (1, _)] C dX0_coveredBy_28 rfl (by decide) rfl rfl ?_
          refine g_goto 4 C dX0_coveredBy_31 rfl ?_
          refine g_loc [(3, _), (2, .int (gi ((lst mk vl (i + 1)).countP (fun p => cov f p.1) : Int))), (0, _), (1, _)] ⟨rfl, (by rw [lst_ct, hb9]; first | rfl | (rw [Int.add_zero]; rfl)), rfl, rfl, trivial⟩ ?_
          exact ih4 (i + 1) (by omega) (by omega)
        · skip
          have hb9 := gbi_t (gbi_1 c22)
          refine g_iinc 28 [(2, _), (3, _), (0, _), (1, _)] C dX0_coveredBy_25 rfl (by decide) rfl rfl ?_
          refine g_iinc 31 [(3, _), (2, _), (0, _), (1, _)] C dX0_coveredBy_28 rfl (by decide) rfl rfl ?_
          refine g_goto 4 C dX0_coveredBy_31 rfl ?_
          refine g_loc [(3, _), (2, .int (gi ((lst mk vl (i + 1)).countP (fun p => cov f p.1) : Int))), (0, _), (1, _)] ⟨rfl, (by rw [lst_ct, hb9]; first | rfl | (rw [Int.add_zero]; rfl)), rfl, rfl, trivial⟩ ?_
          exact ih4 (i + 1) (by omega) (by omega)
  refine g_loc [(3, _), (2, _), (0, _), (1, _)] ⟨rfl, rfl, rfl, rfl, trivial⟩ ?_
  exact lp4 _ 0 (Nat.zero_le _) (Nat.lt_succ_self _)
set_option maxRecDepth 100000 in
set_option maxHeartbeats 4000000 in
theorem c_X0_hasSameSiblings {E : gEnv} {n : Nat} {σ : Option Nat} {h : gH} (c : Nat) (V : Int → Int) (l : List (Int × Int)) (d : Nat) (V2 : Int → Int) (l2 : List (Int × Int)) (hcb : gB E ≤ c ∧ c + 4 ≤ gB E + n) (hC : isC E h c V l) (hok : okL l) (hdb : gB E ≤ d ∧ d + 4 ≤ gB E + n) (hD : isC E h d V2 l2) (hok2 : okL l2)  : gM E mX0_hasSameSiblings [.ref c, .ref d] n σ h (gD (some (.int (gi (gbi (decide (mks l = mks l2)))))) n σ (fun h9 => h9 = h)) (gNo) := by
  obtain ⟨mk, vl, hl, q⟩ := hC
  have hlen := hok.1
  obtain ⟨mk2, vl2, hl2, q2⟩ := hD
  have hlen2 := hok2.1
  refine gM_of (by decide) (Nat.le_of_ble_eq_true rfl) (fun F C => ?_)
  refine g_aload_n 1 C dX0_hasSameSiblings_0 rfl rfl ?_
  refine g_getf 4 C dX0_hasSameSiblings_1 fl_RX0_27 rfl (by omega) q.1 rfl rfl ?_
  refine g_aload_n 5 C dX0_hasSameSiblings_4 rfl rfl ?_
  refine g_getf 8 C dX0_hasSameSiblings_5 fl_RX0_27 rfl (by omega) q2.1 rfl rfl ?_
  refine g_icmp_eq 13 11 C dX0_hasSameSiblings_8 rfl rfl (by omega) (by omega) (fun c8 => ?_) (fun c8 => ?_)
  · skip
    have hll : l.length = l2.length := by omega
    refine g_iconst 14 C dX0_hasSameSiblings_13 rfl ?_
    refine g_istore_n 15 [(2, _), (0, _), (1, _)] C dX0_hasSameSiblings_14 (by decide) rfl rfl ?_
    have lp15 : ∀ (k9 : Nat) (i : Nat), i ≤ l.length → (∀ j : Nat, j < i → mk (j : Int) = mk2 (j : Int)) → l.length - i < k9 → G E F mX0_hasSameSiblings (gQ E F mX0_hasSameSiblings n (gD (some (.int (gi (gbi (decide (mks l = mks l2)))))) n σ (fun h9 => h9 = h)) (gNo)) n σ h 0 0 15 [(2, .int (gi (i : Int))), (0, .ref c), (1, .ref d)] [] := by
      intro k9
      induction k9 with
      | zero => intro i hi hno h0; exact absurd h0 (Nat.not_lt_zero _)
      | succ k9 ih15 =>
        intro i hi hno hk15
        refine g_iload_n 16 C dX0_hasSameSiblings_15 rfl rfl ?_
        refine g_aload_n 17 C dX0_hasSameSiblings_16 rfl rfl ?_
        refine g_getf 20 C dX0_hasSameSiblings_17 fl_RX0_27 rfl (by omega) q.1 rfl rfl ?_
        refine g_icmp_ge 46 23 C dX0_hasSameSiblings_20 rfl rfl (by omega) (by omega) (fun c20 => ?_) (fun c20 => ?_)
        · skip
          refine g_iconst 47 C dX0_hasSameSiblings_46 rfl ?_
          exact g_zret C dX0_hasSameSiblings_47 rfl rfl ⟨by decide, by decide⟩ (by rw [gbi_t (decide_eq_true (by rw [hl, hl2, ← hll]; exact mks_eq (fun j hj => hno j (by omega))))]; exact ⟨rfl, rfl, rfl, rfl⟩)
        · skip
          have hv := okL_at hl hok (j := i) (by omega)
          have hv2 := okL_at hl2 hok2 (j := i) (by omega)
          refine g_aload_n 24 C dX0_hasSameSiblings_23 rfl rfl ?_
          refine g_getf 27 C dX0_hasSameSiblings_24 fl_RX0_15 rfl (by omega) q.1 rfl rfl ?_
          refine g_iload_n 28 C dX0_hasSameSiblings_27 rfl rfl ?_
          refine g_iald 29 C dX0_hasSameSiblings_28 (by omega) q.2.2.1 (by omega) (by decide) rfl ?_
          refine g_aload_n 30 C dX0_hasSameSiblings_29 rfl rfl ?_
          refine g_getf 33 C dX0_hasSameSiblings_30 fl_RX0_15 rfl (by omega) q2.1 rfl rfl ?_
          refine g_iload_n 34 C dX0_hasSameSiblings_33 rfl rfl ?_
          refine g_iald 35 C dX0_hasSameSiblings_34 (by omega) q2.2.2.1 (by omega) (by decide) rfl ?_
          refine g_icmp_eq 40 38 C dX0_hasSameSiblings_35 rfl rfl (by omega) (by omega) (fun c35 => ?_) (fun c35 => ?_)
          · skip
            refine g_iinc 43 [(2, _), (0, _), (1, _)] C dX0_hasSameSiblings_40 rfl (by decide) rfl rfl ?_
            refine g_goto 15 C dX0_hasSameSiblings_43 rfl ?_
            refine g_loc [(2, _), (0, _), (1, _)] ⟨rfl, rfl, rfl, trivial⟩ ?_
            exact ih15 (i + 1) (by omega) (fun j hj => by rcases Nat.lt_or_ge j i with z | z; exact hno j z; rw [show j = i by omega]; exact c35) (by omega)
          · skip
            refine g_iconst 39 C dX0_hasSameSiblings_38 rfl ?_
            exact g_zret C dX0_hasSameSiblings_39 rfl rfl ⟨by decide, by decide⟩ (by rw [gbi_f (decide_eq_false (by rw [hl, hl2, ← hll]; exact mks_ne (j := i) (by omega) c35))]; exact ⟨rfl, rfl, rfl, rfl⟩)
    refine g_loc [(2, _), (0, _), (1, _)] ⟨rfl, rfl, rfl, trivial⟩ ?_
    exact lp15 _ 0 (Nat.zero_le _) (fun j hj => absurd hj (Nat.not_lt_zero _)) (Nat.lt_succ_self _)
  · skip
    refine g_iconst 12 C dX0_hasSameSiblings_11 rfl ?_
    exact g_zret C dX0_hasSameSiblings_12 rfl rfl ⟨by decide, by decide⟩ (by rw [gbi_f (decide_eq_false (fun e => c8 (by have e9 := congrArg List.length e; unfold mks at e9; rw [List.length_map, List.length_map] at e9; omega)))]; exact ⟨rfl, rfl, rfl, rfl⟩)
set_option maxRecDepth 100000 in
set_option maxHeartbeats 4000000 in
theorem c_X0_hasDropped {E : gEnv} {n : Nat} {σ : Option Nat} {h : gH} (c : Nat) (V : Int → Int) (l : List (Int × Int)) (mark : Int) (hcb : gB E ≤ c ∧ c + 4 ≤ gB E + n) (hC : isC E h c V l) (hok : okL l) (hm : 0 ≤ mark ∧ mark < 5000) (hV : okV V)  : gM E mX0_hasDropped [.ref c, .int (gi mark)] n σ h (gD (some (.int (gi (gbi (drp V l mark))))) n σ (fun h9 => h9 = h)) (gNo) := by
  have hC9 := hC
  obtain ⟨mk, vl, hl, q⟩ := hC
  have hlen := hok.1
  refine gM_of (by decide) (Nat.le_of_ble_eq_true rfl) (fun F C => ?_)
  refine g_aload_n 1 C dX0_hasDropped_0 rfl rfl ?_
  refine g_iload_n 2 C dX0_hasDropped_1 rfl rfl ?_
  refine g_V1r 5 0 0 C dX0_hasDropped_2 rfl lk_RX0_39 gi_X0_has gv_X0_has ⟨_, _, rfl⟩ (by omega) q.1 ⟨⟨by decide, by decide⟩, by decide, by decide⟩ (Nat.le_of_ble_eq_true rfl) rfl rfl rfl (c_X0_has c V l mark hcb hC9 hok hm) g_no (fun h9 e2 => ?_)
  subst e2
  refine g_if_ne 23 8 C dX0_hasDropped_5 rfl rfl (gbi_r _) (fun c5 => ?_) (fun c5 => ?_)
  · skip
    have ec := gbi_f (b := drp V l mark) (by unfold drp; rw [gbi_1 c5]; rfl)
    refine g_iconst 24 C dX0_hasDropped_23 rfl ?_
    exact g_zret C dX0_hasDropped_24 rfl rfl ⟨by decide, by decide⟩ (by rw [ec]; exact ⟨rfl, rfl, rfl, rfl⟩)
  · skip
    have c5 := gbi_0 (c5)
    refine g_aload_n 9 C dX0_hasDropped_8 rfl rfl ?_
    refine g_getf 12 C dX0_hasDropped_9 fl_RX0_9 rfl (by omega) q.1 rfl rfl ?_
    refine g_iload_n 13 C dX0_hasDropped_12 rfl rfl ?_
    refine g_SN2r 16 0 0 C dX0_hasDropped_13 rfl ln_RX0_35 gs_X4_covers ⟨⟨by decide, by decide⟩, by decide, by decide⟩ (Nat.le_of_ble_eq_true rfl) rfl rfl rfl (c_X4_covers (c + 1) V mark (by omega) q.2.1 hm hV) g_no (fun h9 e13 => ?_)
    subst e13
    refine g_if_eq 23 19 C dX0_hasDropped_16 rfl rfl (gbi_r _) (fun c16 => ?_) (fun c16 => ?_)
    · skip
      have ec := gbi_f (b := drp V l mark) (by unfold drp; rw [c5, gbi_0 c16]; rfl)
      refine g_iconst 24 C dX0_hasDropped_23 rfl ?_
      exact g_zret C dX0_hasDropped_24 rfl rfl ⟨by decide, by decide⟩ (by rw [ec]; exact ⟨rfl, rfl, rfl, rfl⟩)
    · skip
      have ec := gbi_t (b := drp V l mark) (by unfold drp; rw [c5, gbi_1 c16]; rfl)
      refine g_iconst 20 C dX0_hasDropped_19 rfl ?_
      refine g_goto 24 C dX0_hasDropped_20 rfl ?_
      exact g_zret C dX0_hasDropped_24 rfl rfl ⟨by decide, by decide⟩ (by rw [ec]; exact ⟨rfl, rfl, rfl, rfl⟩)
set_option maxRecDepth 100000 in
set_option maxHeartbeats 4000000 in
theorem c_X0_isNew {E : gEnv} {n : Nat} {σ : Option Nat} {h : gH} (c : Nat) (V : Int → Int) (l : List (Int × Int)) (mark : Int) (hcb : gB E ≤ c ∧ c + 4 ≤ gB E + n) (hC : isC E h c V l) (hok : okL l) (hm : 0 ≤ mark ∧ mark < 5000) (hV : okV V)  : gM E mX0_isNew [.ref c, .int (gi mark)] n σ h (gD (some (.int (gi (gbi (isN V l mark))))) n σ (fun h9 => h9 = h)) (gNo) := by
  have hC9 := hC
  obtain ⟨mk, vl, hl, q⟩ := hC
  have hlen := hok.1
  refine gM_of (by decide) (Nat.le_of_ble_eq_true rfl) (fun F C => ?_)
  refine g_aload_n 1 C dX0_isNew_0 rfl rfl ?_
  refine g_iload_n 2 C dX0_isNew_1 rfl rfl ?_
  refine g_V1r 5 0 0 C dX0_isNew_2 rfl lk_RX0_39 gi_X0_has gv_X0_has ⟨_, _, rfl⟩ (by omega) q.1 ⟨⟨by decide, by decide⟩, by decide, by decide⟩ (Nat.le_of_ble_eq_true rfl) rfl rfl rfl (c_X0_has c V l mark hcb hC9 hok hm) g_no (fun h9 e2 => ?_)
  subst e2
  refine g_if_ne 23 8 C dX0_isNew_5 rfl rfl (gbi_r _) (fun c5 => ?_) (fun c5 => ?_)
  · skip
    have ec := gbi_f (b := isN V l mark) (by unfold isN; rw [gbi_1 c5]; rfl)
    refine g_iconst 24 C dX0_isNew_23 rfl ?_
    exact g_zret C dX0_isNew_24 rfl rfl ⟨by decide, by decide⟩ (by rw [ec]; exact ⟨rfl, rfl, rfl, rfl⟩)
  · skip
    have c5 := gbi_0 (c5)
    refine g_aload_n 9 C dX0_isNew_8 rfl rfl ?_
    refine g_getf 12 C dX0_isNew_9 fl_RX0_9 rfl (by omega) q.1 rfl rfl ?_
    refine g_iload_n 13 C dX0_isNew_12 rfl rfl ?_
    refine g_SN2r 16 0 0 C dX0_isNew_13 rfl ln_RX0_35 gs_X4_covers ⟨⟨by decide, by decide⟩, by decide, by decide⟩ (Nat.le_of_ble_eq_true rfl) rfl rfl rfl (c_X4_covers (c + 1) V mark (by omega) q.2.1 hm hV) g_no (fun h9 e13 => ?_)
    subst e13
    refine g_if_ne 23 19 C dX0_isNew_16 rfl rfl (gbi_r _) (fun c16 => ?_) (fun c16 => ?_)
    · skip
      have ec := gbi_f (b := isN V l mark) (by unfold isN; rw [c5, gbi_1 c16]; rfl)
      refine g_iconst 24 C dX0_isNew_23 rfl ?_
      exact g_zret C dX0_isNew_24 rfl rfl ⟨by decide, by decide⟩ (by rw [ec]; exact ⟨rfl, rfl, rfl, rfl⟩)
    · skip
      have ec := gbi_t (b := isN V l mark) (by unfold isN; rw [c5, gbi_0 (c16)]; rfl)
      refine g_iconst 20 C dX0_isNew_19 rfl ?_
      refine g_goto 24 C dX0_isNew_20 rfl ?_
      exact g_zret C dX0_isNew_24 rfl rfl ⟨by decide, by decide⟩ (by rw [ec]; exact ⟨rfl, rfl, rfl, rfl⟩)
set_option maxRecDepth 100000 in
set_option maxHeartbeats 4000000 in
theorem c_X0_lostTo {E : gEnv} {n : Nat} {σ : Option Nat} {h : gH} (c : Nat) (V : Int → Int) (l : List (Int × Int)) (d : Nat) (V2 : Int → Int) (l2 : List (Int × Int)) (hcb : gB E ≤ c ∧ c + 4 ≤ gB E + n) (hC : isC E h c V l) (hok : okL l) (hdb : gB E ≤ d ∧ d + 4 ≤ gB E + n) (hD : isC E h d V2 l2) (hok2 : okL l2) (hV : okV V) (hV2 : okV V2) : gM E mX0_lostTo [.ref c, .ref d] n σ h (gD (some (.int (gi (l.countP (fun p : Int × Int => drp V2 l2 p.1) : Int)))) n σ (fun h9 => h9 = h)) (gNo) := by
  have hC9 := hC
  have hD9 := hD
  obtain ⟨mk, vl, hl, q⟩ := hC
  have hlen := hok.1
  obtain ⟨mk2, vl2, hl2, q2⟩ := hD
  have hlen2 := hok2.1
  refine gM_of (by decide) (Nat.le_of_ble_eq_true rfl) (fun F C => ?_)
  refine g_iconst 1 C dX0_lostTo_0 rfl ?_
  refine g_istore_n 2 [(2, _), (0, _), (1, _)] C dX0_lostTo_1 (by decide) rfl rfl ?_
  refine g_iconst 3 C dX0_lostTo_2 rfl ?_
  refine g_istore_n 4 [(3, _), (2, _), (0, _), (1, _)] C dX0_lostTo_3 (by decide) rfl rfl ?_
  have lp4 : ∀ (k9 : Nat) (i : Nat), i ≤ l.length → l.length - i < k9 → G E F mX0_lostTo (gQ E F mX0_lostTo n (gD (some (.int (gi (l.countP (fun p : Int × Int => drp V2 l2 p.1) : Int)))) n σ (fun h9 => h9 = h)) (gNo)) n σ h 0 0 4 [(3, .int (gi (i : Int))), (2, .int (gi ((lst mk vl i).countP (fun p : Int × Int => drp V2 l2 p.1) : Int))), (0, .ref c), (1, .ref d)] [] := by
    intro k9
    induction k9 with
    | zero => intro i hi h0; exact absurd h0 (Nat.not_lt_zero _)
    | succ k9 ih4 =>
      intro i hi hk4
      refine g_iload_n 5 C dX0_lostTo_4 rfl rfl ?_
      refine g_aload_n 6 C dX0_lostTo_5 rfl rfl ?_
      refine g_getf 9 C dX0_lostTo_6 fl_RX0_27 rfl (by omega) q.1 rfl rfl ?_
      refine g_icmp_ge 34 12 C dX0_lostTo_9 rfl rfl (by omega) (by omega) (fun c9 => ?_) (fun c9 => ?_)
      · skip
        refine g_iload_n 35 C dX0_lostTo_34 rfl rfl ?_
        exact g_iret C dX0_lostTo_35 rfl ⟨by decide, by decide⟩ (by rw [show i = l.length by omega, ← hl]; exact ⟨rfl, rfl, rfl, rfl⟩)
      · skip
        have hv := okL_at hl hok (j := i) (by omega)
        have hcl := List.countP_le_length (p := (fun p : Int × Int => drp V2 l2 p.1)) (l := lst mk vl i)
        rw [lst_len] at hcl
        refine g_aload_n 13 C dX0_lostTo_12 rfl rfl ?_
        refine g_aload_n 14 C dX0_lostTo_13 rfl rfl ?_
        refine g_getf 17 C dX0_lostTo_14 fl_RX0_15 rfl (by omega) q.1 rfl rfl ?_
        refine g_iload_n 18 C dX0_lostTo_17 rfl rfl ?_
        refine g_iald 19 C dX0_lostTo_18 (by omega) q.2.2.1 (by omega) (by decide) rfl ?_
        refine g_V1r 22 0 0 C dX0_lostTo_19 rfl lk_RX0_43 gi_X0_hasDropped gv_X0_hasDropped ⟨_, _, rfl⟩ (by omega) q2.1 ⟨⟨by decide, by decide⟩, by decide, by decide⟩ (Nat.le_of_ble_eq_true rfl) rfl rfl rfl (c_X0_hasDropped d V2 l2 (mk (i : Int)) hdb hD9 hok2 (by omega) hV2) g_no (fun h9 e19 => ?_)
        subst e19
        refine g_if_eq 28 25 C dX0_lostTo_22 rfl rfl (gbi_r _) (fun c22 => ?_) (fun c22 => ?_)
        · skip
          have hb9 := gbi_f (gbi_0 c22)
          refine g_iinc 31 [(3, _), (2, _), (0, _), (1, _)] C dX0_lostTo_28 rfl (by decide) rfl rfl ?_
          refine g_goto 4 C dX0_lostTo_31 rfl ?_
          refine g_loc [(3, _), (2, .int (gi ((lst mk vl (i + 1)).countP (fun p : Int × Int => drp V2 l2 p.1) : Int))), (0, _), (1, _)] ⟨rfl, (by rw [lst_ct, hb9]; first | rfl | (rw [Int.add_zero]; rfl)), rfl, rfl, trivial⟩ ?_
          exact ih4 (i + 1) (by omega) (by omega)
        · skip
          have hb9 := gbi_t (gbi_1 c22)
          refine g_iinc 28 [(2, _), (3, _), (0, _), (1, _)] C dX0_lostTo_25 rfl (by decide) rfl rfl ?_
          refine g_iinc 31 [(3, _), (2, _), (0, _), (1, _)] C dX0_lostTo_28 rfl (by decide) rfl rfl ?_
          refine g_goto 4 C dX0_lostTo_31 rfl ?_
          refine g_loc [(3, _), (2, .int (gi ((lst mk vl (i + 1)).countP (fun p : Int × Int => drp V2 l2 p.1) : Int))), (0, _), (1, _)] ⟨rfl, (by rw [lst_ct, hb9]; first | rfl | (rw [Int.add_zero]; rfl)), rfl, rfl, trivial⟩ ?_
          exact ih4 (i + 1) (by omega) (by omega)
  refine g_loc [(3, _), (2, _), (0, _), (1, _)] ⟨rfl, rfl, rfl, rfl, trivial⟩ ?_
  exact lp4 _ 0 (Nat.zero_le _) (Nat.lt_succ_self _)
set_option maxRecDepth 100000 in
set_option maxHeartbeats 4000000 in
theorem c_X0_gainedFrom {E : gEnv} {n : Nat} {σ : Option Nat} {h : gH} (c : Nat) (V : Int → Int) (l : List (Int × Int)) (d : Nat) (V2 : Int → Int) (l2 : List (Int × Int)) (hcb : gB E ≤ c ∧ c + 4 ≤ gB E + n) (hC : isC E h c V l) (hok : okL l) (hdb : gB E ≤ d ∧ d + 4 ≤ gB E + n) (hD : isC E h d V2 l2) (hok2 : okL l2) (hV : okV V) (hV2 : okV V2) : gM E mX0_gainedFrom [.ref c, .ref d] n σ h (gD (some (.int (gi (l2.countP (fun p : Int × Int => isN V l p.1) : Int)))) n σ (fun h9 => h9 = h)) (gNo) := by
  have hC9 := hC
  have hD9 := hD
  obtain ⟨mk, vl, hl, q⟩ := hC
  have hlen := hok.1
  obtain ⟨mk2, vl2, hl2, q2⟩ := hD
  have hlen2 := hok2.1
  refine gM_of (by decide) (Nat.le_of_ble_eq_true rfl) (fun F C => ?_)
  refine g_iconst 1 C dX0_gainedFrom_0 rfl ?_
  refine g_istore_n 2 [(2, _), (0, _), (1, _)] C dX0_gainedFrom_1 (by decide) rfl rfl ?_
  refine g_iconst 3 C dX0_gainedFrom_2 rfl ?_
  refine g_istore_n 4 [(3, _), (2, _), (0, _), (1, _)] C dX0_gainedFrom_3 (by decide) rfl rfl ?_
  have lp4 : ∀ (k9 : Nat) (i : Nat), i ≤ l2.length → l2.length - i < k9 → G E F mX0_gainedFrom (gQ E F mX0_gainedFrom n (gD (some (.int (gi (l2.countP (fun p : Int × Int => isN V l p.1) : Int)))) n σ (fun h9 => h9 = h)) (gNo)) n σ h 0 0 4 [(3, .int (gi (i : Int))), (2, .int (gi ((lst mk2 vl2 i).countP (fun p : Int × Int => isN V l p.1) : Int))), (0, .ref c), (1, .ref d)] [] := by
    intro k9
    induction k9 with
    | zero => intro i hi h0; exact absurd h0 (Nat.not_lt_zero _)
    | succ k9 ih4 =>
      intro i hi hk4
      refine g_iload_n 5 C dX0_gainedFrom_4 rfl rfl ?_
      refine g_aload_n 6 C dX0_gainedFrom_5 rfl rfl ?_
      refine g_getf 9 C dX0_gainedFrom_6 fl_RX0_27 rfl (by omega) q2.1 rfl rfl ?_
      refine g_icmp_ge 34 12 C dX0_gainedFrom_9 rfl rfl (by omega) (by omega) (fun c9 => ?_) (fun c9 => ?_)
      · skip
        refine g_iload_n 35 C dX0_gainedFrom_34 rfl rfl ?_
        exact g_iret C dX0_gainedFrom_35 rfl ⟨by decide, by decide⟩ (by rw [show i = l2.length by omega, ← hl2]; exact ⟨rfl, rfl, rfl, rfl⟩)
      · skip
        have hv := okL_at hl2 hok2 (j := i) (by omega)
        have hcl := List.countP_le_length (p := (fun p : Int × Int => isN V l p.1)) (l := lst mk2 vl2 i)
        rw [lst_len] at hcl
        refine g_aload_n 13 C dX0_gainedFrom_12 rfl rfl ?_
        refine g_aload_n 14 C dX0_gainedFrom_13 rfl rfl ?_
        refine g_getf 17 C dX0_gainedFrom_14 fl_RX0_15 rfl (by omega) q2.1 rfl rfl ?_
        refine g_iload_n 18 C dX0_gainedFrom_17 rfl rfl ?_
        refine g_iald 19 C dX0_gainedFrom_18 (by omega) q2.2.2.1 (by omega) (by decide) rfl ?_
        refine g_V1r 22 0 0 C dX0_gainedFrom_19 rfl lk_RX0_46 gi_X0_isNew gv_X0_isNew ⟨_, _, rfl⟩ (by omega) q.1 ⟨⟨by decide, by decide⟩, by decide, by decide⟩ (Nat.le_of_ble_eq_true rfl) rfl rfl rfl (c_X0_isNew c V l (mk2 (i : Int)) hcb hC9 hok (by omega) hV) g_no (fun h9 e19 => ?_)
        subst e19
        refine g_if_eq 28 25 C dX0_gainedFrom_22 rfl rfl (gbi_r _) (fun c22 => ?_) (fun c22 => ?_)
        · skip
          have hb9 := gbi_f (gbi_0 c22)
          refine g_iinc 31 [(3, _), (2, _), (0, _), (1, _)] C dX0_gainedFrom_28 rfl (by decide) rfl rfl ?_
          refine g_goto 4 C dX0_gainedFrom_31 rfl ?_
          refine g_loc [(3, _), (2, .int (gi ((lst mk2 vl2 (i + 1)).countP (fun p : Int × Int => isN V l p.1) : Int))), (0, _), (1, _)] ⟨rfl, (by rw [lst_ct, hb9]; first | rfl | (rw [Int.add_zero]; rfl)), rfl, rfl, trivial⟩ ?_
          exact ih4 (i + 1) (by omega) (by omega)
        · skip
          have hb9 := gbi_t (gbi_1 c22)
          refine g_iinc 28 [(2, _), (3, _), (0, _), (1, _)] C dX0_gainedFrom_25 rfl (by decide) rfl rfl ?_
          refine g_iinc 31 [(3, _), (2, _), (0, _), (1, _)] C dX0_gainedFrom_28 rfl (by decide) rfl rfl ?_
          refine g_goto 4 C dX0_gainedFrom_31 rfl ?_
          refine g_loc [(3, _), (2, .int (gi ((lst mk2 vl2 (i + 1)).countP (fun p : Int × Int => isN V l p.1) : Int))), (0, _), (1, _)] ⟨rfl, (by rw [lst_ct, hb9]; first | rfl | (rw [Int.add_zero]; rfl)), rfl, rfl, trivial⟩ ?_
          exact ih4 (i + 1) (by omega) (by omega)
  refine g_loc [(3, _), (2, _), (0, _), (1, _)] ⟨rfl, rfl, rfl, rfl, trivial⟩ ?_
  exact lp4 _ 0 (Nat.zero_le _) (Nat.lt_succ_self _)
