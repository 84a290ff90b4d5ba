/-! SiblingJoins$KeyState: what it is -/
theorem g_ishl {E : gEnv} {F : gFr} {t : gMt} {Q : State → Prop} {n : Nat} {σ : Option Nat} {h : gH} {kc ks pc : Nat} {L : List (Nat × Value)} {st : List Value} {x y v : Int32} (pc' : Nat) (C : gC E F t) (hd : decode (gCode t) pc = .ok (.ishl, 1)) (hv : x <<< (y &&& 31) = v) (hp : pc + 1 = pc') (k : G E F t Q n σ h kc ks pc' L (.int v :: st)) : G E F t Q n σ h kc ks pc L (.int y :: .int x :: st) := by
  subst hp
  subst hv
  intro H locs ls a1 a3 a4 a5
  exact lv_ishl C.1 C.2.1 hd (k H locs ls a1 a3 a4 a5)
/-- powers of two, small -/
def p2 (i : Int) : Int := if i = 0 then 1 else if i = 1 then 2 else if i = 2 then 4 else if i = 3 then 8 else 16
theorem g_shl {i : Int} (hi : 0 ≤ i ∧ i < 5) : gi 1 <<< (gi i &&& 31) = gi (p2 i) := by
  rcases (show i = 0 ∨ i = 1 ∨ i = 2 ∨ i = 3 ∨ i = 4 by omega) with rfl | rfl | rfl | rfl | rfl <;> decide
/-- a mask: bit i where p i -/
def gmsk (p : Int → Bool) : Nat → Int
  | 0 => 0
  | i + 1 => gmsk p i + (if p (i : Int) then p2 (i : Int) else 0)
theorem gmsk_r (p : Int → Bool) {i : Nat} (hi : i ≤ 5) : 0 ≤ gmsk p i ∧ gmsk p i < 32 := by
  rcases (show i = 0 ∨ i = 1 ∨ i = 2 ∨ i = 3 ∨ i = 4 ∨ i = 5 by omega) with rfl | rfl | rfl | rfl | rfl | rfl <;> simp only [gmsk] <;> cases p ((0 : Nat) : Int) <;> cases p ((1 : Nat) : Int) <;> cases p ((2 : Nat) : Int) <;> cases p ((3 : Nat) : Int) <;> cases p ((4 : Nat) : Int) <;> decide
theorem gmsk_or (p : Int → Bool) {i : Nat} (hi : i < 5) (hp : p (i : Int) = true) : gi (gmsk p i) ||| gi (p2 (i : Int)) = gi (gmsk p (i + 1)) := by
  rcases (show i = 0 ∨ i = 1 ∨ i = 2 ∨ i = 3 ∨ i = 4 by omega) with rfl | rfl | rfl | rfl | rfl <;> simp only [gmsk, hp, if_true] <;> (try cases p ((0 : Nat) : Int)) <;> (try cases p ((1 : Nat) : Int)) <;> (try cases p ((2 : Nat) : Int)) <;> (try cases p ((3 : Nat) : Int)) <;> decide
theorem gmsk_no (p : Int → Bool) {i : Nat} (hp : p (i : Int) = false) : gmsk p (i + 1) = gmsk p i := by
  simp only [gmsk, hp]
  exact Int.add_zero _
theorem gmsk_low (p : Int → Bool) {i : Nat} (hi : i < 3) : gi (gmsk p 3) &&& gi (p2 (i : Int) - 1) = gi (gmsk p i) := by
  rcases (show i = 0 ∨ i = 1 ∨ i = 2 by omega) with rfl | rfl | rfl <;> simp only [gmsk] <;> cases p ((0 : Nat) : Int) <;> cases p ((1 : Nat) : Int) <;> cases p ((2 : Nat) : Int) <;> decide
def sumN (f : Int → Int) : Nat → Int
  | 0 => 0
  | i + 1 => sumN f i + f (i : Int)
theorem gup_at {α : Type} {f : Int → α} {i : Int} {x : α} : gup f i x i = x := if_pos rfl
theorem gup_ne {α : Type} {f : Int → α} {i j : Int} {x : α} (h : j ≠ i) : gup f i x j = f j := if_neg h
theorem gup_same {α : Type} {f : Int → α} {i : Int} : gup f i (f i) = f := by
  funext j
  unfold gup
  by_cases h : j = i
  · rw [if_pos h, h]
  · rw [if_neg h]
theorem gup_gup {α : Type} {f : Int → α} {i : Int} {x y : α} : gup (gup f i x) i y = gup f i y := by
  funext j
  unfold gup
  by_cases h : j = i
  · rw [if_pos h, if_pos h]
  · rw [if_neg h, if_neg h, if_neg h]
/-- f below i, g from i on -/
def mix {α : Type} (f g : Int → α) (i : Int) : Int → α := fun j => if j < i then f j else g j
theorem mix_lo {α : Type} {f g : Int → α} {i j : Int} (h : j < i) : mix f g i j = f j := if_pos h
theorem mix_hi {α : Type} {f g : Int → α} {i j : Int} (h : i ≤ j) : mix f g i j = g j := if_neg (by omega)
theorem mix_up {α : Type} {f g : Int → α} {i : Int} : gup (mix f g i) i (f i) = mix f g (i + 1) := by
  funext j
  unfold gup mix
  by_cases h : j = i
  · rw [if_pos h, if_pos (by omega), h]
  · rw [if_neg h]
    by_cases h2 : j < i
    · rw [if_pos h2, if_pos (by omega)]
    · rw [if_neg h2, if_neg (by omega)]
theorem isC.h0 {E : gEnv} {h : gH} {c : Nat} {V : Int → Int} {l : List (Int × Int)} (x : isC E h c V l) : h c = gO 0 [.ref (c + 1), .ref (c + 2), .ref (c + 3), .int (gi (l.length : Int))] := by
  obtain ⟨mk, vl, hl, q⟩ := x
  exact q.1
theorem isC.h1 {E : gEnv} {h : gH} {c : Nat} {V : Int → Int} {l : List (Int × Int)} (x : isC E h c V l) : h (c + 1) = gI E 5 V := by
  obtain ⟨mk, vl, hl, q⟩ := x
  exact q.2.1
theorem isC.setV {E : gEnv} {h h1 : gH} {c : Nat} {V V' : Int → Int} {l : List (Int × Int)} (x : isC E h c V l) (hv : h1 (c + 1) = gI E 5 V') (hk : gKp (c + 1) (c + 2) h h1) : isC E h1 c V' l := by
  obtain ⟨mk, vl, hl, q⟩ := x
  exact ⟨mk, vl, hl, (hk _ (by omega)).trans q.1, hv, (hk _ (by omega)).trans q.2.2.1, (hk _ (by omega)).trans q.2.2.2⟩
/-- a key: counts of writes, knowledge, stores' vectors, stores' siblings -/
abbrev gKy : Type := (Int → Int) × (Int → Int → Int) × (Int → Int → Int) × (Int → List (Int × Int))
def isK (E : gEnv) (h : gH) (a : Nat) (K : gKy) : Prop :=
  h a = gO 1 [.ref (a + 1), .ref (a + 2), .ref (a + 8)] ∧
  (∃ f : Int → Option Nat, h (a + 1) = gR E 2 3 f ∧ ∀ s : Int, 0 ≤ s → s < 3 → f s = some (a + 9 + 4 * s.toNat)) ∧
  (∃ f : Int → Option Nat, h (a + 2) = gR E 1 5 f ∧ ∀ w : Int, 0 ≤ w → w < 5 → f w = some (a + 3 + w.toNat)) ∧
  (∀ w : Int, 0 ≤ w → w < 5 → h (a + 3 + w.toNat) = gI E 5 (K.2.1 w)) ∧
  h (a + 8) = gI E 5 K.1 ∧
  ∀ s : Int, 0 ≤ s → s < 3 → isC E h (a + 9 + 4 * s.toNat) (K.2.2.1 s) (K.2.2.2 s)
def okK (K : gKy) : Prop := okV K.1 ∧ (∀ w : Int, 0 ≤ w → w < 5 → okV (K.2.1 w)) ∧ (∀ s : Int, 0 ≤ s → s < 3 → okV (K.2.2.1 s)) ∧ ∀ s : Int, 0 ≤ s → s < 3 → okL (K.2.2.2 s)
theorem isK.kept {E : gEnv} {h h1 : gH} {a : Nat} {K : gKy} (x : isK E h a K) (hk : ∀ q : Nat, a ≤ q → q < a + 21 → h1 q = h q) : isK E h1 a K := by
  obtain ⟨x1, ⟨f, x2, x2'⟩, ⟨g, x3, x3'⟩, x4, x5, x6⟩ := x
  exact ⟨(hk _ (by omega) (by omega)).trans x1, ⟨f, (hk _ (by omega) (by omega)).trans x2, x2'⟩, ⟨g, (hk _ (by omega) (by omega)).trans x3, x3'⟩, fun w w0 w5 => (hk _ (by omega) (by omega)).trans (x4 w w0 w5), (hk _ (by omega) (by omega)).trans x5, fun s s0 s3 => (x6 s s0 s3).kept (fun q q1 q2 => hk q (by omega) (by omega))⟩
theorem isK.ext {E : gEnv} {h : gH} {a : Nat} {K K' : gKy} (x : isK E h a K) (e1 : ∀ i : Int, 0 ≤ i → i < 5 → K.1 i = K'.1 i) (e2 : ∀ w : Int, 0 ≤ w → w < 5 → ∀ i : Int, 0 ≤ i → i < 5 → K.2.1 w i = K'.2.1 w i) (e3 : ∀ s : Int, 0 ≤ s → s < 3 → ∀ i : Int, 0 ≤ i → i < 5 → K.2.2.1 s i = K'.2.2.1 s i) (e4 : ∀ s : Int, 0 ≤ s → s < 3 → K.2.2.2 s = K'.2.2.2 s) : isK E h a K' := by
  obtain ⟨x1, x2, x3, x4, x5, x6⟩ := x
  refine ⟨x1, x2, x3, fun w w0 w5 => (x4 w w0 w5).trans (gI_ext fun i i0 i5 => e2 w w0 w5 i i0 i5), x5.trans (gI_ext fun i i0 i5 => e1 i i0 i5), fun s s0 s3 => ?_⟩
  have y := x6 s s0 s3
  rw [e4 s s0 s3] at y
  exact y.setV (h1 := h) (y.h1.trans (gI_ext fun i i0 i5 => e3 s s0 s3 i i0 i5)) gKp_rf
theorem isK.setC {E : gEnv} {h h1 : gH} {a : Nat} {K : gKy} {s : Int} {V' : Int → Int} {l' : List (Int × Int)} (x : isK E h a K) (s0 : 0 ≤ s) (s3 : s < 3) (hc : isC E h1 (a + 9 + 4 * s.toNat) V' l') (hk : gKp (a + 9 + 4 * s.toNat) (a + 9 + 4 * s.toNat + 4) h h1) : isK E h1 a (K.1, K.2.1, gup K.2.2.1 s V', gup K.2.2.2 s l') := by
  obtain ⟨x1, ⟨f, x2, x2'⟩, ⟨g, x3, x3'⟩, x4, x5, x6⟩ := x
  refine ⟨(hk _ (by omega)).trans x1, ⟨f, (hk _ (by omega)).trans x2, x2'⟩, ⟨g, (hk _ (by omega)).trans x3, x3'⟩, fun w w0 w5 => (hk _ (by omega)).trans (x4 w w0 w5), (hk _ (by omega)).trans x5, fun r r0 r3 => ?_⟩
  by_cases e : r = s
  · subst e
    show isC E h1 (a + 9 + 4 * r.toNat) (gup K.2.2.1 r V' r) (gup K.2.2.2 r l' r)
    rw [gup_at, gup_at]
    exact hc
  · show isC E h1 (a + 9 + 4 * r.toNat) (gup K.2.2.1 s V' r) (gup K.2.2.2 s l' r)
    rw [gup_ne e, gup_ne e]
    exact (x6 r r0 r3).kept (fun q q1 q2 => hk q (by omega))
theorem isK.setW {E : gEnv} {h h1 : gH} {a : Nat} {K : gKy} {W' : Int → Int} (x : isK E h a K) (hw : h1 (a + 8) = gI E 5 W') (hk : gKp (a + 8) (a + 9) h h1) : isK E h1 a (W', K.2) := by
  obtain ⟨x1, ⟨f, x2, x2'⟩, ⟨g, x3, x3'⟩, x4, x5, x6⟩ := x
  exact ⟨(hk _ (by omega)).trans x1, ⟨f, (hk _ (by omega)).trans x2, x2'⟩, ⟨g, (hk _ (by omega)).trans x3, x3'⟩, fun w w0 w5 => (hk _ (by omega)).trans (x4 w w0 w5), hw, fun s s0 s3 => (x6 s s0 s3).kept (fun q q1 q2 => hk q (by omega))⟩
theorem isK.setN {E : gEnv} {h h1 : gH} {a : Nat} {K : gKy} {w : Int} {f' : Int → Int} (x : isK E h a K) (w0 : 0 ≤ w) (w5 : w < 5) (hw : h1 (a + 3 + w.toNat) = gI E 5 f') (hk : gKp (a + 3 + w.toNat) (a + 3 + w.toNat + 1) h h1) : isK E h1 a (K.1, gup K.2.1 w f', K.2.2) := by
  obtain ⟨x1, ⟨f, x2, x2'⟩, ⟨g, x3, x3'⟩, x4, x5, x6⟩ := x
  refine ⟨(hk _ (by omega)).trans x1, ⟨f, (hk _ (by omega)).trans x2, x2'⟩, ⟨g, (hk _ (by omega)).trans x3, x3'⟩, fun r r0 r5 => ?_, (hk _ (by omega)).trans x5, fun s s0 s3 => (x6 s s0 s3).kept (fun q q1 q2 => hk q (by omega))⟩
  by_cases e : r = w
  · subst e
    show h1 _ = gI E 5 (gup K.2.1 r f' r)
    rw [gup_at]
    exact hw
  · show h1 _ = gI E 5 (gup K.2.1 w f' r)
    rw [gup_ne e]
    exact (hk _ (by omega)).trans (x4 r r0 r5)
/-- what a writing would do, what a pull would do -/
def wDrop (K : gKy) (w s : Int) : Int := ((K.2.2.2 s).countP (fun p => cov (K.2.1 w) p.1) : Nat)
def wOut (K : gKy) (w s what : Int) : Int := if what = 0 then wDrop K w s else ((K.2.2.2 s).length : Int) - wDrop K w s + 1
def pLost (K : gKy) (s o : Int) : Int := ((K.2.2.2 s).countP (fun p => drp (K.2.2.1 o) (K.2.2.2 o) p.1) : Nat)
def pGain (K : gKy) (s o : Int) : Int := ((K.2.2.2 o).countP (fun p => isN (K.2.2.1 s) (K.2.2.2 s) p.1) : Nat)
def pOut (K : gKy) (s o what : Int) : Int := if what = 0 then pLost K s o else if what = 1 then pGain K s o else ((K.2.2.2 s).length : Int) - pLost K s o + pGain K s o
def kLearn (K : gKy) (w s : Int) : gKy := (K.1, gup K.2.1 w (vmx (K.2.1 w) (K.2.2.1 s)), K.2.2)
def kPut (K : gKy) (w s val : Int) : gKy := (gup K.1 w (K.1 w + 1), gup K.2.1 w (gup (K.2.1 w) w (K.1 w + 1)), gup K.2.2.1 s (vmx (K.2.2.1 s) (gup (K.2.1 w) w (K.1 w + 1))), gup K.2.2.2 s (ins4 (w * 1000 + (K.1 w + 1), val) ((K.2.2.2 s).filter (fun p => !(cov (K.2.1 w) p.1)))))
def kTake (K : gKy) (s o : Int) : gKy := (K.1, K.2.1, gup K.2.2.1 s (vmx (K.2.2.1 s) (K.2.2.1 o)), gup K.2.2.2 s (tkL (K.2.2.1 s) (K.2.2.1 o) (K.2.2.2 s) (K.2.2.2 o)))
def kUnl (K : gKy) (w : Int) : gKy := (K.1, gup K.2.1 w (fun o => if o = w then K.2.1 w o else 0), K.2.2)
def kUnlS (K : gKy) (w : Int) : Int := sumN (fun o => if o = w then 0 else K.2.1 w o) 5
def kErase (K : gKy) (w : Int) : gKy := (gup K.1 w 0, fun x => gup (K.2.1 x) w 0, fun s => gup (K.2.2.1 s) w 0, K.2.2.2)
def hasW (l : List (Int × Int)) (w : Int) : Bool := l.any (fun p => p.1 / 1000 == w)
def rgA (p : Int → Bool) (i : Nat) : Bool := (List.range i).any (fun j : Nat => p (j : Int))
theorem rgA_s {p : Int → Bool} {i : Nat} : rgA p (i + 1) = (rgA p i || p (i : Int)) := by
  unfold rgA
  rw [List.range_succ, List.any_append]
  simp
def hind (K : gKy) (w : Int) : Int := if rgA (fun s => hasW (K.2.2.2 s) w) 3 then 1 else if rgA (fun s => !(K.2.2.1 s w == K.2.2.1 0 w)) 3 then 2 else 0
def knw (K : gKy) (mark : Int) : Int := gmsk (fun w => cov (K.2.1 w) mark) 5
def hld (K : gKy) (mark : Int) : Int := gmsk (fun s => hasM (K.2.2.2 s) mark) 3
def sibF (K : gKy) (s place what : Int) : Int := match (K.2.2.2 s)[place.toNat]? with
  | none => -1
  | some p => if what = 0 then p.1 / 1000 else if what = 1 then p.1 % 1000 else if what = 2 then p.2 else if what = 3 then knw K p.1 else hld K p.1
def unlN (K : gKy) : Int := sumN (fun s => (((K.2.2.2 s).countP (fun p => decide (gmsk (fun j => hasM (K.2.2.2 j) p.1) s.toNat = 0)) : Nat) : Int)) 3
def agr (K : gKy) (s o : Int) : Bool := decide (mks (K.2.2.2 s) = mks (K.2.2.2 o))
def agrP (K : gKy) : Int := gbi (agr K 0 1) + gbi (agr K 0 2) + gbi (agr K 1 2)
def seeA (K : gKy) : Bool := veq (K.2.2.1 0) (K.2.2.1 1) && veq (K.2.2.1 0) (K.2.2.1 2)
def fgtM (K : gKy) : Int := gmsk (fun w => decide (hind K w = 0) && decide (0 < K.2.2.1 0 w)) 5
def keyF (K : gKy) (what : Int) : Int := if what = 3 then unlN K else if what = 4 then sumN K.1 5 else if what = 5 then (if agrP K = 3 then 1 else 0) else if what = 6 then gbi (seeA K) else if what = 7 then fgtM K else ((K.2.2.2 what).length : Int)
theorem g_osw {x k o d : Int} {r : List (Int × Int)} (h : ¬ x = k) : Op.lookupswitch.offset ((k, o) :: r) d x = Op.lookupswitch.offset r d x := by
  rw [Op.lookupswitch.offset_cons, if_neg]
  first | exact h | exact fun e => h e.symm | (intro e; exact h (by simpa using e)) | (intro e; exact h (by simpa using e.symm))
theorem g_osw0 {x d : Int} : Op.lookupswitch.offset [] d x = d := by
  first | rfl | simp [Op.lookupswitch.offset]

set_option maxRecDepth 100000 in
set_option maxHeartbeats 4000000 in
theorem c_X1_learn {E : gEnv} {n : Nat} {σ : Option Nat} {h : gH} (a : Nat) (K : gKy) (w s : Int) (hab : gB E ≤ a ∧ a + 21 ≤ gB E + n) (hK : isK E h a K) (hok : okK K) (hw : 0 ≤ w ∧ w < 5) (hs : 0 ≤ s ∧ s < 3)  : gM E mX1_learn [.ref a, .int (gi w), .int (gi s)] n σ h (gD none n σ (fun h9 => isK E h9 a (kLearn K w s) ∧ gKp a (a + 21) h h9)) (gNo) := by
  have hK9 := hK
  obtain ⟨k1, ⟨fc, k2, hfc⟩, ⟨fk, k3, hfk⟩, k4, k5, k6⟩ := hK
  obtain ⟨oW, oN, oV, oL⟩ := hok
  refine gM_of (by decide) (Nat.le_of_ble_eq_true rfl) (fun F C => ?_)
  refine g_aload_n 1 C dX1_learn_0 rfl rfl ?_
  refine g_getf 4 C dX1_learn_1 fl_RX1_19 rfl (by omega) k1 rfl rfl ?_
  refine g_iload_n 5 C dX1_learn_4 rfl rfl ?_
  refine g_aald 6 C dX1_learn_5 (by omega) k3 rfl rfl (by omega) (by decide) (hfk (w) (by omega) (by omega)) rfl ?_
  refine g_aload_n 7 C dX1_learn_6 rfl rfl ?_
  refine g_getf 10 C dX1_learn_7 fl_RX1_11 rfl (by omega) k1 rfl rfl ?_
  refine g_iload_n 11 C dX1_learn_10 rfl rfl ?_
  refine g_aald 12 C dX1_learn_11 (by omega) k2 rfl rfl (by omega) (by decide) (hfc (s) (by omega) (by omega)) rfl ?_
  refine g_getf 15 C dX1_learn_12 fl_RX1_37 rfl (by omega) (isC.h0 (k6 (s) (by omega) (by omega))) rfl rfl ?_
  refine g_SN2v 18 0 0 C dX1_learn_15 rfl ln_RX1_40 gs_X4_mergeInto ⟨⟨by decide, by decide⟩, by decide, by decide⟩ (Nat.le_of_ble_eq_true rfl) rfl rfl rfl (c_X4_mergeInto (a + 3 + w.toNat) ((a + 9 + 4 * (s).toNat) + 1) (K.2.1 w) (K.2.2.1 s) (by omega) (by omega) (k4 w (by omega) (by omega)) (isC.h1 (k6 (s) (by omega) (by omega))) (by omega) (oN w (by omega) (by omega)) (oV s (by omega) (by omega))) g_no (fun h9 e15 => ?_)
  obtain ⟨hm, hk⟩ := e15
  exact g_vret C dX1_learn_18 rfl ⟨by decide, by decide⟩ (⟨rfl, rfl, rfl, hK9.setN (by omega) (by omega) hm hk, gKp_wd hk (by omega) (by omega)⟩)
set_option maxRecDepth 100000 in
set_option maxHeartbeats 4000000 in
theorem c_X1_writeOutlook {E : gEnv} {n : Nat} {σ : Option Nat} {h : gH} (a : Nat) (K : gKy) (w s what : Int) (hab : gB E ≤ a ∧ a + 21 ≤ gB E + n) (hK : isK E h a K) (hok : okK K) (hw : 0 ≤ w ∧ w < 5) (hs : 0 ≤ s ∧ s < 3) (hwh : 0 ≤ what ∧ what ≤ 1) : gM E mX1_writeOutlook [.ref a, .int (gi w), .int (gi s), .int (gi what)] n σ h (gD (some (.int (gi (wOut K w s what)))) n σ (fun h9 => h9 = h)) (gNo) := by
  have hK9 := hK
  obtain ⟨k1, ⟨fc, k2, hfc⟩, ⟨fk, k3, hfk⟩, k4, k5, k6⟩ := hK
  obtain ⟨oW, oN, oV, oL⟩ := hok
  refine gM_of (by decide) (Nat.le_of_ble_eq_true rfl) (fun F C => ?_)
  refine g_aload_n 1 C dX1_writeOutlook_0 rfl rfl ?_
  refine g_getf 4 C dX1_writeOutlook_1 fl_RX1_11 rfl (by omega) k1 rfl rfl ?_
  refine g_iload_n 5 C dX1_writeOutlook_4 rfl rfl ?_
  refine g_aald 6 C dX1_writeOutlook_5 (by omega) k2 rfl rfl (by omega) (by decide) (hfc (s) (by omega) (by omega)) rfl ?_
  refine g_aload_n 7 C dX1_writeOutlook_6 rfl rfl ?_
  refine g_getf 10 C dX1_writeOutlook_7 fl_RX1_19 rfl (by omega) k1 rfl rfl ?_
  refine g_iload_n 11 C dX1_writeOutlook_10 rfl rfl ?_
  refine g_aald 12 C dX1_writeOutlook_11 (by omega) k3 rfl rfl (by omega) (by decide) (hfk (w) (by omega) (by omega)) rfl ?_
  refine g_V1r 15 0 0 C dX1_writeOutlook_12 rfl lk_RX1_51 gi_X0_coveredBy gv_X0_coveredBy ⟨_, _, rfl⟩ (by omega) (isC.h0 (k6 (s) (by omega) (by omega))) ⟨⟨by decide, by decide⟩, by decide, by decide⟩ (Nat.le_of_ble_eq_true rfl) rfl rfl rfl (c_X0_coveredBy (a + 9 + 4 * (s).toNat) (K.2.2.1 s) (K.2.2.2 s) (a + 3 + w.toNat) (K.2.1 w) (by omega) (k6 (s) (by omega) (by omega)) (oL s (by omega) (by omega)) (by omega) (k4 w (by omega) (by omega)) (oN w (by omega) (by omega))) g_no (fun h9 e12 => ?_)
  subst e12
  refine g_istore 17 [(4, _), (0, _), (1, _), (2, _), (3, _)] C dX1_writeOutlook_15 (by decide) rfl rfl ?_
  refine g_iload_n 18 C dX1_writeOutlook_17 rfl rfl ?_
  refine g_if_ne 26 21 C dX1_writeOutlook_18 rfl rfl (by omega) (fun c18 => ?_) (fun c18 => ?_)
  · skip
    have e9 : wOut K w s what = ((K.2.2.2 s).length : Int) - wDrop K w s + 1 := if_neg c18
    refine g_aload_n 27 C dX1_writeOutlook_26 rfl rfl ?_
    refine g_getf 30 C dX1_writeOutlook_27 fl_RX1_11 rfl (by omega) k1 rfl rfl ?_
    refine g_iload_n 31 C dX1_writeOutlook_30 rfl rfl ?_
    refine g_aald 32 C dX1_writeOutlook_31 (by omega) k2 rfl rfl (by omega) (by decide) (hfc (s) (by omega) (by omega)) rfl ?_
    refine g_getf 35 C dX1_writeOutlook_32 fl_RX1_55 rfl (by omega) (isC.h0 (k6 (s) (by omega) (by omega))) rfl rfl ?_
    refine g_iload 37 C dX1_writeOutlook_35 rfl rfl ?_
    refine g_isub 38 C dX1_writeOutlook_37 rfl ?_
    refine g_iconst 39 C dX1_writeOutlook_38 rfl ?_
    refine g_iadd 40 C dX1_writeOutlook_39 rfl ?_
    exact g_iret C dX1_writeOutlook_40 rfl ⟨by decide, by decide⟩ (by rw [e9]; exact ⟨rfl, rfl, rfl, rfl⟩)
  · skip
    have e9 : wOut K w s what = wDrop K w s := if_pos c18
    refine g_iload 23 C dX1_writeOutlook_21 rfl rfl ?_
    refine g_goto 40 C dX1_writeOutlook_23 rfl ?_
    exact g_iret C dX1_writeOutlook_40 rfl ⟨by decide, by decide⟩ (by rw [e9]; exact ⟨rfl, rfl, rfl, rfl⟩)
set_option maxRecDepth 100000 in
set_option maxHeartbeats 4000000 in
theorem c_X1_pullOutlook {E : gEnv} {n : Nat} {σ : Option Nat} {h : gH} (a : Nat) (K : gKy) (s o what : Int) (hab : gB E ≤ a ∧ a + 21 ≤ gB E + n) (hK : isK E h a K) (hok : okK K) (hs : 0 ≤ s ∧ s < 3) (ho : 0 ≤ o ∧ o < 3) (hwh : 0 ≤ what ∧ what ≤ 2) : gM E mX1_pullOutlook [.ref a, .int (gi s), .int (gi o), .int (gi what)] n σ h (gD (some (.int (gi (pOut K s o what)))) n σ (fun h9 => h9 = h)) (gNo) := by
  have hK9 := hK
  obtain ⟨k1, ⟨fc, k2, hfc⟩, ⟨fk, k3, hfk⟩, k4, k5, k6⟩ := hK
  obtain ⟨oW, oN, oV, oL⟩ := hok
  refine gM_of (by decide) (Nat.le_of_ble_eq_true rfl) (fun F C => ?_)
  refine g_aload_n 1 C dX1_pullOutlook_0 rfl rfl ?_
  refine g_getf 4 C dX1_pullOutlook_1 fl_RX1_11 rfl (by omega) k1 rfl rfl ?_
  refine g_iload_n 5 C dX1_pullOutlook_4 rfl rfl ?_
  refine g_aald 6 C dX1_pullOutlook_5 (by omega) k2 rfl rfl (by omega) (by decide) (hfc (s) (by omega) (by omega)) rfl ?_
  refine g_aload_n 7 C dX1_pullOutlook_6 rfl rfl ?_
  refine g_getf 10 C dX1_pullOutlook_7 fl_RX1_11 rfl (by omega) k1 rfl rfl ?_
  refine g_iload_n 11 C dX1_pullOutlook_10 rfl rfl ?_
  refine g_aald 12 C dX1_pullOutlook_11 (by omega) k2 rfl rfl (by omega) (by decide) (hfc (o) (by omega) (by omega)) rfl ?_
  refine g_V1r 15 0 0 C dX1_pullOutlook_12 rfl lk_RX1_59 gi_X0_lostTo gv_X0_lostTo ⟨_, _, rfl⟩ (by omega) (isC.h0 (k6 (s) (by omega) (by omega))) ⟨⟨by decide, by decide⟩, by decide, by decide⟩ (Nat.le_of_ble_eq_true rfl) rfl rfl rfl (c_X0_lostTo (a + 9 + 4 * (s).toNat) (K.2.2.1 s) (K.2.2.2 s) (a + 9 + 4 * (o).toNat) (K.2.2.1 o) (K.2.2.2 o) (by omega) (k6 (s) (by omega) (by omega)) (oL s (by omega) (by omega)) (by omega) (k6 (o) (by omega) (by omega)) (oL o (by omega) (by omega)) (oV s (by omega) (by omega)) (oV o (by omega) (by omega))) g_no (fun h9 e12 => ?_)
  subst e12
  refine g_istore 17 [(4, _), (0, _), (1, _), (2, _), (3, _)] C dX1_pullOutlook_15 (by decide) rfl rfl ?_
  refine g_aload_n 18 C dX1_pullOutlook_17 rfl rfl ?_
  refine g_getf 21 C dX1_pullOutlook_18 fl_RX1_11 rfl (by omega) k1 rfl rfl ?_
  refine g_iload_n 22 C dX1_pullOutlook_21 rfl rfl ?_
  refine g_aald 23 C dX1_pullOutlook_22 (by omega) k2 rfl rfl (by omega) (by decide) (hfc (s) (by omega) (by omega)) rfl ?_
  refine g_aload_n 24 C dX1_pullOutlook_23 rfl rfl ?_
  refine g_getf 27 C dX1_pullOutlook_24 fl_RX1_11 rfl (by omega) k1 rfl rfl ?_
  refine g_iload_n 28 C dX1_pullOutlook_27 rfl rfl ?_
  refine g_aald 29 C dX1_pullOutlook_28 (by omega) k2 rfl rfl (by omega) (by decide) (hfc (o) (by omega) (by omega)) rfl ?_
  refine g_V1r 32 0 0 C dX1_pullOutlook_29 rfl lk_RX1_63 gi_X0_gainedFrom gv_X0_gainedFrom ⟨_, _, rfl⟩ (by omega) (isC.h0 (k6 (s) (by omega) (by omega))) ⟨⟨by decide, by decide⟩, by decide, by decide⟩ (Nat.le_of_ble_eq_true rfl) rfl rfl rfl (c_X0_gainedFrom (a + 9 + 4 * (s).toNat) (K.2.2.1 s) (K.2.2.2 s) (a + 9 + 4 * (o).toNat) (K.2.2.1 o) (K.2.2.2 o) (by omega) (k6 (s) (by omega) (by omega)) (oL s (by omega) (by omega)) (by omega) (k6 (o) (by omega) (by omega)) (oL o (by omega) (by omega)) (oV s (by omega) (by omega)) (oV o (by omega) (by omega))) g_no (fun h9 e29 => ?_)
  subst e29
  refine g_istore 34 [(5, _), (4, _), (0, _), (1, _), (2, _), (3, _)] C dX1_pullOutlook_32 (by decide) rfl rfl ?_
  refine g_iload_n 35 C dX1_pullOutlook_34 rfl rfl ?_
  by_cases z35_0 : what = 0
  · skip
    refine g_lookup 60 C dX1_pullOutlook_35 (off := 25) (by omega) (by decide) (by rw [z35_0]; decide) rfl ?_
    refine g_iload 62 C dX1_pullOutlook_60 rfl rfl ?_
    exact g_iret C dX1_pullOutlook_62 rfl ⟨by decide, by decide⟩ (by rw [show pOut K s o what = pLost K s o from if_pos z35_0]; exact ⟨rfl, rfl, rfl, rfl⟩)
  by_cases z35_1 : what = 1
  · skip
    refine g_lookup 63 C dX1_pullOutlook_35 (off := 28) (by omega) (by decide) (by rw [z35_1]; decide) rfl ?_
    refine g_iload 65 C dX1_pullOutlook_63 rfl rfl ?_
    exact g_iret C dX1_pullOutlook_65 rfl ⟨by decide, by decide⟩ (by rw [show pOut K s o what = pGain K s o by unfold pOut; rw [if_neg z35_0, if_pos z35_1]]; exact ⟨rfl, rfl, rfl, rfl⟩)
  refine g_lookup 66 C dX1_pullOutlook_35 (off := 31) (by omega) (by decide) ((show Op.lookupswitch.offset [(0, 25), (1, 28)] 31 what = 31 by rw [g_osw z35_0, g_osw z35_1, g_osw0])) rfl ?_
  refine g_aload_n 67 C dX1_pullOutlook_66 rfl rfl ?_
  refine g_getf 70 C dX1_pullOutlook_67 fl_RX1_11 rfl (by omega) k1 rfl rfl ?_
  refine g_iload_n 71 C dX1_pullOutlook_70 rfl rfl ?_
  refine g_aald 72 C dX1_pullOutlook_71 (by omega) k2 rfl rfl (by omega) (by decide) (hfc (s) (by omega) (by omega)) rfl ?_
  refine g_getf 75 C dX1_pullOutlook_72 fl_RX1_55 rfl (by omega) (isC.h0 (k6 (s) (by omega) (by omega))) rfl rfl ?_
  refine g_iload 77 C dX1_pullOutlook_75 rfl rfl ?_
  refine g_isub 78 C dX1_pullOutlook_77 rfl ?_
  refine g_iload 80 C dX1_pullOutlook_78 rfl rfl ?_
  refine g_iadd 81 C dX1_pullOutlook_80 rfl ?_
  exact g_iret C dX1_pullOutlook_81 rfl ⟨by decide, by decide⟩ (by rw [show pOut K s o what = ((K.2.2.2 s).length : Int) - pLost K s o + pGain K s o by unfold pOut; rw [if_neg z35_0, if_neg z35_1]]; exact ⟨rfl, rfl, rfl, rfl⟩)
