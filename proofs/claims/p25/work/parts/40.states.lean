/-! states by hand -/
def ky (W : List Int) (N V : List (List Int)) (l : List (List (Int × Int))) : gKy := (fun i => W.getD i.toNat 0, fun w i => (N.getD w.toNat []).getD i.toNat 0, fun s i => (V.getD s.toNat []).getD i.toNat 0, fun s => l.getD s.toNat [])
def stt (k0 k1 k2 : gKy) (c : List Int) : gSt := (fun k => if k = 0 then k0 else if k = 1 then k1 else k2, fun j => c.getD (j.toNat - 1) 0)
theorem z_val {E0 : gEnv} {b : Nat} {fz : Heap} {F : gFr} {t : gMt} {Q : State → Prop} {n : Nat} {σ : Option Nat} {h : gH} {kc ks pc : Nat} {L : List (Nat × Value)} {rest : List Value} {v0 : Int} (v : Int) (e : v0 = v) (k : Z E0 b fz F t Q n σ h kc ks pc L (.int (gi v) :: rest)) : Z E0 b fz F t Q n σ h kc ks pc L (.int (gi v0) :: rest) := by
  subst e
  exact k
section TN
variable {S : gSt} {c : Nat} {f : Int → gSt} {bu : Nat × (Int → Int)} {w k s o v rule d : Int}
theorem tn_join (h : (decide (WKS w k s) && (decide (0 ≤ rule ∧ rule ≤ 3) && decide (sLen S k s = 0 ∨ 999 ≤ (S.1 k).1 w))) = true) : oCall (S, (c, f), bu) 3 w k s rule = (-13, 0, (S, (c, f), bu)) := by
  obtain ⟨h1, h⟩ := ba h
  obtain ⟨h2, h3⟩ := ba h
  have e : oJoin (S, (c, f), bu) w k s rule = (3, 0, (S, (c, f), bu)) := by
    unfold oJoin
    dsimp only
    rw [if_pos (of_decide_eq_true h1), if_pos (of_decide_eq_true h2), if_pos (of_decide_eq_true h3)]
  rw [oCall_3, e]
  rfl
theorem tn_forget (h : (decide (WK w k) && decide (¬ hind (S.1 k) w = 0)) = true) : oCall (S, (c, f), bu) 5 w k s d = (-13, 0, (S, (c, f), bu)) := by
  obtain ⟨h1, h2⟩ := ba h
  have e : oForget (S, (c, f), bu) w k = (2, 0, (S, (c, f), bu)) := by
    unfold oForget
    dsimp only
    rw [if_pos (of_decide_eq_true h1), if_neg (of_decide_eq_true h2)]
  rw [oCall_5, e]
  rfl
theorem tn_write (h : (decide (WKS w k s) && (decide (0 ≤ v ∧ v ≤ 99) && decide (¬ ((S.1 k).1 w < 999 ∧ wOut (S.1 k) w s 1 ≤ 4)))) = true) : oCall (S, (c, f), bu) 1 w k s v = (-13, 0, (S, (c, f), bu)) := by
  obtain ⟨h1, h⟩ := ba h
  obtain ⟨h2, h3⟩ := ba h
  have e : oWrite (S, (c, f), bu) w k s v = (3, 0, (S, (c, f), bu)) := by
    unfold oWrite
    dsimp only
    rw [if_pos (of_decide_eq_true h1), if_pos (of_decide_eq_true h2), if_neg (of_decide_eq_true h3)]
  rw [oCall_1, e]
  rfl
theorem tn_pull (h : (decide (SOK s o k) && (decide (¬ s = o) && decide (¬ pOut (S.1 k) s o 2 ≤ 4))) = true) : oCall (S, (c, f), bu) 2 s o k d = (-13, 0, (S, (c, f), bu)) := by
  obtain ⟨h1, h⟩ := ba h
  obtain ⟨h2, h3⟩ := ba h
  have e : oPull (S, (c, f), bu) s o k = (3, 0, (S, (c, f), bu)) := by
    unfold oPull
    dsimp only
    rw [if_pos (of_decide_eq_true h1), if_neg (of_decide_eq_true h2), if_neg (of_decide_eq_true h3)]
  rw [oCall_2, e]
  rfl
theorem tn_pullAll (h : (bAr S 27).isNone = true) : oCall (S, (c, f), bu) 17 w k s d = (-13, 0, (S, (c, f), bu)) := by
  have e : oPullAll (S, (c, f), bu) = (1, 0, (S, (c, f), bu)) := by
    unfold oPullAll
    dsimp only
    rw [Option.isNone_iff_eq_none.mp h]
  rw [oCall_17, e]
  rfl
end TN
def kS0 : gSt := stt (ky [0, 0, 0, 0, 0] [[0, 0, 0, 0, 0], [0, 0, 0, 0, 0], [0, 0, 0, 0, 0], [0, 0, 0, 0, 0], [0, 0, 0, 0, 0]] [[0, 0, 0, 0, 0], [0, 0, 0, 0, 0], [0, 0, 0, 0, 0]] [[], [], []]) (ky [0, 0, 0, 0, 0] [[0, 0, 0, 0, 0], [0, 0, 0, 0, 0], [0, 0, 0, 0, 0], [0, 0, 0, 0, 0], [0, 0, 0, 0, 0]] [[0, 0, 0, 0, 0], [0, 0, 0, 0, 0], [0, 0, 0, 0, 0]] [[], [], []]) (ky [0, 0, 0, 0, 0] [[0, 0, 0, 0, 0], [0, 0, 0, 0, 0], [0, 0, 0, 0, 0], [0, 0, 0, 0, 0], [0, 0, 0, 0, 0]] [[0, 0, 0, 0, 0], [0, 0, 0, 0, 0], [0, 0, 0, 0, 0]] [[], [], []]) [0, 0, 0, 0, 0]
def kS1 : gSt := stt (ky [0, 0, 0, 0, 0] [[0, 0, 0, 0, 0], [0, 0, 0, 0, 0], [0, 0, 0, 0, 0], [0, 0, 0, 0, 0], [0, 0, 0, 0, 0]] [[0, 0, 0, 0, 0], [0, 0, 0, 0, 0], [0, 0, 0, 0, 0]] [[], [], []]) (ky [1, 0, 0, 0, 0] [[1, 0, 0, 0, 0], [0, 0, 0, 0, 0], [0, 0, 0, 0, 0], [0, 0, 0, 0, 0], [0, 0, 0, 0, 0]] [[1, 0, 0, 0, 0], [0, 0, 0, 0, 0], [0, 0, 0, 0, 0]] [[(1, 10)], [], []]) (ky [0, 0, 0, 0, 0] [[0, 0, 0, 0, 0], [0, 0, 0, 0, 0], [0, 0, 0, 0, 0], [0, 0, 0, 0, 0], [0, 0, 0, 0, 0]] [[0, 0, 0, 0, 0], [0, 0, 0, 0, 0], [0, 0, 0, 0, 0]] [[], [], []]) [1, 0, 0, 0, 0]
def kS2 : gSt := stt (ky [0, 0, 0, 0, 0] [[0, 0, 0, 0, 0], [0, 0, 0, 0, 0], [0, 0, 0, 0, 0], [0, 0, 0, 0, 0], [0, 0, 0, 0, 0]] [[0, 0, 0, 0, 0], [0, 0, 0, 0, 0], [0, 0, 0, 0, 0]] [[], [], []]) (ky [1, 1, 0, 0, 0] [[1, 0, 0, 0, 0], [0, 1, 0, 0, 0], [0, 0, 0, 0, 0], [0, 0, 0, 0, 0], [0, 0, 0, 0, 0]] [[1, 1, 0, 0, 0], [0, 0, 0, 0, 0], [0, 0, 0, 0, 0]] [[(1, 10), (1001, 20)], [], []]) (ky [0, 0, 0, 0, 0] [[0, 0, 0, 0, 0], [0, 0, 0, 0, 0], [0, 0, 0, 0, 0], [0, 0, 0, 0, 0], [0, 0, 0, 0, 0]] [[0, 0, 0, 0, 0], [0, 0, 0, 0, 0], [0, 0, 0, 0, 0]] [[], [], []]) [2, 0, 0, 0, 0]
def kS3 : gSt := stt (ky [0, 0, 0, 0, 0] [[0, 0, 0, 0, 0], [0, 0, 0, 0, 0], [0, 0, 0, 0, 0], [0, 0, 0, 0, 0], [0, 0, 0, 0, 0]] [[0, 0, 0, 0, 0], [0, 0, 0, 0, 0], [0, 0, 0, 0, 0]] [[], [], []]) (ky [2, 1, 0, 0, 0] [[2, 0, 0, 0, 0], [0, 1, 0, 0, 0], [0, 0, 0, 0, 0], [0, 0, 0, 0, 0], [0, 0, 0, 0, 0]] [[2, 1, 0, 0, 0], [0, 0, 0, 0, 0], [0, 0, 0, 0, 0]] [[(2, 11), (1001, 20)], [], []]) (ky [0, 0, 0, 0, 0] [[0, 0, 0, 0, 0], [0, 0, 0, 0, 0], [0, 0, 0, 0, 0], [0, 0, 0, 0, 0], [0, 0, 0, 0, 0]] [[0, 0, 0, 0, 0], [0, 0, 0, 0, 0], [0, 0, 0, 0, 0]] [[], [], []]) [3, 1, 0, 0, 0]
def kS4 : gSt := stt (ky [0, 0, 0, 0, 0] [[0, 0, 0, 0, 0], [0, 0, 0, 0, 0], [0, 0, 0, 0, 0], [0, 0, 0, 0, 0], [0, 0, 0, 0, 0]] [[0, 0, 0, 0, 0], [0, 0, 0, 0, 0], [0, 0, 0, 0, 0]] [[], [], []]) (ky [2, 1, 0, 0, 0] [[2, 0, 0, 0, 0], [0, 1, 0, 0, 0], [0, 0, 0, 0, 0], [0, 0, 0, 0, 0], [0, 0, 0, 0, 0]] [[2, 1, 0, 0, 0], [2, 1, 0, 0, 0], [0, 0, 0, 0, 0]] [[(2, 11), (1001, 20)], [(2, 11), (1001, 20)], []]) (ky [0, 0, 0, 0, 0] [[0, 0, 0, 0, 0], [0, 0, 0, 0, 0], [0, 0, 0, 0, 0], [0, 0, 0, 0, 0], [0, 0, 0, 0, 0]] [[0, 0, 0, 0, 0], [0, 0, 0, 0, 0], [0, 0, 0, 0, 0]] [[], [], []]) [3, 1, 0, 0, 0]
def kS5 : gSt := stt (ky [0, 0, 0, 0, 0] [[0, 0, 0, 0, 0], [0, 0, 0, 0, 0], [0, 0, 0, 0, 0], [0, 0, 0, 0, 0], [0, 0, 0, 0, 0]] [[0, 0, 0, 0, 0], [0, 0, 0, 0, 0], [0, 0, 0, 0, 0]] [[], [], []]) (ky [2, 1, 0, 0, 0] [[2, 0, 0, 0, 0], [0, 1, 0, 0, 0], [2, 1, 0, 0, 0], [0, 0, 0, 0, 0], [0, 0, 0, 0, 0]] [[2, 1, 0, 0, 0], [2, 1, 0, 0, 0], [0, 0, 0, 0, 0]] [[(2, 11), (1001, 20)], [(2, 11), (1001, 20)], []]) (ky [0, 0, 0, 0, 0] [[0, 0, 0, 0, 0], [0, 0, 0, 0, 0], [0, 0, 0, 0, 0], [0, 0, 0, 0, 0], [0, 0, 0, 0, 0]] [[0, 0, 0, 0, 0], [0, 0, 0, 0, 0], [0, 0, 0, 0, 0]] [[], [], []]) [3, 1, 0, 0, 0]
def kS6 : gSt := stt (ky [0, 0, 0, 0, 0] [[0, 0, 0, 0, 0], [0, 0, 0, 0, 0], [0, 0, 0, 0, 0], [0, 0, 0, 0, 0], [0, 0, 0, 0, 0]] [[0, 0, 0, 0, 0], [0, 0, 0, 0, 0], [0, 0, 0, 0, 0]] [[], [], []]) (ky [2, 1, 1, 0, 0] [[2, 0, 0, 0, 0], [0, 1, 0, 0, 0], [2, 1, 1, 0, 0], [0, 0, 0, 0, 0], [0, 0, 0, 0, 0]] [[2, 1, 0, 0, 0], [2, 1, 1, 0, 0], [0, 0, 0, 0, 0]] [[(2, 11), (1001, 20)], [(2001, 30)], []]) (ky [0, 0, 0, 0, 0] [[0, 0, 0, 0, 0], [0, 0, 0, 0, 0], [0, 0, 0, 0, 0], [0, 0, 0, 0, 0], [0, 0, 0, 0, 0]] [[0, 0, 0, 0, 0], [0, 0, 0, 0, 0], [0, 0, 0, 0, 0]] [[], [], []]) [4, 3, 0, 0, 0]
def kS7 : gSt := stt (ky [0, 0, 0, 0, 0] [[0, 0, 0, 0, 0], [0, 0, 0, 0, 0], [0, 0, 0, 0, 0], [0, 0, 0, 0, 0], [0, 0, 0, 0, 0]] [[0, 0, 0, 0, 0], [0, 0, 0, 0, 0], [0, 0, 0, 0, 0]] [[], [], []]) (ky [2, 1, 1, 0, 0] [[2, 0, 0, 0, 0], [0, 1, 0, 0, 0], [2, 1, 1, 0, 0], [0, 0, 0, 0, 0], [0, 0, 0, 0, 0]] [[2, 1, 1, 0, 0], [2, 1, 1, 0, 0], [0, 0, 0, 0, 0]] [[(2001, 30)], [(2001, 30)], []]) (ky [0, 0, 0, 0, 0] [[0, 0, 0, 0, 0], [0, 0, 0, 0, 0], [0, 0, 0, 0, 0], [0, 0, 0, 0, 0], [0, 0, 0, 0, 0]] [[0, 0, 0, 0, 0], [0, 0, 0, 0, 0], [0, 0, 0, 0, 0]] [[], [], []]) [4, 3, 2, 0, 0]
def kS8 : gSt := stt (ky [0, 0, 0, 0, 0] [[0, 0, 0, 0, 0], [0, 0, 0, 0, 0], [0, 0, 0, 0, 0], [0, 0, 0, 0, 0], [0, 0, 0, 0, 0]] [[0, 0, 0, 0, 0], [0, 0, 0, 0, 0], [0, 0, 0, 0, 0]] [[], [], []]) (ky [2, 1, 1, 0, 0] [[2, 0, 0, 0, 0], [0, 1, 0, 0, 0], [2, 1, 1, 0, 0], [0, 0, 0, 0, 0], [0, 0, 0, 0, 0]] [[2, 1, 1, 0, 0], [2, 1, 1, 0, 0], [2, 1, 1, 0, 0]] [[(2001, 30)], [(2001, 30)], [(2001, 30)]]) (ky [0, 0, 0, 0, 0] [[0, 0, 0, 0, 0], [0, 0, 0, 0, 0], [0, 0, 0, 0, 0], [0, 0, 0, 0, 0], [0, 0, 0, 0, 0]] [[0, 0, 0, 0, 0], [0, 0, 0, 0, 0], [0, 0, 0, 0, 0]] [[], [], []]) [4, 3, 2, 0, 0]
def kS9 : gSt := stt (ky [0, 0, 0, 0, 0] [[0, 0, 0, 0, 0], [0, 0, 0, 0, 0], [0, 0, 0, 0, 0], [0, 0, 0, 0, 0], [0, 0, 0, 0, 0]] [[0, 0, 0, 0, 0], [0, 0, 0, 0, 0], [0, 0, 0, 0, 0]] [[], [], []]) (ky [0, 1, 1, 0, 0] [[0, 0, 0, 0, 0], [0, 1, 0, 0, 0], [0, 1, 1, 0, 0], [0, 0, 0, 0, 0], [0, 0, 0, 0, 0]] [[0, 1, 1, 0, 0], [0, 1, 1, 0, 0], [0, 1, 1, 0, 0]] [[(2001, 30)], [(2001, 30)], [(2001, 30)]]) (ky [0, 0, 0, 0, 0] [[0, 0, 0, 0, 0], [0, 0, 0, 0, 0], [0, 0, 0, 0, 0], [0, 0, 0, 0, 0], [0, 0, 0, 0, 0]] [[0, 0, 0, 0, 0], [0, 0, 0, 0, 0], [0, 0, 0, 0, 0]] [[], [], []]) [4, 3, 2, 0, 1]
def kS10 : gSt := stt (ky [0, 0, 0, 0, 0] [[0, 0, 0, 0, 0], [0, 0, 0, 0, 0], [0, 0, 0, 0, 0], [0, 0, 0, 0, 0], [0, 0, 0, 0, 0]] [[0, 0, 0, 0, 0], [0, 0, 0, 0, 0], [0, 0, 0, 0, 0]] [[], [], []]) (ky [1, 1, 1, 0, 0] [[1, 0, 0, 0, 0], [0, 1, 0, 0, 0], [0, 1, 1, 0, 0], [0, 0, 0, 0, 0], [0, 0, 0, 0, 0]] [[0, 1, 1, 0, 0], [0, 1, 1, 0, 0], [1, 1, 1, 0, 0]] [[(2001, 30)], [(2001, 30)], [(1, 99), (2001, 30)]]) (ky [0, 0, 0, 0, 0] [[0, 0, 0, 0, 0], [0, 0, 0, 0, 0], [0, 0, 0, 0, 0], [0, 0, 0, 0, 0], [0, 0, 0, 0, 0]] [[0, 0, 0, 0, 0], [0, 0, 0, 0, 0], [0, 0, 0, 0, 0]] [[], [], []]) [5, 3, 2, 0, 1]
def kS11 : gSt := stt (ky [0, 0, 0, 0, 0] [[0, 0, 0, 0, 0], [0, 0, 0, 0, 0], [0, 0, 0, 0, 0], [0, 0, 0, 0, 0], [0, 0, 0, 0, 0]] [[0, 0, 0, 0, 0], [0, 0, 0, 0, 0], [0, 0, 0, 0, 0]] [[], [], []]) (ky [1, 1, 1, 1, 0] [[1, 0, 0, 0, 0], [0, 1, 0, 0, 0], [0, 1, 1, 0, 0], [1, 1, 1, 1, 0], [0, 0, 0, 0, 0]] [[0, 1, 1, 0, 0], [0, 1, 1, 0, 0], [1, 1, 1, 1, 0]] [[(2001, 30)], [(2001, 30)], [(3001, 29)]]) (ky [0, 0, 0, 0, 0] [[0, 0, 0, 0, 0], [0, 0, 0, 0, 0], [0, 0, 0, 0, 0], [0, 0, 0, 0, 0], [0, 0, 0, 0, 0]] [[0, 0, 0, 0, 0], [0, 0, 0, 0, 0], [0, 0, 0, 0, 0]] [[], [], []]) [6, 5, 2, 1, 1]
def kS12 : gSt := stt (ky [0, 0, 0, 0, 0] [[0, 0, 0, 0, 0], [0, 0, 0, 0, 0], [0, 0, 0, 0, 0], [0, 0, 0, 0, 0], [0, 0, 0, 0, 0]] [[0, 0, 0, 0, 0], [0, 0, 0, 0, 0], [0, 0, 0, 0, 0]] [[], [], []]) (ky [1, 1, 1, 1, 0] [[1, 0, 0, 0, 0], [0, 1, 0, 0, 0], [0, 1, 1, 0, 0], [0, 0, 0, 1, 0], [0, 0, 0, 0, 0]] [[0, 1, 1, 0, 0], [0, 1, 1, 0, 0], [1, 1, 1, 1, 0]] [[(2001, 30)], [(2001, 30)], [(3001, 29)]]) (ky [0, 0, 0, 0, 0] [[0, 0, 0, 0, 0], [0, 0, 0, 0, 0], [0, 0, 0, 0, 0], [0, 0, 0, 0, 0], [0, 0, 0, 0, 0]] [[0, 0, 0, 0, 0], [0, 0, 0, 0, 0], [0, 0, 0, 0, 0]] [[], [], []]) [6, 5, 2, 1, 1]
theorem kt15 (f : Int → gSt) (bu : Nat × (Int → Int)) : oCall (kS0, (0, f), bu) 8 0 0 0 0 = (-13, 0, (kS0, (0, f), bu)) := rfl
theorem kt29 (c : Nat) (f : Int → gSt) (bu : Nat × (Int → Int)) : oCall (kS0, (c, f), bu) 3 0 0 0 0 = (-13, 0, (kS0, (c, f), bu)) := tn_join (by decide +kernel)
theorem kd42 : Op.cmpValue (FP.dcmp (gShr (tAgN (kS0, (0, fun _ => kS0), (0, fun _ => 0)))) FP.dconst1) .l = gi 0 := by decide +kernel
theorem kk47 : ckPullAll kS0 kS0 0 = true := by decide +kernel
theorem kk66_4 : ckWrite kS0 kS1 0 1 0 10 0 = true := by decide +kernel
theorem kk76_5 : ckVec kS1 0 1 0 1 = true := by decide +kernel
theorem kk87_6 : ckKno kS1 0 1 0 1 = true := by decide +kernel
theorem kk100_7 : ckWrite kS1 kS2 1 1 0 20 0 = true := by decide +kernel
theorem kk109_8 : ckKey kS2 1 0 2 = true := by decide +kernel
theorem ks126 : (ckSib kS2 0 1 0 0 0 && (ckSib kS2 0 1 0 1 1 && (ckSib kS2 0 1 0 2 10 && (ckSib kS2 0 1 0 3 1 && (ckSib kS2 0 1 0 4 1))))) = true := by decide +kernel
theorem ks142 : (ckSib kS2 0 1 1 0 1 && (ckSib kS2 0 1 1 1 1 && (ckSib kS2 0 1 1 2 20 && (ckSib kS2 0 1 1 3 2 && (ckSib kS2 0 1 1 4 1))))) = true := by decide +kernel
theorem kk153_11 : ckSib kS2 0 1 2 0 (-1) = true := by decide +kernel
theorem kd167 : Op.cmpValue (FP.dcmp (gShr (tAgN (kS2, (0, fun _ => kS2), (0, fun _ => 0)))) 4605180818965630521) .l = gi 0 := by decide +kernel
theorem kk178_13 : ckIfW kS2 0 1 0 0 1 = true := by decide +kernel
theorem kk190_14 : ckIfW kS2 0 1 0 1 2 = true := by decide +kernel
theorem kk203_15 : ckWrite kS2 kS3 0 1 0 11 1 = true := by decide +kernel
theorem ks220 : (ckSib kS3 0 1 0 0 0 && (ckSib kS3 0 1 0 1 2 && (ckSib kS3 0 1 0 2 11 && (ckSib kS3 0 1 0 3 1 && (ckSib kS3 0 1 0 4 1))))) = true := by decide +kernel
theorem kk231_17 : ckIfP kS3 1 0 1 1 2 = true := by decide +kernel
theorem kk242_18 : ckPull kS3 kS4 1 0 1 0 = true := by decide +kernel
theorem kk251_19 : ckKey kS4 1 1 2 = true := by decide +kernel
theorem kk262_20 : ckVec kS4 1 1 0 2 = true := by decide +kernel
theorem kk273_21 : ckVec kS4 1 1 1 1 = true := by decide +kernel
theorem kk284_22 : ckRead kS4 kS5 2 1 1 2 = true := by decide +kernel
theorem kk295_23 : ckKno kS5 2 1 0 2 = true := by decide +kernel
theorem kk306_24 : ckKno kS5 2 1 1 1 = true := by decide +kernel
theorem ks323 : (ckSib kS5 0 1 0 0 0 && (ckSib kS5 0 1 0 1 2 && (ckSib kS5 0 1 0 2 11 && (ckSib kS5 0 1 0 3 5 && (ckSib kS5 0 1 0 4 3))))) = true := by decide +kernel
theorem kk335_26 : ckWrite kS5 kS6 2 1 1 30 2 = true := by decide +kernel
theorem ks352 : (ckSib kS6 1 1 0 0 2 && (ckSib kS6 1 1 0 1 1 && (ckSib kS6 1 1 0 2 30 && (ckSib kS6 1 1 0 3 4 && (ckSib kS6 1 1 0 4 2))))) = true := by decide +kernel
theorem kk365_28 : ckIfP kS6 0 1 1 0 2 = true := by decide +kernel
theorem kk377_29 : ckIfP kS6 0 1 1 1 1 = true := by decide +kernel
theorem kk389_30 : ckIfP kS6 0 1 1 2 1 = true := by decide +kernel
theorem kk400_31 : ckPull kS6 kS7 0 1 1 2 = true := by decide +kernel
theorem kk410_32 : ckKey kS7 1 0 1 = true := by decide +kernel
theorem kk420_33 : ckKey kS7 1 5 0 = true := by decide +kernel
theorem kk430_34 : ckPull kS7 kS8 2 0 1 0 = true := by decide +kernel
theorem kk439_35 : ckKey kS8 1 5 1 = true := by decide +kernel
theorem kk450_36 : ckKey kS8 1 6 1 = true := by decide +kernel
theorem kk460_37 : ckKey kS8 1 3 1 = true := by decide +kernel
theorem kk471_38 : ckKey kS8 1 7 3 = true := by decide +kernel
theorem kd483 : Op.cmpValue (FP.dcmp (gShr (tAgN (kS8, (0, fun _ => kS8), (0, fun _ => 0)))) FP.dconst1) .l = gi 0 := by decide +kernel
theorem kk490_40 : ckWhy kS8 0 1 0 = true := by decide +kernel
theorem kk499_41 : ckWhy kS8 2 1 1 = true := by decide +kernel
theorem kk509_42 : ckWhy kS8 3 1 0 = true := by decide +kernel
theorem kt521 (c : Nat) (f : Int → gSt) (bu : Nat × (Int → Int)) : oCall (kS8, (c, f), bu) 5 2 1 0 0 = (-13, 0, (kS8, (c, f), bu)) := tn_forget (by decide +kernel)
theorem kk531_44 : ckCnt kS8 2 4 = true := by decide +kernel
theorem kk540_45 : ckCnt kS8 3 3 = true := by decide +kernel
theorem kk549_46 : ckCnt kS8 4 2 = true := by decide +kernel
theorem kk568_47 : ckForget kS8 kS9 0 1 2 = true := by decide +kernel
theorem kk579_48 : ckVec kS9 0 1 0 0 = true := by decide +kernel
theorem kk589_49 : ckKno kS9 2 1 0 0 = true := by decide +kernel
theorem kk599_50 : ckKno kS9 0 1 0 0 = true := by decide +kernel
theorem kk608_51 : ckKey kS9 1 4 2 = true := by decide +kernel
theorem kk618_52 : ckCnt kS9 6 1 = true := by decide +kernel
theorem kk631_53 : ckWrite kS9 kS10 0 1 2 99 0 = true := by decide +kernel
theorem ks647 : (ckSib kS10 2 1 0 0 0 && (ckSib kS10 2 1 0 1 1 && (ckSib kS10 2 1 0 2 99 && (ckSib kS10 2 1 0 3 1 && (ckSib kS10 2 1 0 4 4))))) = true := by decide +kernel
theorem ks664 : (ckSib kS10 2 1 1 0 2 && (ckSib kS10 2 1 1 1 1 && (ckSib kS10 2 1 1 2 30 && (ckSib kS10 2 1 1 3 4 && (ckSib kS10 2 1 1 4 7))))) = true := by decide +kernel
theorem kk673_56 : ckWhy kS10 0 1 1 = true := by decide +kernel
theorem kk683_57 : ckWhy kS10 1 1 0 = true := by decide +kernel
theorem kk696_58 : ckJoin kS10 kS11 3 1 2 2 29 = true := by decide +kernel
theorem kk707_59 : ckKey kS11 1 2 1 = true := by decide +kernel
theorem ks725 : (ckSib kS11 2 1 0 0 3 && (ckSib kS11 2 1 0 1 1 && (ckSib kS11 2 1 0 2 29 && (ckSib kS11 2 1 0 3 8 && (ckSib kS11 2 1 0 4 4))))) = true := by decide +kernel
theorem kk735_61 : ckKno kS11 3 1 0 1 = true := by decide +kernel
theorem kk746_62 : ckKno kS11 3 1 3 1 = true := by decide +kernel
theorem kk756_63 : ckWhy kS11 0 1 2 = true := by decide +kernel
theorem kk766_64 : ckLose kS11 kS12 3 1 3 = true := by decide +kernel
theorem kk777_65 : ckKno kS12 3 1 3 1 = true := by decide +kernel
theorem kk788_66 : ckKno kS12 3 1 2 0 = true := by decide +kernel
theorem kk796_67 : ckCnt kS12 5 1 = true := by decide +kernel
theorem kk805_68 : ckCnt kS12 2 6 = true := by decide +kernel
theorem kk815_69 : ckCnt kS12 3 5 = true := by decide +kernel
