/-! keys, its second and third object -/
def dueF : Int → Int := gup (gup (gup (gup (fun _ => 0) 0 60) 1 5) 2 5) 3 40
def rP (E0 : gEnv) (b : Nat) (h : gH) : Prop := h (b + 524) = gI (gRe E0 b) 4 dueF
theorem z_cst {E0 : gEnv} {b : Nat} {fz : Heap} {F : gFr} {t : gMt} {Q : State → Prop} {n : Nat} {σ : Option Nat} {h : gH} {kc0 ks0 pc : Nat} {L : List (Nat × Value)} {st : List Value} (kc ks : Nat) (h1 : kc0 = kc) (h2 : ks0 = ks) (k : Z E0 b fz F t Q n σ h kc ks pc L st) : Z E0 b fz F t Q n σ h kc0 ks0 pc L st := by
  subst h1
  subst h2
  exact k
def kS13 : gSt := stt (ky [1, 0, 0, 0, 0] [[1, 0, 0, 0, 0], [0, 0, 0, 0, 0], [0, 0, 0, 0, 0], [0, 0, 0, 0, 0], [0, 0, 0, 0, 0]] [[1, 0, 0, 0, 0], [0, 0, 0, 0, 0], [0, 0, 0, 0, 0]] [[(1, 40)], [], []]) (ky [0, 0, 0, 0, 0] [[0, 0, 0, 0, 0], [0, 0, 0, 0, 0], [0, 0, 0, 0, 0], [0, 0, 0, 0, 0], [0, 0, 0, 0, 0]] [[0, 0, 0, 0, 0], [0, 0, 0, 0, 0], [0, 0, 0, 0, 0]] [[], [], []]) (ky [0, 0, 0, 0, 0] [[0, 0, 0, 0, 0], [0, 0, 0, 0, 0], [0, 0, 0, 0, 0], [0, 0, 0, 0, 0], [0, 0, 0, 0, 0]] [[0, 0, 0, 0, 0], [0, 0, 0, 0, 0], [0, 0, 0, 0, 0]] [[], [], []]) [1, 0, 0, 0, 0]
def kS14 : gSt := stt (ky [1, 1, 0, 0, 0] [[1, 0, 0, 0, 0], [0, 1, 0, 0, 0], [0, 0, 0, 0, 0], [0, 0, 0, 0, 0], [0, 0, 0, 0, 0]] [[1, 1, 0, 0, 0], [0, 0, 0, 0, 0], [0, 0, 0, 0, 0]] [[(1, 40), (1001, 60)], [], []]) (ky [0, 0, 0, 0, 0] [[0, 0, 0, 0, 0], [0, 0, 0, 0, 0], [0, 0, 0, 0, 0], [0, 0, 0, 0, 0], [0, 0, 0, 0, 0]] [[0, 0, 0, 0, 0], [0, 0, 0, 0, 0], [0, 0, 0, 0, 0]] [[], [], []]) (ky [0, 0, 0, 0, 0] [[0, 0, 0, 0, 0], [0, 0, 0, 0, 0], [0, 0, 0, 0, 0], [0, 0, 0, 0, 0], [0, 0, 0, 0, 0]] [[0, 0, 0, 0, 0], [0, 0, 0, 0, 0], [0, 0, 0, 0, 0]] [[], [], []]) [2, 0, 0, 0, 0]
def kS15 : gSt := stt (ky [1, 1, 1, 0, 0] [[1, 0, 0, 0, 0], [0, 1, 0, 0, 0], [0, 0, 1, 0, 0], [0, 0, 0, 0, 0], [0, 0, 0, 0, 0]] [[1, 1, 1, 0, 0], [0, 0, 0, 0, 0], [0, 0, 0, 0, 0]] [[(1, 40), (1001, 60), (2001, 5)], [], []]) (ky [0, 0, 0, 0, 0] [[0, 0, 0, 0, 0], [0, 0, 0, 0, 0], [0, 0, 0, 0, 0], [0, 0, 0, 0, 0], [0, 0, 0, 0, 0]] [[0, 0, 0, 0, 0], [0, 0, 0, 0, 0], [0, 0, 0, 0, 0]] [[], [], []]) (ky [0, 0, 0, 0, 0] [[0, 0, 0, 0, 0], [0, 0, 0, 0, 0], [0, 0, 0, 0, 0], [0, 0, 0, 0, 0], [0, 0, 0, 0, 0]] [[0, 0, 0, 0, 0], [0, 0, 0, 0, 0], [0, 0, 0, 0, 0]] [[], [], []]) [3, 0, 0, 0, 0]
def kS16 : gSt := stt (ky [1, 1, 1, 0, 1] [[1, 0, 0, 0, 0], [0, 1, 0, 0, 0], [0, 0, 1, 0, 0], [0, 0, 0, 0, 0], [1, 1, 1, 0, 1]] [[1, 1, 1, 0, 1], [0, 0, 0, 0, 0], [0, 0, 0, 0, 0]] [[(4001, 60)], [], []]) (ky [0, 0, 0, 0, 0] [[0, 0, 0, 0, 0], [0, 0, 0, 0, 0], [0, 0, 0, 0, 0], [0, 0, 0, 0, 0], [0, 0, 0, 0, 0]] [[0, 0, 0, 0, 0], [0, 0, 0, 0, 0], [0, 0, 0, 0, 0]] [[], [], []]) (ky [0, 0, 0, 0, 0] [[0, 0, 0, 0, 0], [0, 0, 0, 0, 0], [0, 0, 0, 0, 0], [0, 0, 0, 0, 0], [0, 0, 0, 0, 0]] [[0, 0, 0, 0, 0], [0, 0, 0, 0, 0], [0, 0, 0, 0, 0]] [[], [], []]) [4, 3, 0, 1, 0]
def kS17 : gSt := stt (ky [1, 1, 1, 0, 1] [[1, 0, 0, 0, 0], [0, 1, 0, 0, 0], [0, 0, 1, 0, 0], [0, 0, 0, 0, 0], [1, 1, 1, 0, 1]] [[1, 1, 1, 0, 1], [0, 0, 0, 0, 0], [0, 0, 0, 0, 0]] [[(4001, 60)], [], []]) (ky [1, 0, 0, 0, 0] [[1, 0, 0, 0, 0], [0, 0, 0, 0, 0], [0, 0, 0, 0, 0], [0, 0, 0, 0, 0], [0, 0, 0, 0, 0]] [[1, 0, 0, 0, 0], [0, 0, 0, 0, 0], [0, 0, 0, 0, 0]] [[(1, 40)], [], []]) (ky [0, 0, 0, 0, 0] [[0, 0, 0, 0, 0], [0, 0, 0, 0, 0], [0, 0, 0, 0, 0], [0, 0, 0, 0, 0], [0, 0, 0, 0, 0]] [[0, 0, 0, 0, 0], [0, 0, 0, 0, 0], [0, 0, 0, 0, 0]] [[], [], []]) [5, 3, 0, 1, 0]
def kS18 : gSt := stt (ky [1, 1, 1, 0, 1] [[1, 0, 0, 0, 0], [0, 1, 0, 0, 0], [0, 0, 1, 0, 0], [0, 0, 0, 0, 0], [1, 1, 1, 0, 1]] [[1, 1, 1, 0, 1], [0, 0, 0, 0, 0], [0, 0, 0, 0, 0]] [[(4001, 60)], [], []]) (ky [1, 1, 0, 0, 0] [[1, 0, 0, 0, 0], [0, 1, 0, 0, 0], [0, 0, 0, 0, 0], [0, 0, 0, 0, 0], [0, 0, 0, 0, 0]] [[1, 1, 0, 0, 0], [0, 0, 0, 0, 0], [0, 0, 0, 0, 0]] [[(1, 40), (1001, 60)], [], []]) (ky [0, 0, 0, 0, 0] [[0, 0, 0, 0, 0], [0, 0, 0, 0, 0], [0, 0, 0, 0, 0], [0, 0, 0, 0, 0], [0, 0, 0, 0, 0]] [[0, 0, 0, 0, 0], [0, 0, 0, 0, 0], [0, 0, 0, 0, 0]] [[], [], []]) [6, 3, 0, 1, 0]
def kS19 : gSt := stt (ky [1, 1, 1, 0, 1] [[1, 0, 0, 0, 0], [0, 1, 0, 0, 0], [0, 0, 1, 0, 0], [0, 0, 0, 0, 0], [1, 1, 1, 0, 1]] [[1, 1, 1, 0, 1], [0, 0, 0, 0, 0], [0, 0, 0, 0, 0]] [[(4001, 60)], [], []]) (ky [1, 1, 1, 0, 0] [[1, 0, 0, 0, 0], [0, 1, 0, 0, 0], [0, 0, 1, 0, 0], [0, 0, 0, 0, 0], [0, 0, 0, 0, 0]] [[1, 1, 1, 0, 0], [0, 0, 0, 0, 0], [0, 0, 0, 0, 0]] [[(1, 40), (1001, 60), (2001, 5)], [], []]) (ky [0, 0, 0, 0, 0] [[0, 0, 0, 0, 0], [0, 0, 0, 0, 0], [0, 0, 0, 0, 0], [0, 0, 0, 0, 0], [0, 0, 0, 0, 0]] [[0, 0, 0, 0, 0], [0, 0, 0, 0, 0], [0, 0, 0, 0, 0]] [[], [], []]) [7, 3, 0, 1, 0]
def kS20 : gSt := stt (ky [1, 1, 1, 0, 1] [[1, 0, 0, 0, 0], [0, 1, 0, 0, 0], [0, 0, 1, 0, 0], [0, 0, 0, 0, 0], [1, 1, 1, 0, 1]] [[1, 1, 1, 0, 1], [0, 0, 0, 0, 0], [0, 0, 0, 0, 0]] [[(4001, 60)], [], []]) (ky [1, 1, 1, 0, 1] [[1, 0, 0, 0, 0], [0, 1, 0, 0, 0], [0, 0, 1, 0, 0], [0, 0, 0, 0, 0], [1, 1, 1, 0, 1]] [[1, 1, 1, 0, 1], [0, 0, 0, 0, 0], [0, 0, 0, 0, 0]] [[(4001, 5)], [], []]) (ky [0, 0, 0, 0, 0] [[0, 0, 0, 0, 0], [0, 0, 0, 0, 0], [0, 0, 0, 0, 0], [0, 0, 0, 0, 0], [0, 0, 0, 0, 0]] [[0, 0, 0, 0, 0], [0, 0, 0, 0, 0], [0, 0, 0, 0, 0]] [[], [], []]) [8, 6, 0, 2, 0]
def kS21 : gSt := stt (ky [1, 1, 1, 0, 1] [[1, 0, 0, 0, 0], [0, 1, 0, 0, 0], [0, 0, 1, 0, 0], [0, 0, 0, 0, 0], [1, 1, 1, 0, 1]] [[1, 1, 1, 0, 1], [0, 0, 0, 0, 0], [0, 0, 0, 0, 0]] [[(4001, 60)], [], []]) (ky [1, 1, 1, 0, 1] [[1, 0, 0, 0, 0], [0, 1, 0, 0, 0], [0, 0, 1, 0, 0], [0, 0, 0, 0, 0], [1, 1, 1, 0, 1]] [[1, 1, 1, 0, 1], [0, 0, 0, 0, 0], [0, 0, 0, 0, 0]] [[(4001, 5)], [], []]) (ky [1, 0, 0, 0, 0] [[1, 0, 0, 0, 0], [0, 0, 0, 0, 0], [0, 0, 0, 0, 0], [0, 0, 0, 0, 0], [0, 0, 0, 0, 0]] [[1, 0, 0, 0, 0], [0, 0, 0, 0, 0], [0, 0, 0, 0, 0]] [[(1, 40)], [], []]) [9, 6, 0, 2, 0]
def kS22 : gSt := stt (ky [1, 1, 1, 0, 1] [[1, 0, 0, 0, 0], [0, 1, 0, 0, 0], [0, 0, 1, 0, 0], [0, 0, 0, 0, 0], [1, 1, 1, 0, 1]] [[1, 1, 1, 0, 1], [0, 0, 0, 0, 0], [0, 0, 0, 0, 0]] [[(4001, 60)], [], []]) (ky [1, 1, 1, 0, 1] [[1, 0, 0, 0, 0], [0, 1, 0, 0, 0], [0, 0, 1, 0, 0], [0, 0, 0, 0, 0], [1, 1, 1, 0, 1]] [[1, 1, 1, 0, 1], [0, 0, 0, 0, 0], [0, 0, 0, 0, 0]] [[(4001, 5)], [], []]) (ky [1, 1, 0, 0, 0] [[1, 0, 0, 0, 0], [0, 1, 0, 0, 0], [0, 0, 0, 0, 0], [0, 0, 0, 0, 0], [0, 0, 0, 0, 0]] [[1, 1, 0, 0, 0], [0, 0, 0, 0, 0], [0, 0, 0, 0, 0]] [[(1, 40), (1001, 60)], [], []]) [10, 6, 0, 2, 0]
def kS23 : gSt := stt (ky [1, 1, 1, 0, 1] [[1, 0, 0, 0, 0], [0, 1, 0, 0, 0], [0, 0, 1, 0, 0], [0, 0, 0, 0, 0], [1, 1, 1, 0, 1]] [[1, 1, 1, 0, 1], [0, 0, 0, 0, 0], [0, 0, 0, 0, 0]] [[(4001, 60)], [], []]) (ky [1, 1, 1, 0, 1] [[1, 0, 0, 0, 0], [0, 1, 0, 0, 0], [0, 0, 1, 0, 0], [0, 0, 0, 0, 0], [1, 1, 1, 0, 1]] [[1, 1, 1, 0, 1], [0, 0, 0, 0, 0], [0, 0, 0, 0, 0]] [[(4001, 5)], [], []]) (ky [1, 1, 1, 0, 0] [[1, 0, 0, 0, 0], [0, 1, 0, 0, 0], [0, 0, 1, 0, 0], [0, 0, 0, 0, 0], [0, 0, 0, 0, 0]] [[1, 1, 1, 0, 0], [0, 0, 0, 0, 0], [0, 0, 0, 0, 0]] [[(1, 40), (1001, 60), (2001, 5)], [], []]) [11, 6, 0, 2, 0]
def kS24 : gSt := stt (ky [1, 1, 1, 0, 1] [[1, 0, 0, 0, 0], [0, 1, 0, 0, 0], [0, 0, 1, 0, 0], [0, 0, 0, 0, 0], [1, 1, 1, 0, 1]] [[1, 1, 1, 0, 1], [0, 0, 0, 0, 0], [0, 0, 0, 0, 0]] [[(4001, 60)], [], []]) (ky [1, 1, 1, 0, 1] [[1, 0, 0, 0, 0], [0, 1, 0, 0, 0], [0, 0, 1, 0, 0], [0, 0, 0, 0, 0], [1, 1, 1, 0, 1]] [[1, 1, 1, 0, 1], [0, 0, 0, 0, 0], [0, 0, 0, 0, 0]] [[(4001, 5)], [], []]) (ky [1, 1, 1, 0, 1] [[1, 0, 0, 0, 0], [0, 1, 0, 0, 0], [0, 0, 1, 0, 0], [0, 0, 0, 0, 0], [1, 1, 1, 0, 1]] [[1, 1, 1, 0, 1], [0, 0, 0, 0, 0], [0, 0, 0, 0, 0]] [[(4001, 5)], [], []]) [12, 9, 0, 3, 0]
def kS25 : gSt := stt (ky [2, 1, 1, 0, 1] [[2, 0, 0, 0, 0], [0, 1, 0, 0, 0], [0, 0, 1, 0, 0], [0, 0, 0, 0, 0], [1, 1, 1, 0, 1]] [[1, 1, 1, 0, 1], [2, 0, 0, 0, 0], [0, 0, 0, 0, 0]] [[(4001, 60)], [(2, 40)], []]) (ky [1, 1, 1, 0, 1] [[1, 0, 0, 0, 0], [0, 1, 0, 0, 0], [0, 0, 1, 0, 0], [0, 0, 0, 0, 0], [1, 1, 1, 0, 1]] [[1, 1, 1, 0, 1], [0, 0, 0, 0, 0], [0, 0, 0, 0, 0]] [[(4001, 5)], [], []]) (ky [1, 1, 1, 0, 1] [[1, 0, 0, 0, 0], [0, 1, 0, 0, 0], [0, 0, 1, 0, 0], [0, 0, 0, 0, 0], [1, 1, 1, 0, 1]] [[1, 1, 1, 0, 1], [0, 0, 0, 0, 0], [0, 0, 0, 0, 0]] [[(4001, 5)], [], []]) [13, 9, 0, 3, 0]
def kS26 : gSt := stt (ky [2, 2, 1, 0, 1] [[2, 0, 0, 0, 0], [0, 2, 0, 0, 0], [0, 0, 1, 0, 0], [0, 0, 0, 0, 0], [1, 1, 1, 0, 1]] [[1, 1, 1, 0, 1], [2, 2, 0, 0, 0], [0, 0, 0, 0, 0]] [[(4001, 60)], [(2, 40), (1002, 60)], []]) (ky [1, 1, 1, 0, 1] [[1, 0, 0, 0, 0], [0, 1, 0, 0, 0], [0, 0, 1, 0, 0], [0, 0, 0, 0, 0], [1, 1, 1, 0, 1]] [[1, 1, 1, 0, 1], [0, 0, 0, 0, 0], [0, 0, 0, 0, 0]] [[(4001, 5)], [], []]) (ky [1, 1, 1, 0, 1] [[1, 0, 0, 0, 0], [0, 1, 0, 0, 0], [0, 0, 1, 0, 0], [0, 0, 0, 0, 0], [1, 1, 1, 0, 1]] [[1, 1, 1, 0, 1], [0, 0, 0, 0, 0], [0, 0, 0, 0, 0]] [[(4001, 5)], [], []]) [14, 9, 0, 3, 0]
def kS27 : gSt := stt (ky [2, 2, 2, 0, 1] [[2, 0, 0, 0, 0], [0, 2, 0, 0, 0], [0, 0, 2, 0, 0], [0, 0, 0, 0, 0], [1, 1, 1, 0, 1]] [[1, 1, 1, 0, 1], [2, 2, 2, 0, 0], [0, 0, 0, 0, 0]] [[(4001, 60)], [(2, 40), (1002, 60), (2002, 5)], []]) (ky [1, 1, 1, 0, 1] [[1, 0, 0, 0, 0], [0, 1, 0, 0, 0], [0, 0, 1, 0, 0], [0, 0, 0, 0, 0], [1, 1, 1, 0, 1]] [[1, 1, 1, 0, 1], [0, 0, 0, 0, 0], [0, 0, 0, 0, 0]] [[(4001, 5)], [], []]) (ky [1, 1, 1, 0, 1] [[1, 0, 0, 0, 0], [0, 1, 0, 0, 0], [0, 0, 1, 0, 0], [0, 0, 0, 0, 0], [1, 1, 1, 0, 1]] [[1, 1, 1, 0, 1], [0, 0, 0, 0, 0], [0, 0, 0, 0, 0]] [[(4001, 5)], [], []]) [15, 9, 0, 3, 0]
def kS28 : gSt := stt (ky [2, 2, 2, 0, 2] [[2, 0, 0, 0, 0], [0, 2, 0, 0, 0], [0, 0, 2, 0, 0], [0, 0, 0, 0, 0], [2, 2, 2, 0, 2]] [[1, 1, 1, 0, 1], [2, 2, 2, 0, 2], [0, 0, 0, 0, 0]] [[(4001, 60)], [(4002, 40)], []]) (ky [1, 1, 1, 0, 1] [[1, 0, 0, 0, 0], [0, 1, 0, 0, 0], [0, 0, 1, 0, 0], [0, 0, 0, 0, 0], [1, 1, 1, 0, 1]] [[1, 1, 1, 0, 1], [0, 0, 0, 0, 0], [0, 0, 0, 0, 0]] [[(4001, 5)], [], []]) (ky [1, 1, 1, 0, 1] [[1, 0, 0, 0, 0], [0, 1, 0, 0, 0], [0, 0, 1, 0, 0], [0, 0, 0, 0, 0], [1, 1, 1, 0, 1]] [[1, 1, 1, 0, 1], [0, 0, 0, 0, 0], [0, 0, 0, 0, 0]] [[(4001, 5)], [], []]) [16, 12, 0, 4, 0]
def kS29 : gSt := stt (ky [1, 0, 0, 0, 0] [[1, 0, 0, 0, 0], [0, 0, 0, 0, 0], [0, 0, 0, 0, 0], [0, 0, 0, 0, 0], [0, 0, 0, 0, 0]] [[1, 0, 0, 0, 0], [0, 0, 0, 0, 0], [0, 0, 0, 0, 0]] [[(1, 0)], [], []]) (ky [0, 0, 0, 0, 0] [[0, 0, 0, 0, 0], [0, 0, 0, 0, 0], [0, 0, 0, 0, 0], [0, 0, 0, 0, 0], [0, 0, 0, 0, 0]] [[0, 0, 0, 0, 0], [0, 0, 0, 0, 0], [0, 0, 0, 0, 0]] [[], [], []]) (ky [0, 0, 0, 0, 0] [[0, 0, 0, 0, 0], [0, 0, 0, 0, 0], [0, 0, 0, 0, 0], [0, 0, 0, 0, 0], [0, 0, 0, 0, 0]] [[0, 0, 0, 0, 0], [0, 0, 0, 0, 0], [0, 0, 0, 0, 0]] [[], [], []]) [1, 0, 0, 0, 0]
def kS30 : gSt := stt (ky [1, 0, 0, 0, 0] [[1, 0, 0, 0, 0], [0, 0, 0, 0, 0], [0, 0, 0, 0, 0], [0, 0, 0, 0, 0], [0, 0, 0, 0, 0]] [[1, 0, 0, 0, 0], [0, 0, 0, 0, 0], [0, 0, 0, 0, 0]] [[(1, 0)], [], []]) (ky [0, 0, 0, 0, 0] [[0, 0, 0, 0, 0], [0, 0, 0, 0, 0], [0, 0, 0, 0, 0], [0, 0, 0, 0, 0], [0, 0, 0, 0, 0]] [[0, 0, 0, 0, 0], [0, 0, 0, 0, 0], [0, 0, 0, 0, 0]] [[], [], []]) (ky [1, 0, 0, 0, 0] [[1, 0, 0, 0, 0], [0, 0, 0, 0, 0], [0, 0, 0, 0, 0], [0, 0, 0, 0, 0], [0, 0, 0, 0, 0]] [[0, 0, 0, 0, 0], [1, 0, 0, 0, 0], [0, 0, 0, 0, 0]] [[], [(1, 0)], []]) [2, 0, 0, 0, 0]
def kS31 : gSt := stt (ky [1, 1, 0, 0, 0] [[1, 0, 0, 0, 0], [0, 1, 0, 0, 0], [0, 0, 0, 0, 0], [0, 0, 0, 0, 0], [0, 0, 0, 0, 0]] [[1, 1, 0, 0, 0], [0, 0, 0, 0, 0], [0, 0, 0, 0, 0]] [[(1, 0), (1001, 1)], [], []]) (ky [0, 0, 0, 0, 0] [[0, 0, 0, 0, 0], [0, 0, 0, 0, 0], [0, 0, 0, 0, 0], [0, 0, 0, 0, 0], [0, 0, 0, 0, 0]] [[0, 0, 0, 0, 0], [0, 0, 0, 0, 0], [0, 0, 0, 0, 0]] [[], [], []]) (ky [1, 0, 0, 0, 0] [[1, 0, 0, 0, 0], [0, 0, 0, 0, 0], [0, 0, 0, 0, 0], [0, 0, 0, 0, 0], [0, 0, 0, 0, 0]] [[0, 0, 0, 0, 0], [1, 0, 0, 0, 0], [0, 0, 0, 0, 0]] [[], [(1, 0)], []]) [3, 0, 0, 0, 0]
def kS32 : gSt := stt (ky [1, 1, 0, 0, 0] [[1, 0, 0, 0, 0], [0, 1, 0, 0, 0], [0, 0, 0, 0, 0], [0, 0, 0, 0, 0], [0, 0, 0, 0, 0]] [[1, 1, 0, 0, 0], [0, 0, 0, 0, 0], [0, 0, 0, 0, 0]] [[(1, 0), (1001, 1)], [], []]) (ky [0, 0, 0, 0, 0] [[0, 0, 0, 0, 0], [0, 0, 0, 0, 0], [0, 0, 0, 0, 0], [0, 0, 0, 0, 0], [0, 0, 0, 0, 0]] [[0, 0, 0, 0, 0], [0, 0, 0, 0, 0], [0, 0, 0, 0, 0]] [[], [], []]) (ky [1, 1, 0, 0, 0] [[1, 0, 0, 0, 0], [0, 1, 0, 0, 0], [0, 0, 0, 0, 0], [0, 0, 0, 0, 0], [0, 0, 0, 0, 0]] [[0, 0, 0, 0, 0], [1, 1, 0, 0, 0], [0, 0, 0, 0, 0]] [[], [(1, 0), (1001, 1)], []]) [4, 0, 0, 0, 0]
def kS33 : gSt := stt (ky [1, 1, 1, 0, 0] [[1, 0, 0, 0, 0], [0, 1, 0, 0, 0], [0, 0, 1, 0, 0], [0, 0, 0, 0, 0], [0, 0, 0, 0, 0]] [[1, 1, 1, 0, 0], [0, 0, 0, 0, 0], [0, 0, 0, 0, 0]] [[(1, 0), (1001, 1), (2001, 2)], [], []]) (ky [0, 0, 0, 0, 0] [[0, 0, 0, 0, 0], [0, 0, 0, 0, 0], [0, 0, 0, 0, 0], [0, 0, 0, 0, 0], [0, 0, 0, 0, 0]] [[0, 0, 0, 0, 0], [0, 0, 0, 0, 0], [0, 0, 0, 0, 0]] [[], [], []]) (ky [1, 1, 0, 0, 0] [[1, 0, 0, 0, 0], [0, 1, 0, 0, 0], [0, 0, 0, 0, 0], [0, 0, 0, 0, 0], [0, 0, 0, 0, 0]] [[0, 0, 0, 0, 0], [1, 1, 0, 0, 0], [0, 0, 0, 0, 0]] [[], [(1, 0), (1001, 1)], []]) [5, 0, 0, 0, 0]
def kS34 : gSt := stt (ky [1, 1, 1, 0, 0] [[1, 0, 0, 0, 0], [0, 1, 0, 0, 0], [0, 0, 1, 0, 0], [0, 0, 0, 0, 0], [0, 0, 0, 0, 0]] [[1, 1, 1, 0, 0], [0, 0, 0, 0, 0], [0, 0, 0, 0, 0]] [[(1, 0), (1001, 1), (2001, 2)], [], []]) (ky [0, 0, 0, 0, 0] [[0, 0, 0, 0, 0], [0, 0, 0, 0, 0], [0, 0, 0, 0, 0], [0, 0, 0, 0, 0], [0, 0, 0, 0, 0]] [[0, 0, 0, 0, 0], [0, 0, 0, 0, 0], [0, 0, 0, 0, 0]] [[], [], []]) (ky [1, 1, 1, 0, 0] [[1, 0, 0, 0, 0], [0, 1, 0, 0, 0], [0, 0, 1, 0, 0], [0, 0, 0, 0, 0], [0, 0, 0, 0, 0]] [[0, 0, 0, 0, 0], [1, 1, 1, 0, 0], [0, 0, 0, 0, 0]] [[], [(1, 0), (1001, 1), (2001, 2)], []]) [6, 0, 0, 0, 0]
def kS35 : gSt := stt (ky [1, 1, 1, 1, 0] [[1, 0, 0, 0, 0], [0, 1, 0, 0, 0], [0, 0, 1, 0, 0], [0, 0, 0, 1, 0], [0, 0, 0, 0, 0]] [[1, 1, 1, 1, 0], [0, 0, 0, 0, 0], [0, 0, 0, 0, 0]] [[(1, 0), (1001, 1), (2001, 2), (3001, 3)], [], []]) (ky [0, 0, 0, 0, 0] [[0, 0, 0, 0, 0], [0, 0, 0, 0, 0], [0, 0, 0, 0, 0], [0, 0, 0, 0, 0], [0, 0, 0, 0, 0]] [[0, 0, 0, 0, 0], [0, 0, 0, 0, 0], [0, 0, 0, 0, 0]] [[], [], []]) (ky [1, 1, 1, 0, 0] [[1, 0, 0, 0, 0], [0, 1, 0, 0, 0], [0, 0, 1, 0, 0], [0, 0, 0, 0, 0], [0, 0, 0, 0, 0]] [[0, 0, 0, 0, 0], [1, 1, 1, 0, 0], [0, 0, 0, 0, 0]] [[], [(1, 0), (1001, 1), (2001, 2)], []]) [7, 0, 0, 0, 0]
def kS36 : gSt := stt (ky [1, 1, 1, 1, 0] [[1, 0, 0, 0, 0], [0, 1, 0, 0, 0], [0, 0, 1, 0, 0], [0, 0, 0, 1, 0], [0, 0, 0, 0, 0]] [[1, 1, 1, 1, 0], [0, 0, 0, 0, 0], [0, 0, 0, 0, 0]] [[(1, 0), (1001, 1), (2001, 2), (3001, 3)], [], []]) (ky [0, 0, 0, 0, 0] [[0, 0, 0, 0, 0], [0, 0, 0, 0, 0], [0, 0, 0, 0, 0], [0, 0, 0, 0, 0], [0, 0, 0, 0, 0]] [[0, 0, 0, 0, 0], [0, 0, 0, 0, 0], [0, 0, 0, 0, 0]] [[], [], []]) (ky [1, 1, 1, 1, 0] [[1, 0, 0, 0, 0], [0, 1, 0, 0, 0], [0, 0, 1, 0, 0], [0, 0, 0, 1, 0], [0, 0, 0, 0, 0]] [[0, 0, 0, 0, 0], [1, 1, 1, 0, 0], [0, 0, 0, 1, 0]] [[], [(1, 0), (1001, 1), (2001, 2)], [(3001, 3)]]) [8, 0, 0, 0, 0]
def kS37 : gSt := stt (ky [1, 1, 1, 1, 0] [[1, 0, 0, 0, 0], [0, 1, 0, 0, 0], [0, 0, 1, 0, 0], [0, 0, 0, 1, 0], [0, 0, 0, 0, 0]] [[1, 1, 1, 1, 0], [0, 0, 0, 0, 0], [0, 0, 0, 0, 0]] [[(1, 0), (1001, 1), (2001, 2), (3001, 3)], [], []]) (ky [0, 0, 0, 0, 0] [[0, 0, 0, 0, 0], [0, 0, 0, 0, 0], [0, 0, 0, 0, 0], [0, 0, 0, 0, 0], [0, 0, 0, 0, 0]] [[0, 0, 0, 0, 0], [0, 0, 0, 0, 0], [0, 0, 0, 0, 0]] [[], [], []]) (ky [1, 1, 1, 1, 1] [[1, 0, 0, 0, 0], [0, 1, 0, 0, 0], [0, 0, 1, 0, 0], [0, 0, 0, 1, 0], [0, 0, 0, 0, 1]] [[0, 0, 0, 0, 0], [1, 1, 1, 0, 0], [0, 0, 0, 1, 1]] [[], [(1, 0), (1001, 1), (2001, 2)], [(3001, 3), (4001, 4)]]) [9, 0, 0, 0, 0]
def kS38 : gSt := stt (ky [1, 1, 1, 1, 0] [[1, 0, 0, 0, 0], [0, 1, 0, 0, 0], [0, 0, 1, 0, 0], [0, 0, 0, 1, 0], [0, 0, 0, 0, 0]] [[1, 1, 1, 1, 0], [1, 1, 1, 1, 0], [0, 0, 0, 0, 0]] [[(1, 0), (1001, 1), (2001, 2), (3001, 3)], [(1, 0), (1001, 1), (2001, 2), (3001, 3)], []]) (ky [0, 0, 0, 0, 0] [[0, 0, 0, 0, 0], [0, 0, 0, 0, 0], [0, 0, 0, 0, 0], [0, 0, 0, 0, 0], [0, 0, 0, 0, 0]] [[0, 0, 0, 0, 0], [0, 0, 0, 0, 0], [0, 0, 0, 0, 0]] [[], [], []]) (ky [1, 1, 1, 1, 1] [[1, 0, 0, 0, 0], [0, 1, 0, 0, 0], [0, 0, 1, 0, 0], [0, 0, 0, 1, 0], [0, 0, 0, 0, 1]] [[0, 0, 0, 0, 0], [1, 1, 1, 0, 0], [0, 0, 0, 1, 1]] [[], [(1, 0), (1001, 1), (2001, 2)], [(3001, 3), (4001, 4)]]) [9, 0, 0, 0, 0]
theorem kk882_70 : ckWrite kS0 kS13 0 0 0 40 0 = true := by decide +kernel
theorem kk898_71 : ckWrite kS13 kS14 1 0 0 60 0 = true := by decide +kernel
theorem kk913_72 : ckWrite kS14 kS15 2 0 0 5 0 = true := by decide +kernel
theorem kk928_73 : ckJoin kS15 kS16 4 0 0 0 60 = true := by decide +kernel
theorem kk944_74 : ckKey kS16 0 0 1 = true := by decide +kernel
theorem kk882_75 : ckWrite kS16 kS17 0 1 0 40 0 = true := by decide +kernel
theorem kk898_76 : ckWrite kS17 kS18 1 1 0 60 0 = true := by decide +kernel
theorem kk913_77 : ckWrite kS18 kS19 2 1 0 5 0 = true := by decide +kernel
theorem kk928_78 : ckJoin kS19 kS20 4 1 0 1 5 = true := by decide +kernel
theorem kk944_79 : ckKey kS20 1 0 1 = true := by decide +kernel
theorem kk882_80 : ckWrite kS20 kS21 0 2 0 40 0 = true := by decide +kernel
theorem kk898_81 : ckWrite kS21 kS22 1 2 0 60 0 = true := by decide +kernel
theorem kk913_82 : ckWrite kS22 kS23 2 2 0 5 0 = true := by decide +kernel
theorem kk928_83 : ckJoin kS23 kS24 4 2 0 2 5 = true := by decide +kernel
theorem kk944_84 : ckKey kS24 2 0 1 = true := by decide +kernel
theorem kk882_85 : ckWrite kS24 kS25 0 0 1 40 0 = true := by decide +kernel
theorem kk898_86 : ckWrite kS25 kS26 1 0 1 60 0 = true := by decide +kernel
theorem kk913_87 : ckWrite kS26 kS27 2 0 1 5 0 = true := by decide +kernel
theorem kk928_88 : ckJoin kS27 kS28 4 0 1 3 40 = true := by decide +kernel
theorem kk944_89 : ckKey kS28 0 1 1 = true := by decide +kernel
theorem kk983_90 : ckWrite kS0 kS29 0 0 0 0 0 = true := by decide +kernel
theorem kk1002_91 : ckWrite kS29 kS30 0 2 1 0 0 = true := by decide +kernel
theorem kk983_92 : ckWrite kS30 kS31 1 0 0 1 0 = true := by decide +kernel
theorem kk1002_93 : ckWrite kS31 kS32 1 2 1 1 0 = true := by decide +kernel
theorem kk983_94 : ckWrite kS32 kS33 2 0 0 2 0 = true := by decide +kernel
theorem kk1002_95 : ckWrite kS33 kS34 2 2 1 2 0 = true := by decide +kernel
theorem kk983_96 : ckWrite kS34 kS35 3 0 0 3 0 = true := by decide +kernel
theorem kk1021_97 : ckIfW kS35 4 0 0 1 5 = true := by decide +kernel
theorem kt1035 (c : Nat) (f : Int → gSt) (bu : Nat × (Int → Int)) : oCall (kS35, (c, f), bu) 1 4 0 0 7 = (-13, 0, (kS35, (c, f), bu)) := tn_write (by decide +kernel)
theorem kk1048_99 : ckWrite kS35 kS36 3 2 2 3 0 = true := by decide +kernel
theorem kk1059_100 : ckWrite kS36 kS37 4 2 2 4 0 = true := by decide +kernel
theorem kk1070_101 : ckIfP kS37 1 2 2 2 5 = true := by decide +kernel
theorem kt1083 (c : Nat) (f : Int → gSt) (bu : Nat × (Int → Int)) : oCall (kS37, (c, f), bu) 2 1 2 2 0 = (-13, 0, (kS37, (c, f), bu)) := tn_pull (by decide +kernel)
theorem kt1098 (c : Nat) (f : Int → gSt) (bu : Nat × (Int → Int)) : oCall (kS37, (c, f), bu) 17 0 0 0 0 = (-13, 0, (kS37, (c, f), bu)) := tn_pullAll (by decide +kernel)
theorem kk1119_104 : ckCnt kS37 1 4 = true := by decide +kernel
theorem kk1130_105 : ckPull kS37 kS38 1 0 0 0 = true := by decide +kernel
theorem kk1139_106 : ckKey kS38 0 1 4 = true := by decide +kernel
theorem kk1150_107 : ckCnt kS28 0 4 = true := by decide +kernel
theorem kk1159_108 : ckCnt kS28 1 1 = true := by decide +kernel
theorem kk1168_109 : ckCnt kS28 5 4 = true := by decide +kernel
section KV
variable {E0 : gEnv} {b : Nat} {fz : Heap} {F : gFr} {Q : State → Prop} {n x xp : Nat} {R : gH → Prop} {bu : Nat × (Int → Int)}
theorem ku867 (B : zB E0 F mL_keys b b 525 (rP E0 b)) (k : ∀ (f : Int → gSt) (h : gH), okT (kS0, (0, f), bu) → isJ (gRe E0 b) h b (kS0, (0, f), bu) → (rP E0 b) h → Z E0 b fz F mL_keys Q 525 none h 4552 25740 872 [(1, .ref b), (2, .ref (b + 524)), (3, .int (gi 0))] []) : ∀ (f : Int → gSt) (h : gH), okT (kS0, (0, f), bu) → isJ (gRe E0 b) h b (kS0, (0, f), bu) → (rP E0 b) h → Z E0 b fz F mL_keys Q 525 none h 4552 25740 867 [(1, .ref b), (2, .ref (b + 524)), (3, .int (gi 0))] [] := by
  intro f h hok hJ hr
  have C := B.1
  refine z_iload_n 868 C dL_keys_867 rfl rfl ?_
  refine z_iconst 869 C dL_keys_868 rfl ?_
  refine z_icmp_ge 959 872 C dL_keys_869 rfl rfl (by decide) (by decide) (fun c8 => absurd c8 (by decide)) (fun _ => ?_)
  exact k _ _ hok hJ hr
theorem ku872 (B : zB E0 F mL_keys b b 525 (rP E0 b)) (k : ∀ (f : Int → gSt) (h : gH), okT (kS13, (1, f), bu) → isJ (gRe E0 b) h b (kS13, (1, f), bu) → (rP E0 b) h → Z E0 b fz F mL_keys Q 525 none h 4557 25770 888 [(1, .ref b), (2, .ref (b + 524)), (3, .int (gi 0))] []) : ∀ (f : Int → gSt) (h : gH), okT (kS0, (0, f), bu) → isJ (gRe E0 b) h b (kS0, (0, f), bu) → (rP E0 b) h → Z E0 b fz F mL_keys Q 525 none h 4552 25740 872 [(1, .ref b), (2, .ref (b + 524)), (3, .int (gi 0))] [] := by
  intro f h hok hJ hr
  have C := B.1
  refine z_aload_n 873 C dL_keys_872 rfl rfl ?_
  refine z_iconst 874 C dL_keys_873 rfl ?_
  refine z_iload_n 875 C dL_keys_874 rfl rfl ?_
  refine z_iconst 876 C dL_keys_875 rfl ?_
  refine z_irem 877 C dL_keys_876 (by decide) (by decide) rfl ?_
  refine z_val 0 rfl ?_
  refine z_iload_n 878 C dL_keys_877 rfl rfl ?_
  refine z_iconst 879 C dL_keys_878 rfl ?_
  refine z_idiv 880 C dL_keys_879 (by decide) (by decide) rfl ?_
  refine z_val 0 rfl ?_
  refine z_bipush 882 C dL_keys_880 (by decide) rfl ?_
  refine zu_Write 0 0 0 40 0 kS13 kk882_70 885 4557 25770 B dL_keys_882 ⟨⟨by decide, by decide⟩, by decide, by decide⟩ (Nat.le_of_ble_eq_true rfl) rfl rfl rfl hok hJ hr (fun h1 o1 J1 r1 => ?_)
  refine z_if_ne 951 888 C dL_keys_885 rfl rfl (by decide) (fun c8 => absurd c8 (by decide)) (fun _ => ?_)
  exact k _ _ o1 J1 r1
theorem ku888 (B : zB E0 F mL_keys b b 525 (rP E0 b)) (k : ∀ (f : Int → gSt) (h : gH), okT (kS14, (2, f), bu) → isJ (gRe E0 b) h b (kS14, (2, f), bu) → (rP E0 b) h → Z E0 b fz F mL_keys Q 525 none h 4562 25800 904 [(1, .ref b), (2, .ref (b + 524)), (3, .int (gi 0))] []) : ∀ (f : Int → gSt) (h : gH), okT (kS13, (1, f), bu) → isJ (gRe E0 b) h b (kS13, (1, f), bu) → (rP E0 b) h → Z E0 b fz F mL_keys Q 525 none h 4557 25770 888 [(1, .ref b), (2, .ref (b + 524)), (3, .int (gi 0))] [] := by
  intro f h hok hJ hr
  have C := B.1
  refine z_aload_n 889 C dL_keys_888 rfl rfl ?_
  refine z_iconst 890 C dL_keys_889 rfl ?_
  refine z_iload_n 891 C dL_keys_890 rfl rfl ?_
  refine z_iconst 892 C dL_keys_891 rfl ?_
  refine z_irem 893 C dL_keys_892 (by decide) (by decide) rfl ?_
  refine z_val 0 rfl ?_
  refine z_iload_n 894 C dL_keys_893 rfl rfl ?_
  refine z_iconst 895 C dL_keys_894 rfl ?_
  refine z_idiv 896 C dL_keys_895 (by decide) (by decide) rfl ?_
  refine z_val 0 rfl ?_
  refine z_bipush 898 C dL_keys_896 (by decide) rfl ?_
  refine zu_Write 1 0 0 60 0 kS14 kk898_71 901 4562 25800 B dL_keys_898 ⟨⟨by decide, by decide⟩, by decide, by decide⟩ (Nat.le_of_ble_eq_true rfl) rfl rfl rfl hok hJ hr (fun h1 o1 J1 r1 => ?_)
  refine z_if_ne 951 904 C dL_keys_901 rfl rfl (by decide) (fun c8 => absurd c8 (by decide)) (fun _ => ?_)
  exact k _ _ o1 J1 r1
theorem ku904 (B : zB E0 F mL_keys b b 525 (rP E0 b)) (k : ∀ (f : Int → gSt) (h : gH), okT (kS15, (3, f), bu) → isJ (gRe E0 b) h b (kS15, (3, f), bu) → (rP E0 b) h → Z E0 b fz F mL_keys Q 525 none h 4567 25830 919 [(1, .ref b), (2, .ref (b + 524)), (3, .int (gi 0))] []) : ∀ (f : Int → gSt) (h : gH), okT (kS14, (2, f), bu) → isJ (gRe E0 b) h b (kS14, (2, f), bu) → (rP E0 b) h → Z E0 b fz F mL_keys Q 525 none h 4562 25800 904 [(1, .ref b), (2, .ref (b + 524)), (3, .int (gi 0))] [] := by
  intro f h hok hJ hr
  have C := B.1
  refine z_aload_n 905 C dL_keys_904 rfl rfl ?_
  refine z_iconst 906 C dL_keys_905 rfl ?_
  refine z_iload_n 907 C dL_keys_906 rfl rfl ?_
  refine z_iconst 908 C dL_keys_907 rfl ?_
  refine z_irem 909 C dL_keys_908 (by decide) (by decide) rfl ?_
  refine z_val 0 rfl ?_
  refine z_iload_n 910 C dL_keys_909 rfl rfl ?_
  refine z_iconst 911 C dL_keys_910 rfl ?_
  refine z_idiv 912 C dL_keys_911 (by decide) (by decide) rfl ?_
  refine z_val 0 rfl ?_
  refine z_iconst 913 C dL_keys_912 rfl ?_
  refine zu_Write 2 0 0 5 0 kS15 kk913_72 916 4567 25830 B dL_keys_913 ⟨⟨by decide, by decide⟩, by decide, by decide⟩ (Nat.le_of_ble_eq_true rfl) rfl rfl rfl hok hJ hr (fun h1 o1 J1 r1 => ?_)
  refine z_if_ne 951 919 C dL_keys_916 rfl rfl (by decide) (fun c8 => absurd c8 (by decide)) (fun _ => ?_)
  exact k _ _ o1 J1 r1
theorem ku919 (B : zB E0 F mL_keys b b 525 (rP E0 b)) (k : ∀ (f : Int → gSt) (h : gH), okT (kS16, (4, f), bu) → isJ (gRe E0 b) h b (kS16, (4, f), bu) → (rP E0 b) h → Z E0 b fz F mL_keys Q 525 none h 4572 25860 937 [(1, .ref b), (2, .ref (b + 524)), (3, .int (gi 0))] []) : ∀ (f : Int → gSt) (h : gH), okT (kS15, (3, f), bu) → isJ (gRe E0 b) h b (kS15, (3, f), bu) → (rP E0 b) h → Z E0 b fz F mL_keys Q 525 none h 4567 25830 919 [(1, .ref b), (2, .ref (b + 524)), (3, .int (gi 0))] [] := by
  intro f h hok hJ hr
  have C := B.1
  refine z_aload_n 920 C dL_keys_919 rfl rfl ?_
  refine z_iconst 921 C dL_keys_920 rfl ?_
  refine z_iload_n 922 C dL_keys_921 rfl rfl ?_
  refine z_iconst 923 C dL_keys_922 rfl ?_
  refine z_irem 924 C dL_keys_923 (by decide) (by decide) rfl ?_
  refine z_val 0 rfl ?_
  refine z_iload_n 925 C dL_keys_924 rfl rfl ?_
  refine z_iconst 926 C dL_keys_925 rfl ?_
  refine z_idiv 927 C dL_keys_926 (by decide) (by decide) rfl ?_
  refine z_val 0 rfl ?_
  refine z_iload_n 928 C dL_keys_927 rfl rfl ?_
  refine zu_Join 4 0 0 0 60 kS16 kk928_73 931 4572 25860 B dL_keys_928 ⟨⟨by decide, by decide⟩, by decide, by decide⟩ (Nat.le_of_ble_eq_true rfl) rfl rfl rfl hok hJ hr (fun h1 o1 J1 r1 => ?_)
  refine z_aload_n 932 C dL_keys_931 rfl rfl ?_
  refine z_iload_n 933 C dL_keys_932 rfl rfl ?_
  refine z_iald 934 C dL_keys_933 ⟨by show b ≤ b + 524; omega, by show b + 524 < b + 525; omega⟩ r1 (by decide) (by decide) rfl ?_
  refine z_val 60 (by decide) ?_
  refine z_icmp_ne 951 937 C dL_keys_934 rfl rfl (by decide) (by decide) (fun c8 => absurd c8 (by decide)) (fun _ => ?_)
  exact k _ _ o1 J1 r1
theorem ku937 (B : zB E0 F mL_keys b b 525 (rP E0 b)) (k : ∀ (f : Int → gSt) (h : gH), okT (kS16, (4, f), bu) → isJ (gRe E0 b) h b (kS16, (4, f), bu) → (rP E0 b) h → Z E0 b fz F mL_keys Q 525 none h 4574 25872 953 [(1, .ref b), (2, .ref (b + 524)), (3, .int (gi 0))] []) : ∀ (f : Int → gSt) (h : gH), okT (kS16, (4, f), bu) → isJ (gRe E0 b) h b (kS16, (4, f), bu) → (rP E0 b) h → Z E0 b fz F mL_keys Q 525 none h 4572 25860 937 [(1, .ref b), (2, .ref (b + 524)), (3, .int (gi 0))] [] := by
  intro f h hok hJ hr
  have C := B.1
  refine z_aload_n 938 C dL_keys_937 rfl rfl ?_
  refine z_iload_n 939 C dL_keys_938 rfl rfl ?_
  refine z_iconst 940 C dL_keys_939 rfl ?_
  refine z_irem 941 C dL_keys_940 (by decide) (by decide) rfl ?_
  refine z_val 0 rfl ?_
  refine z_iload_n 942 C dL_keys_941 rfl rfl ?_
  refine z_iconst 943 C dL_keys_942 rfl ?_
  refine z_idiv 944 C dL_keys_943 (by decide) (by decide) rfl ?_
  refine z_val 0 rfl ?_
  refine zu_Key 0 0 1 kk944_74 947 4574 25872 B dL_keys_944 ⟨⟨by decide, by decide⟩, by decide, by decide⟩ (Nat.le_of_ble_eq_true rfl) rfl rfl rfl hok hJ hr (fun h1 J1 r1 => ?_)
  refine z_iconst 948 C dL_keys_947 rfl ?_
  refine z_icmp_eq 953 951 C dL_keys_948 rfl rfl (by decide) (by decide) (fun _ => ?_) (fun c8 => absurd c8 (by decide))
  exact k _ _ hok J1 r1
theorem ku953 (B : zB E0 F mL_keys b b 525 (rP E0 b)) (k : ∀ (f : Int → gSt) (h : gH), okT (kS16, (4, f), bu) → isJ (gRe E0 b) h b (kS16, (4, f), bu) → (rP E0 b) h → Z E0 b fz F mL_keys Q 525 none h 4574 25872 872 [(1, .ref b), (2, .ref (b + 524)), (3, .int (gi 1))] []) : ∀ (f : Int → gSt) (h : gH), okT (kS16, (4, f), bu) → isJ (gRe E0 b) h b (kS16, (4, f), bu) → (rP E0 b) h → Z E0 b fz F mL_keys Q 525 none h 4574 25872 953 [(1, .ref b), (2, .ref (b + 524)), (3, .int (gi 0))] [] := by
  intro f h hok hJ hr
  have C := B.1
  refine z_iinc 956 [(3, _), (1, _), (2, _)] C dL_keys_953 rfl (by decide) rfl rfl ?_
  refine z_loc [(1, .ref b), (2, .ref (b + 524)), (3, .int (gi 1))] ⟨rfl, rfl, rfl, trivial⟩ ?_
  refine z_goto 867 C dL_keys_956 rfl ?_
  refine z_iload_n 868 C dL_keys_867 rfl rfl ?_
  refine z_iconst 869 C dL_keys_868 rfl ?_
  refine z_icmp_ge 959 872 C dL_keys_869 rfl rfl (by decide) (by decide) (fun c8 => absurd c8 (by decide)) (fun _ => ?_)
  exact k _ _ hok hJ hr
theorem ku872_79 (B : zB E0 F mL_keys b b 525 (rP E0 b)) (k : ∀ (f : Int → gSt) (h : gH), okT (kS17, (5, f), bu) → isJ (gRe E0 b) h b (kS17, (5, f), bu) → (rP E0 b) h → Z E0 b fz F mL_keys Q 525 none h 4579 25902 888 [(1, .ref b), (2, .ref (b + 524)), (3, .int (gi 1))] []) : ∀ (f : Int → gSt) (h : gH), okT (kS16, (4, f), bu) → isJ (gRe E0 b) h b (kS16, (4, f), bu) → (rP E0 b) h → Z E0 b fz F mL_keys Q 525 none h 4574 25872 872 [(1, .ref b), (2, .ref (b + 524)), (3, .int (gi 1))] [] := by
  intro f h hok hJ hr
  have C := B.1
  refine z_aload_n 873 C dL_keys_872 rfl rfl ?_
  refine z_iconst 874 C dL_keys_873 rfl ?_
  refine z_iload_n 875 C dL_keys_874 rfl rfl ?_
  refine z_iconst 876 C dL_keys_875 rfl ?_
  refine z_irem 877 C dL_keys_876 (by decide) (by decide) rfl ?_
  refine z_val 1 rfl ?_
  refine z_iload_n 878 C dL_keys_877 rfl rfl ?_
  refine z_iconst 879 C dL_keys_878 rfl ?_
  refine z_idiv 880 C dL_keys_879 (by decide) (by decide) rfl ?_
  refine z_val 0 rfl ?_
  refine z_bipush 882 C dL_keys_880 (by decide) rfl ?_
  refine zu_Write 0 1 0 40 0 kS17 kk882_75 885 4579 25902 B dL_keys_882 ⟨⟨by decide, by decide⟩, by decide, by decide⟩ (Nat.le_of_ble_eq_true rfl) rfl rfl rfl hok hJ hr (fun h1 o1 J1 r1 => ?_)
  refine z_if_ne 951 888 C dL_keys_885 rfl rfl (by decide) (fun c8 => absurd c8 (by decide)) (fun _ => ?_)
  exact k _ _ o1 J1 r1
theorem ku888_80 (B : zB E0 F mL_keys b b 525 (rP E0 b)) (k : ∀ (f : Int → gSt) (h : gH), okT (kS18, (6, f), bu) → isJ (gRe E0 b) h b (kS18, (6, f), bu) → (rP E0 b) h → Z E0 b fz F mL_keys Q 525 none h 4584 25932 904 [(1, .ref b), (2, .ref (b + 524)), (3, .int (gi 1))] []) : ∀ (f : Int → gSt) (h : gH), okT (kS17, (5, f), bu) → isJ (gRe E0 b) h b (kS17, (5, f), bu) → (rP E0 b) h → Z E0 b fz F mL_keys Q 525 none h 4579 25902 888 [(1, .ref b), (2, .ref (b + 524)), (3, .int (gi 1))] [] := by
  intro f h hok hJ hr
  have C := B.1
  refine z_aload_n 889 C dL_keys_888 rfl rfl ?_
  refine z_iconst 890 C dL_keys_889 rfl ?_
  refine z_iload_n 891 C dL_keys_890 rfl rfl ?_
  refine z_iconst 892 C dL_keys_891 rfl ?_
  refine z_irem 893 C dL_keys_892 (by decide) (by decide) rfl ?_
  refine z_val 1 rfl ?_
  refine z_iload_n 894 C dL_keys_893 rfl rfl ?_
  refine z_iconst 895 C dL_keys_894 rfl ?_
  refine z_idiv 896 C dL_keys_895 (by decide) (by decide) rfl ?_
  refine z_val 0 rfl ?_
  refine z_bipush 898 C dL_keys_896 (by decide) rfl ?_
  refine zu_Write 1 1 0 60 0 kS18 kk898_76 901 4584 25932 B dL_keys_898 ⟨⟨by decide, by decide⟩, by decide, by decide⟩ (Nat.le_of_ble_eq_true rfl) rfl rfl rfl hok hJ hr (fun h1 o1 J1 r1 => ?_)
  refine z_if_ne 951 904 C dL_keys_901 rfl rfl (by decide) (fun c8 => absurd c8 (by decide)) (fun _ => ?_)
  exact k _ _ o1 J1 r1
theorem ku904_81 (B : zB E0 F mL_keys b b 525 (rP E0 b)) (k : ∀ (f : Int → gSt) (h : gH), okT (kS19, (6, f), bu) → isJ (gRe E0 b) h b (kS19, (6, f), bu) → (rP E0 b) h → Z E0 b fz F mL_keys Q 525 none h 4589 25962 919 [(1, .ref b), (2, .ref (b + 524)), (3, .int (gi 1))] []) : ∀ (f : Int → gSt) (h : gH), okT (kS18, (6, f), bu) → isJ (gRe E0 b) h b (kS18, (6, f), bu) → (rP E0 b) h → Z E0 b fz F mL_keys Q 525 none h 4584 25932 904 [(1, .ref b), (2, .ref (b + 524)), (3, .int (gi 1))] [] := by
  intro f h hok hJ hr
  have C := B.1
  refine z_aload_n 905 C dL_keys_904 rfl rfl ?_
  refine z_iconst 906 C dL_keys_905 rfl ?_
  refine z_iload_n 907 C dL_keys_906 rfl rfl ?_
  refine z_iconst 908 C dL_keys_907 rfl ?_
  refine z_irem 909 C dL_keys_908 (by decide) (by decide) rfl ?_
  refine z_val 1 rfl ?_
  refine z_iload_n 910 C dL_keys_909 rfl rfl ?_
  refine z_iconst 911 C dL_keys_910 rfl ?_
  refine z_idiv 912 C dL_keys_911 (by decide) (by decide) rfl ?_
  refine z_val 0 rfl ?_
  refine z_iconst 913 C dL_keys_912 rfl ?_
  refine zu_Write 2 1 0 5 0 kS19 kk913_77 916 4589 25962 B dL_keys_913 ⟨⟨by decide, by decide⟩, by decide, by decide⟩ (Nat.le_of_ble_eq_true rfl) rfl rfl rfl hok hJ hr (fun h1 o1 J1 r1 => ?_)
  refine z_if_ne 951 919 C dL_keys_916 rfl rfl (by decide) (fun c8 => absurd c8 (by decide)) (fun _ => ?_)
  exact k _ _ o1 J1 r1
theorem ku919_82 (B : zB E0 F mL_keys b b 525 (rP E0 b)) (k : ∀ (f : Int → gSt) (h : gH), okT (kS20, (6, f), bu) → isJ (gRe E0 b) h b (kS20, (6, f), bu) → (rP E0 b) h → Z E0 b fz F mL_keys Q 525 none h 4594 25992 937 [(1, .ref b), (2, .ref (b + 524)), (3, .int (gi 1))] []) : ∀ (f : Int → gSt) (h : gH), okT (kS19, (6, f), bu) → isJ (gRe E0 b) h b (kS19, (6, f), bu) → (rP E0 b) h → Z E0 b fz F mL_keys Q 525 none h 4589 25962 919 [(1, .ref b), (2, .ref (b + 524)), (3, .int (gi 1))] [] := by
  intro f h hok hJ hr
  have C := B.1
  refine z_aload_n 920 C dL_keys_919 rfl rfl ?_
  refine z_iconst 921 C dL_keys_920 rfl ?_
  refine z_iload_n 922 C dL_keys_921 rfl rfl ?_
  refine z_iconst 923 C dL_keys_922 rfl ?_
  refine z_irem 924 C dL_keys_923 (by decide) (by decide) rfl ?_
  refine z_val 1 rfl ?_
  refine z_iload_n 925 C dL_keys_924 rfl rfl ?_
  refine z_iconst 926 C dL_keys_925 rfl ?_
  refine z_idiv 927 C dL_keys_926 (by decide) (by decide) rfl ?_
  refine z_val 0 rfl ?_
  refine z_iload_n 928 C dL_keys_927 rfl rfl ?_
  refine zu_Join 4 1 0 1 5 kS20 kk928_78 931 4594 25992 B dL_keys_928 ⟨⟨by decide, by decide⟩, by decide, by decide⟩ (Nat.le_of_ble_eq_true rfl) rfl rfl rfl hok hJ hr (fun h1 o1 J1 r1 => ?_)
  refine z_aload_n 932 C dL_keys_931 rfl rfl ?_
  refine z_iload_n 933 C dL_keys_932 rfl rfl ?_
  refine z_iald 934 C dL_keys_933 ⟨by show b ≤ b + 524; omega, by show b + 524 < b + 525; omega⟩ r1 (by decide) (by decide) rfl ?_
  refine z_val 5 (by decide) ?_
  refine z_icmp_ne 951 937 C dL_keys_934 rfl rfl (by decide) (by decide) (fun c8 => absurd c8 (by decide)) (fun _ => ?_)
  exact k _ _ o1 J1 r1
theorem ku937_83 (B : zB E0 F mL_keys b b 525 (rP E0 b)) (k : ∀ (f : Int → gSt) (h : gH), okT (kS20, (6, f), bu) → isJ (gRe E0 b) h b (kS20, (6, f), bu) → (rP E0 b) h → Z E0 b fz F mL_keys Q 525 none h 4596 26004 953 [(1, .ref b), (2, .ref (b + 524)), (3, .int (gi 1))] []) : ∀ (f : Int → gSt) (h : gH), okT (kS20, (6, f), bu) → isJ (gRe E0 b) h b (kS20, (6, f), bu) → (rP E0 b) h → Z E0 b fz F mL_keys Q 525 none h 4594 25992 937 [(1, .ref b), (2, .ref (b + 524)), (3, .int (gi 1))] [] := by
  intro f h hok hJ hr
  have C := B.1
  refine z_aload_n 938 C dL_keys_937 rfl rfl ?_
  refine z_iload_n 939 C dL_keys_938 rfl rfl ?_
  refine z_iconst 940 C dL_keys_939 rfl ?_
  refine z_irem 941 C dL_keys_940 (by decide) (by decide) rfl ?_
  refine z_val 1 rfl ?_
  refine z_iload_n 942 C dL_keys_941 rfl rfl ?_
  refine z_iconst 943 C dL_keys_942 rfl ?_
  refine z_idiv 944 C dL_keys_943 (by decide) (by decide) rfl ?_
  refine z_val 0 rfl ?_
  refine zu_Key 1 0 1 kk944_79 947 4596 26004 B dL_keys_944 ⟨⟨by decide, by decide⟩, by decide, by decide⟩ (Nat.le_of_ble_eq_true rfl) rfl rfl rfl hok hJ hr (fun h1 J1 r1 => ?_)
  refine z_iconst 948 C dL_keys_947 rfl ?_
  refine z_icmp_eq 953 951 C dL_keys_948 rfl rfl (by decide) (by decide) (fun _ => ?_) (fun c8 => absurd c8 (by decide))
  exact k _ _ hok J1 r1
theorem ku953_84 (B : zB E0 F mL_keys b b 525 (rP E0 b)) (k : ∀ (f : Int → gSt) (h : gH), okT (kS20, (6, f), bu) → isJ (gRe E0 b) h b (kS20, (6, f), bu) → (rP E0 b) h → Z E0 b fz F mL_keys Q 525 none h 4596 26004 872 [(1, .ref b), (2, .ref (b + 524)), (3, .int (gi 2))] []) : ∀ (f : Int → gSt) (h : gH), okT (kS20, (6, f), bu) → isJ (gRe E0 b) h b (kS20, (6, f), bu) → (rP E0 b) h → Z E0 b fz F mL_keys Q 525 none h 4596 26004 953 [(1, .ref b), (2, .ref (b + 524)), (3, .int (gi 1))] [] := by
  intro f h hok hJ hr
  have C := B.1
  refine z_iinc 956 [(3, _), (1, _), (2, _)] C dL_keys_953 rfl (by decide) rfl rfl ?_
  refine z_loc [(1, .ref b), (2, .ref (b + 524)), (3, .int (gi 2))] ⟨rfl, rfl, rfl, trivial⟩ ?_
  refine z_goto 867 C dL_keys_956 rfl ?_
  refine z_iload_n 868 C dL_keys_867 rfl rfl ?_
  refine z_iconst 869 C dL_keys_868 rfl ?_
  refine z_icmp_ge 959 872 C dL_keys_869 rfl rfl (by decide) (by decide) (fun c8 => absurd c8 (by decide)) (fun _ => ?_)
  exact k _ _ hok hJ hr
theorem ku872_85 (B : zB E0 F mL_keys b b 525 (rP E0 b)) (k : ∀ (f : Int → gSt) (h : gH), okT (kS21, (6, f), bu) → isJ (gRe E0 b) h b (kS21, (6, f), bu) → (rP E0 b) h → Z E0 b fz F mL_keys Q 525 none h 4601 26034 888 [(1, .ref b), (2, .ref (b + 524)), (3, .int (gi 2))] []) : ∀ (f : Int → gSt) (h : gH), okT (kS20, (6, f), bu) → isJ (gRe E0 b) h b (kS20, (6, f), bu) → (rP E0 b) h → Z E0 b fz F mL_keys Q 525 none h 4596 26004 872 [(1, .ref b), (2, .ref (b + 524)), (3, .int (gi 2))] [] := by
  intro f h hok hJ hr
  have C := B.1
  refine z_aload_n 873 C dL_keys_872 rfl rfl ?_
  refine z_iconst 874 C dL_keys_873 rfl ?_
  refine z_iload_n 875 C dL_keys_874 rfl rfl ?_
  refine z_iconst 876 C dL_keys_875 rfl ?_
  refine z_irem 877 C dL_keys_876 (by decide) (by decide) rfl ?_
  refine z_val 2 rfl ?_
  refine z_iload_n 878 C dL_keys_877 rfl rfl ?_
  refine z_iconst 879 C dL_keys_878 rfl ?_
  refine z_idiv 880 C dL_keys_879 (by decide) (by decide) rfl ?_
  refine z_val 0 rfl ?_
  refine z_bipush 882 C dL_keys_880 (by decide) rfl ?_
  refine zu_Write 0 2 0 40 0 kS21 kk882_80 885 4601 26034 B dL_keys_882 ⟨⟨by decide, by decide⟩, by decide, by decide⟩ (Nat.le_of_ble_eq_true rfl) rfl rfl rfl hok hJ hr (fun h1 o1 J1 r1 => ?_)
  refine z_if_ne 951 888 C dL_keys_885 rfl rfl (by decide) (fun c8 => absurd c8 (by decide)) (fun _ => ?_)
  exact k _ _ o1 J1 r1
theorem ku888_86 (B : zB E0 F mL_keys b b 525 (rP E0 b)) (k : ∀ (f : Int → gSt) (h : gH), okT (kS22, (6, f), bu) → isJ (gRe E0 b) h b (kS22, (6, f), bu) → (rP E0 b) h → Z E0 b fz F mL_keys Q 525 none h 4606 26064 904 [(1, .ref b), (2, .ref (b + 524)), (3, .int (gi 2))] []) : ∀ (f : Int → gSt) (h : gH), okT (kS21, (6, f), bu) → isJ (gRe E0 b) h b (kS21, (6, f), bu) → (rP E0 b) h → Z E0 b fz F mL_keys Q 525 none h 4601 26034 888 [(1, .ref b), (2, .ref (b + 524)), (3, .int (gi 2))] [] := by
  intro f h hok hJ hr
  have C := B.1
  refine z_aload_n 889 C dL_keys_888 rfl rfl ?_
  refine z_iconst 890 C dL_keys_889 rfl ?_
  refine z_iload_n 891 C dL_keys_890 rfl rfl ?_
  refine z_iconst 892 C dL_keys_891 rfl ?_
  refine z_irem 893 C dL_keys_892 (by decide) (by decide) rfl ?_
  refine z_val 2 rfl ?_
  refine z_iload_n 894 C dL_keys_893 rfl rfl ?_
  refine z_iconst 895 C dL_keys_894 rfl ?_
  refine z_idiv 896 C dL_keys_895 (by decide) (by decide) rfl ?_
  refine z_val 0 rfl ?_
  refine z_bipush 898 C dL_keys_896 (by decide) rfl ?_
  refine zu_Write 1 2 0 60 0 kS22 kk898_81 901 4606 26064 B dL_keys_898 ⟨⟨by decide, by decide⟩, by decide, by decide⟩ (Nat.le_of_ble_eq_true rfl) rfl rfl rfl hok hJ hr (fun h1 o1 J1 r1 => ?_)
  refine z_if_ne 951 904 C dL_keys_901 rfl rfl (by decide) (fun c8 => absurd c8 (by decide)) (fun _ => ?_)
  exact k _ _ o1 J1 r1
theorem ku904_87 (B : zB E0 F mL_keys b b 525 (rP E0 b)) (k : ∀ (f : Int → gSt) (h : gH), okT (kS23, (6, f), bu) → isJ (gRe E0 b) h b (kS23, (6, f), bu) → (rP E0 b) h → Z E0 b fz F mL_keys Q 525 none h 4611 26094 919 [(1, .ref b), (2, .ref (b + 524)), (3, .int (gi 2))] []) : ∀ (f : Int → gSt) (h : gH), okT (kS22, (6, f), bu) → isJ (gRe E0 b) h b (kS22, (6, f), bu) → (rP E0 b) h → Z E0 b fz F mL_keys Q 525 none h 4606 26064 904 [(1, .ref b), (2, .ref (b + 524)), (3, .int (gi 2))] [] := by
  intro f h hok hJ hr
  have C := B.1
  refine z_aload_n 905 C dL_keys_904 rfl rfl ?_
  refine z_iconst 906 C dL_keys_905 rfl ?_
  refine z_iload_n 907 C dL_keys_906 rfl rfl ?_
  refine z_iconst 908 C dL_keys_907 rfl ?_
  refine z_irem 909 C dL_keys_908 (by decide) (by decide) rfl ?_
  refine z_val 2 rfl ?_
  refine z_iload_n 910 C dL_keys_909 rfl rfl ?_
  refine z_iconst 911 C dL_keys_910 rfl ?_
  refine z_idiv 912 C dL_keys_911 (by decide) (by decide) rfl ?_
  refine z_val 0 rfl ?_
  refine z_iconst 913 C dL_keys_912 rfl ?_
  refine zu_Write 2 2 0 5 0 kS23 kk913_82 916 4611 26094 B dL_keys_913 ⟨⟨by decide, by decide⟩, by decide, by decide⟩ (Nat.le_of_ble_eq_true rfl) rfl rfl rfl hok hJ hr (fun h1 o1 J1 r1 => ?_)
  refine z_if_ne 951 919 C dL_keys_916 rfl rfl (by decide) (fun c8 => absurd c8 (by decide)) (fun _ => ?_)
  exact k _ _ o1 J1 r1
theorem ku919_88 (B : zB E0 F mL_keys b b 525 (rP E0 b)) (k : ∀ (f : Int → gSt) (h : gH), okT (kS24, (6, f), bu) → isJ (gRe E0 b) h b (kS24, (6, f), bu) → (rP E0 b) h → Z E0 b fz F mL_keys Q 525 none h 4616 26124 937 [(1, .ref b), (2, .ref (b + 524)), (3, .int (gi 2))] []) : ∀ (f : Int → gSt) (h : gH), okT (kS23, (6, f), bu) → isJ (gRe E0 b) h b (kS23, (6, f), bu) → (rP E0 b) h → Z E0 b fz F mL_keys Q 525 none h 4611 26094 919 [(1, .ref b), (2, .ref (b + 524)), (3, .int (gi 2))] [] := by
  intro f h hok hJ hr
  have C := B.1
  refine z_aload_n 920 C dL_keys_919 rfl rfl ?_
  refine z_iconst 921 C dL_keys_920 rfl ?_
  refine z_iload_n 922 C dL_keys_921 rfl rfl ?_
  refine z_iconst 923 C dL_keys_922 rfl ?_
  refine z_irem 924 C dL_keys_923 (by decide) (by decide) rfl ?_
  refine z_val 2 rfl ?_
  refine z_iload_n 925 C dL_keys_924 rfl rfl ?_
  refine z_iconst 926 C dL_keys_925 rfl ?_
  refine z_idiv 927 C dL_keys_926 (by decide) (by decide) rfl ?_
  refine z_val 0 rfl ?_
  refine z_iload_n 928 C dL_keys_927 rfl rfl ?_
  refine zu_Join 4 2 0 2 5 kS24 kk928_83 931 4616 26124 B dL_keys_928 ⟨⟨by decide, by decide⟩, by decide, by decide⟩ (Nat.le_of_ble_eq_true rfl) rfl rfl rfl hok hJ hr (fun h1 o1 J1 r1 => ?_)
  refine z_aload_n 932 C dL_keys_931 rfl rfl ?_
  refine z_iload_n 933 C dL_keys_932 rfl rfl ?_
  refine z_iald 934 C dL_keys_933 ⟨by show b ≤ b + 524; omega, by show b + 524 < b + 525; omega⟩ r1 (by decide) (by decide) rfl ?_
  refine z_val 5 (by decide) ?_
  refine z_icmp_ne 951 937 C dL_keys_934 rfl rfl (by decide) (by decide) (fun c8 => absurd c8 (by decide)) (fun _ => ?_)
  exact k _ _ o1 J1 r1
theorem ku937_89 (B : zB E0 F mL_keys b b 525 (rP E0 b)) (k : ∀ (f : Int → gSt) (h : gH), okT (kS24, (6, f), bu) → isJ (gRe E0 b) h b (kS24, (6, f), bu) → (rP E0 b) h → Z E0 b fz F mL_keys Q 525 none h 4618 26136 953 [(1, .ref b), (2, .ref (b + 524)), (3, .int (gi 2))] []) : ∀ (f : Int → gSt) (h : gH), okT (kS24, (6, f), bu) → isJ (gRe E0 b) h b (kS24, (6, f), bu) → (rP E0 b) h → Z E0 b fz F mL_keys Q 525 none h 4616 26124 937 [(1, .ref b), (2, .ref (b + 524)), (3, .int (gi 2))] [] := by
  intro f h hok hJ hr
  have C := B.1
  refine z_aload_n 938 C dL_keys_937 rfl rfl ?_
  refine z_iload_n 939 C dL_keys_938 rfl rfl ?_
  refine z_iconst 940 C dL_keys_939 rfl ?_
  refine z_irem 941 C dL_keys_940 (by decide) (by decide) rfl ?_
  refine z_val 2 rfl ?_
  refine z_iload_n 942 C dL_keys_941 rfl rfl ?_
  refine z_iconst 943 C dL_keys_942 rfl ?_
  refine z_idiv 944 C dL_keys_943 (by decide) (by decide) rfl ?_
  refine z_val 0 rfl ?_
  refine zu_Key 2 0 1 kk944_84 947 4618 26136 B dL_keys_944 ⟨⟨by decide, by decide⟩, by decide, by decide⟩ (Nat.le_of_ble_eq_true rfl) rfl rfl rfl hok hJ hr (fun h1 J1 r1 => ?_)
  refine z_iconst 948 C dL_keys_947 rfl ?_
  refine z_icmp_eq 953 951 C dL_keys_948 rfl rfl (by decide) (by decide) (fun _ => ?_) (fun c8 => absurd c8 (by decide))
  exact k _ _ hok J1 r1
theorem ku953_90 (B : zB E0 F mL_keys b b 525 (rP E0 b)) (k : ∀ (f : Int → gSt) (h : gH), okT (kS24, (6, f), bu) → isJ (gRe E0 b) h b (kS24, (6, f), bu) → (rP E0 b) h → Z E0 b fz F mL_keys Q 525 none h 4618 26136 872 [(1, .ref b), (2, .ref (b + 524)), (3, .int (gi 3))] []) : ∀ (f : Int → gSt) (h : gH), okT (kS24, (6, f), bu) → isJ (gRe E0 b) h b (kS24, (6, f), bu) → (rP E0 b) h → Z E0 b fz F mL_keys Q 525 none h 4618 26136 953 [(1, .ref b), (2, .ref (b + 524)), (3, .int (gi 2))] [] := by
  intro f h hok hJ hr
  have C := B.1
  refine z_iinc 956 [(3, _), (1, _), (2, _)] C dL_keys_953 rfl (by decide) rfl rfl ?_
  refine z_loc [(1, .ref b), (2, .ref (b + 524)), (3, .int (gi 3))] ⟨rfl, rfl, rfl, trivial⟩ ?_
  refine z_goto 867 C dL_keys_956 rfl ?_
  refine z_iload_n 868 C dL_keys_867 rfl rfl ?_
  refine z_iconst 869 C dL_keys_868 rfl ?_
  refine z_icmp_ge 959 872 C dL_keys_869 rfl rfl (by decide) (by decide) (fun c8 => absurd c8 (by decide)) (fun _ => ?_)
  exact k _ _ hok hJ hr
theorem ku872_91 (B : zB E0 F mL_keys b b 525 (rP E0 b)) (k : ∀ (f : Int → gSt) (h : gH), okT (kS25, (6, f), bu) → isJ (gRe E0 b) h b (kS25, (6, f), bu) → (rP E0 b) h → Z E0 b fz F mL_keys Q 525 none h 4623 26166 888 [(1, .ref b), (2, .ref (b + 524)), (3, .int (gi 3))] []) : ∀ (f : Int → gSt) (h : gH), okT (kS24, (6, f), bu) → isJ (gRe E0 b) h b (kS24, (6, f), bu) → (rP E0 b) h → Z E0 b fz F mL_keys Q 525 none h 4618 26136 872 [(1, .ref b), (2, .ref (b + 524)), (3, .int (gi 3))] [] := by
  intro f h hok hJ hr
  have C := B.1
  refine z_aload_n 873 C dL_keys_872 rfl rfl ?_
  refine z_iconst 874 C dL_keys_873 rfl ?_
  refine z_iload_n 875 C dL_keys_874 rfl rfl ?_
  refine z_iconst 876 C dL_keys_875 rfl ?_
  refine z_irem 877 C dL_keys_876 (by decide) (by decide) rfl ?_
  refine z_val 0 rfl ?_
  refine z_iload_n 878 C dL_keys_877 rfl rfl ?_
  refine z_iconst 879 C dL_keys_878 rfl ?_
  refine z_idiv 880 C dL_keys_879 (by decide) (by decide) rfl ?_
  refine z_val 1 rfl ?_
  refine z_bipush 882 C dL_keys_880 (by decide) rfl ?_
  refine zu_Write 0 0 1 40 0 kS25 kk882_85 885 4623 26166 B dL_keys_882 ⟨⟨by decide, by decide⟩, by decide, by decide⟩ (Nat.le_of_ble_eq_true rfl) rfl rfl rfl hok hJ hr (fun h1 o1 J1 r1 => ?_)
  refine z_if_ne 951 888 C dL_keys_885 rfl rfl (by decide) (fun c8 => absurd c8 (by decide)) (fun _ => ?_)
  exact k _ _ o1 J1 r1
theorem ku888_92 (B : zB E0 F mL_keys b b 525 (rP E0 b)) (k : ∀ (f : Int → gSt) (h : gH), okT (kS26, (6, f), bu) → isJ (gRe E0 b) h b (kS26, (6, f), bu) → (rP E0 b) h → Z E0 b fz F mL_keys Q 525 none h 4628 26196 904 [(1, .ref b), (2, .ref (b + 524)), (3, .int (gi 3))] []) : ∀ (f : Int → gSt) (h : gH), okT (kS25, (6, f), bu) → isJ (gRe E0 b) h b (kS25, (6, f), bu) → (rP E0 b) h → Z E0 b fz F mL_keys Q 525 none h 4623 26166 888 [(1, .ref b), (2, .ref (b + 524)), (3, .int (gi 3))] [] := by
  intro f h hok hJ hr
  have C := B.1
  refine z_aload_n 889 C dL_keys_888 rfl rfl ?_
  refine z_iconst 890 C dL_keys_889 rfl ?_
  refine z_iload_n 891 C dL_keys_890 rfl rfl ?_
  refine z_iconst 892 C dL_keys_891 rfl ?_
  refine z_irem 893 C dL_keys_892 (by decide) (by decide) rfl ?_
  refine z_val 0 rfl ?_
  refine z_iload_n 894 C dL_keys_893 rfl rfl ?_
  refine z_iconst 895 C dL_keys_894 rfl ?_
  refine z_idiv 896 C dL_keys_895 (by decide) (by decide) rfl ?_
  refine z_val 1 rfl ?_
  refine z_bipush 898 C dL_keys_896 (by decide) rfl ?_
  refine zu_Write 1 0 1 60 0 kS26 kk898_86 901 4628 26196 B dL_keys_898 ⟨⟨by decide, by decide⟩, by decide, by decide⟩ (Nat.le_of_ble_eq_true rfl) rfl rfl rfl hok hJ hr (fun h1 o1 J1 r1 => ?_)
  refine z_if_ne 951 904 C dL_keys_901 rfl rfl (by decide) (fun c8 => absurd c8 (by decide)) (fun _ => ?_)
  exact k _ _ o1 J1 r1
theorem ku904_93 (B : zB E0 F mL_keys b b 525 (rP E0 b)) (k : ∀ (f : Int → gSt) (h : gH), okT (kS27, (6, f), bu) → isJ (gRe E0 b) h b (kS27, (6, f), bu) → (rP E0 b) h → Z E0 b fz F mL_keys Q 525 none h 4633 26226 919 [(1, .ref b), (2, .ref (b + 524)), (3, .int (gi 3))] []) : ∀ (f : Int → gSt) (h : gH), okT (kS26, (6, f), bu) → isJ (gRe E0 b) h b (kS26, (6, f), bu) → (rP E0 b) h → Z E0 b fz F mL_keys Q 525 none h 4628 26196 904 [(1, .ref b), (2, .ref (b + 524)), (3, .int (gi 3))] [] := by
  intro f h hok hJ hr
  have C := B.1
  refine z_aload_n 905 C dL_keys_904 rfl rfl ?_
  refine z_iconst 906 C dL_keys_905 rfl ?_
  refine z_iload_n 907 C dL_keys_906 rfl rfl ?_
  refine z_iconst 908 C dL_keys_907 rfl ?_
  refine z_irem 909 C dL_keys_908 (by decide) (by decide) rfl ?_
  refine z_val 0 rfl ?_
  refine z_iload_n 910 C dL_keys_909 rfl rfl ?_
  refine z_iconst 911 C dL_keys_910 rfl ?_
  refine z_idiv 912 C dL_keys_911 (by decide) (by decide) rfl ?_
  refine z_val 1 rfl ?_
  refine z_iconst 913 C dL_keys_912 rfl ?_
  refine zu_Write 2 0 1 5 0 kS27 kk913_87 916 4633 26226 B dL_keys_913 ⟨⟨by decide, by decide⟩, by decide, by decide⟩ (Nat.le_of_ble_eq_true rfl) rfl rfl rfl hok hJ hr (fun h1 o1 J1 r1 => ?_)
  refine z_if_ne 951 919 C dL_keys_916 rfl rfl (by decide) (fun c8 => absurd c8 (by decide)) (fun _ => ?_)
  exact k _ _ o1 J1 r1
theorem ku919_94 (B : zB E0 F mL_keys b b 525 (rP E0 b)) (k : ∀ (f : Int → gSt) (h : gH), okT (kS28, (6, f), bu) → isJ (gRe E0 b) h b (kS28, (6, f), bu) → (rP E0 b) h → Z E0 b fz F mL_keys Q 525 none h 4638 26256 937 [(1, .ref b), (2, .ref (b + 524)), (3, .int (gi 3))] []) : ∀ (f : Int → gSt) (h : gH), okT (kS27, (6, f), bu) → isJ (gRe E0 b) h b (kS27, (6, f), bu) → (rP E0 b) h → Z E0 b fz F mL_keys Q 525 none h 4633 26226 919 [(1, .ref b), (2, .ref (b + 524)), (3, .int (gi 3))] [] := by
  intro f h hok hJ hr
  have C := B.1
  refine z_aload_n 920 C dL_keys_919 rfl rfl ?_
  refine z_iconst 921 C dL_keys_920 rfl ?_
  refine z_iload_n 922 C dL_keys_921 rfl rfl ?_
  refine z_iconst 923 C dL_keys_922 rfl ?_
  refine z_irem 924 C dL_keys_923 (by decide) (by decide) rfl ?_
  refine z_val 0 rfl ?_
  refine z_iload_n 925 C dL_keys_924 rfl rfl ?_
  refine z_iconst 926 C dL_keys_925 rfl ?_
  refine z_idiv 927 C dL_keys_926 (by decide) (by decide) rfl ?_
  refine z_val 1 rfl ?_
  refine z_iload_n 928 C dL_keys_927 rfl rfl ?_
  refine zu_Join 4 0 1 3 40 kS28 kk928_88 931 4638 26256 B dL_keys_928 ⟨⟨by decide, by decide⟩, by decide, by decide⟩ (Nat.le_of_ble_eq_true rfl) rfl rfl rfl hok hJ hr (fun h1 o1 J1 r1 => ?_)
  refine z_aload_n 932 C dL_keys_931 rfl rfl ?_
  refine z_iload_n 933 C dL_keys_932 rfl rfl ?_
  refine z_iald 934 C dL_keys_933 ⟨by show b ≤ b + 524; omega, by show b + 524 < b + 525; omega⟩ r1 (by decide) (by decide) rfl ?_
  refine z_val 40 (by decide) ?_
  refine z_icmp_ne 951 937 C dL_keys_934 rfl rfl (by decide) (by decide) (fun c8 => absurd c8 (by decide)) (fun _ => ?_)
  exact k _ _ o1 J1 r1
theorem ku937_95 (B : zB E0 F mL_keys b b 525 (rP E0 b)) (k : ∀ (f : Int → gSt) (h : gH), okT (kS28, (6, f), bu) → isJ (gRe E0 b) h b (kS28, (6, f), bu) → (rP E0 b) h → Z E0 b fz F mL_keys Q 525 none h 4640 26268 953 [(1, .ref b), (2, .ref (b + 524)), (3, .int (gi 3))] []) : ∀ (f : Int → gSt) (h : gH), okT (kS28, (6, f), bu) → isJ (gRe E0 b) h b (kS28, (6, f), bu) → (rP E0 b) h → Z E0 b fz F mL_keys Q 525 none h 4638 26256 937 [(1, .ref b), (2, .ref (b + 524)), (3, .int (gi 3))] [] := by
  intro f h hok hJ hr
  have C := B.1
  refine z_aload_n 938 C dL_keys_937 rfl rfl ?_
  refine z_iload_n 939 C dL_keys_938 rfl rfl ?_
  refine z_iconst 940 C dL_keys_939 rfl ?_
  refine z_irem 941 C dL_keys_940 (by decide) (by decide) rfl ?_
  refine z_val 0 rfl ?_
  refine z_iload_n 942 C dL_keys_941 rfl rfl ?_
  refine z_iconst 943 C dL_keys_942 rfl ?_
  refine z_idiv 944 C dL_keys_943 (by decide) (by decide) rfl ?_
  refine z_val 1 rfl ?_
  refine zu_Key 0 1 1 kk944_89 947 4640 26268 B dL_keys_944 ⟨⟨by decide, by decide⟩, by decide, by decide⟩ (Nat.le_of_ble_eq_true rfl) rfl rfl rfl hok hJ hr (fun h1 J1 r1 => ?_)
  refine z_iconst 948 C dL_keys_947 rfl ?_
  refine z_icmp_eq 953 951 C dL_keys_948 rfl rfl (by decide) (by decide) (fun _ => ?_) (fun c8 => absurd c8 (by decide))
  exact k _ _ hok J1 r1
theorem ku953_96 (B : zB E0 F mL_keys b b 525 (rP E0 b)) (k : ∀ (f : Int → gSt) (h : gH), okT (kS28, (6, f), bu) → isJ (gRe E0 b) h b (kS28, (6, f), bu) → (rP E0 b) h → Z E0 b fz F mL_keys Q 525 none h 4640 26268 959 [(1, .ref b), (2, .ref (b + 524)), (3, .int (gi 4))] []) : ∀ (f : Int → gSt) (h : gH), okT (kS28, (6, f), bu) → isJ (gRe E0 b) h b (kS28, (6, f), bu) → (rP E0 b) h → Z E0 b fz F mL_keys Q 525 none h 4640 26268 953 [(1, .ref b), (2, .ref (b + 524)), (3, .int (gi 3))] [] := by
  intro f h hok hJ hr
  have C := B.1
  refine z_iinc 956 [(3, _), (1, _), (2, _)] C dL_keys_953 rfl (by decide) rfl rfl ?_
  refine z_loc [(1, .ref b), (2, .ref (b + 524)), (3, .int (gi 4))] ⟨rfl, rfl, rfl, trivial⟩ ?_
  refine z_goto 867 C dL_keys_956 rfl ?_
  refine z_iload_n 868 C dL_keys_867 rfl rfl ?_
  refine z_iconst 869 C dL_keys_868 rfl ?_
  refine z_icmp_ge 959 872 C dL_keys_869 rfl rfl (by decide) (by decide) (fun _ => ?_) (fun c8 => absurd c8 (by decide))
  exact k _ _ hok hJ hr
theorem ku970 (B : zB E0 F mL_keys b b 524 R) (k : ∀ (f : Int → gSt) (h : gH), okT (kS0, (0, f), bu) → isJ (gRe E0 b) h b (kS0, (0, f), bu) → R h → Z E0 b fz F mL_keys Q 524 none h 5164 28627 976 [(1, .ref xp), (3, .ref b), (4, .int (gi 0))] []) : ∀ (f : Int → gSt) (h : gH), okT (kS0, (0, f), bu) → isJ (gRe E0 b) h b (kS0, (0, f), bu) → R h → Z E0 b fz F mL_keys Q 524 none h 5164 28627 970 [(1, .ref xp), (3, .ref b), (4, .int (gi 0))] [] := by
  intro f h hok hJ hr
  have C := B.1
  refine z_iload 972 C dL_keys_970 rfl rfl ?_
  refine z_iconst 973 C dL_keys_972 rfl ?_
  refine z_icmp_ge 1016 976 C dL_keys_973 rfl rfl (by decide) (by decide) (fun c8 => absurd c8 (by decide)) (fun _ => ?_)
  exact k _ _ hok hJ hr
theorem ku976 (B : zB E0 F mL_keys b b 524 R) (k : ∀ (f : Int → gSt) (h : gH), okT (kS29, (1, f), bu) → isJ (gRe E0 b) h b (kS29, (1, f), bu) → R h → Z E0 b fz F mL_keys Q 524 none h 5169 28657 989 [(1, .ref xp), (3, .ref b), (4, .int (gi 0))] []) : ∀ (f : Int → gSt) (h : gH), okT (kS0, (0, f), bu) → isJ (gRe E0 b) h b (kS0, (0, f), bu) → R h → Z E0 b fz F mL_keys Q 524 none h 5164 28627 976 [(1, .ref xp), (3, .ref b), (4, .int (gi 0))] [] := by
  intro f h hok hJ hr
  have C := B.1
  refine z_aload_n 977 C dL_keys_976 rfl rfl ?_
  refine z_iload 979 C dL_keys_977 rfl rfl ?_
  refine z_iconst 980 C dL_keys_979 rfl ?_
  refine z_iconst 981 C dL_keys_980 rfl ?_
  refine z_iload 983 C dL_keys_981 rfl rfl ?_
  refine zu_Write 0 0 0 0 0 kS29 kk983_90 986 5169 28657 B dL_keys_983 ⟨⟨by decide, by decide⟩, by decide, by decide⟩ (Nat.le_of_ble_eq_true rfl) rfl rfl rfl hok hJ hr (fun h1 o1 J1 r1 => ?_)
  refine z_if_ne 1008 989 C dL_keys_986 rfl rfl (by decide) (fun c8 => absurd c8 (by decide)) (fun _ => ?_)
  exact k _ _ o1 J1 r1
theorem ku989 (B : zB E0 F mL_keys b b 524 R) (k : ∀ (f : Int → gSt) (h : gH), okT (kS29, (1, f), bu) → isJ (gRe E0 b) h b (kS29, (1, f), bu) → R h → Z E0 b fz F mL_keys Q 524 none h 5169 28657 995 [(1, .ref xp), (3, .ref b), (4, .int (gi 0))] []) : ∀ (f : Int → gSt) (h : gH), okT (kS29, (1, f), bu) → isJ (gRe E0 b) h b (kS29, (1, f), bu) → R h → Z E0 b fz F mL_keys Q 524 none h 5169 28657 989 [(1, .ref xp), (3, .ref b), (4, .int (gi 0))] [] := by
  intro f h hok hJ hr
  have C := B.1
  refine z_iload 991 C dL_keys_989 rfl rfl ?_
  refine z_iconst 992 C dL_keys_991 rfl ?_
  refine z_icmp_ge 1010 995 C dL_keys_992 rfl rfl (by decide) (by decide) (fun c8 => absurd c8 (by decide)) (fun _ => ?_)
  exact k _ _ hok hJ hr
theorem ku995 (B : zB E0 F mL_keys b b 524 R) (k : ∀ (f : Int → gSt) (h : gH), okT (kS30, (2, f), bu) → isJ (gRe E0 b) h b (kS30, (2, f), bu) → R h → Z E0 b fz F mL_keys Q 524 none h 5174 28687 1010 [(1, .ref xp), (3, .ref b), (4, .int (gi 0))] []) : ∀ (f : Int → gSt) (h : gH), okT (kS29, (1, f), bu) → isJ (gRe E0 b) h b (kS29, (1, f), bu) → R h → Z E0 b fz F mL_keys Q 524 none h 5169 28657 995 [(1, .ref xp), (3, .ref b), (4, .int (gi 0))] [] := by
  intro f h hok hJ hr
  have C := B.1
  refine z_aload_n 996 C dL_keys_995 rfl rfl ?_
  refine z_iload 998 C dL_keys_996 rfl rfl ?_
  refine z_iconst 999 C dL_keys_998 rfl ?_
  refine z_iconst 1000 C dL_keys_999 rfl ?_
  refine z_iload 1002 C dL_keys_1000 rfl rfl ?_
  refine zu_Write 0 2 1 0 0 kS30 kk1002_91 1005 5174 28687 B dL_keys_1002 ⟨⟨by decide, by decide⟩, by decide, by decide⟩ (Nat.le_of_ble_eq_true rfl) rfl rfl rfl hok hJ hr (fun h1 o1 J1 r1 => ?_)
  refine z_if_eq 1010 1008 C dL_keys_1005 rfl rfl (by decide) (fun _ => ?_) (fun c8 => absurd c8 (by decide))
  exact k _ _ o1 J1 r1
theorem ku1010 (B : zB E0 F mL_keys b b 524 R) (k : ∀ (f : Int → gSt) (h : gH), okT (kS30, (2, f), bu) → isJ (gRe E0 b) h b (kS30, (2, f), bu) → R h → Z E0 b fz F mL_keys Q 524 none h 5174 28687 976 [(1, .ref xp), (3, .ref b), (4, .int (gi 1))] []) : ∀ (f : Int → gSt) (h : gH), okT (kS30, (2, f), bu) → isJ (gRe E0 b) h b (kS30, (2, f), bu) → R h → Z E0 b fz F mL_keys Q 524 none h 5174 28687 1010 [(1, .ref xp), (3, .ref b), (4, .int (gi 0))] [] := by
  intro f h hok hJ hr
  have C := B.1
  refine z_iinc 1013 [(4, _), (1, _), (3, _)] C dL_keys_1010 rfl (by decide) rfl rfl ?_
  refine z_loc [(1, .ref xp), (3, .ref b), (4, .int (gi 1))] ⟨rfl, rfl, rfl, trivial⟩ ?_
  refine z_goto 970 C dL_keys_1013 rfl ?_
  refine z_iload 972 C dL_keys_970 rfl rfl ?_
  refine z_iconst 973 C dL_keys_972 rfl ?_
  refine z_icmp_ge 1016 976 C dL_keys_973 rfl rfl (by decide) (by decide) (fun c8 => absurd c8 (by decide)) (fun _ => ?_)
  exact k _ _ hok hJ hr
theorem ku976_102 (B : zB E0 F mL_keys b b 524 R) (k : ∀ (f : Int → gSt) (h : gH), okT (kS31, (3, f), bu) → isJ (gRe E0 b) h b (kS31, (3, f), bu) → R h → Z E0 b fz F mL_keys Q 524 none h 5179 28717 989 [(1, .ref xp), (3, .ref b), (4, .int (gi 1))] []) : ∀ (f : Int → gSt) (h : gH), okT (kS30, (2, f), bu) → isJ (gRe E0 b) h b (kS30, (2, f), bu) → R h → Z E0 b fz F mL_keys Q 524 none h 5174 28687 976 [(1, .ref xp), (3, .ref b), (4, .int (gi 1))] [] := by
  intro f h hok hJ hr
  have C := B.1
  refine z_aload_n 977 C dL_keys_976 rfl rfl ?_
  refine z_iload 979 C dL_keys_977 rfl rfl ?_
  refine z_iconst 980 C dL_keys_979 rfl ?_
  refine z_iconst 981 C dL_keys_980 rfl ?_
  refine z_iload 983 C dL_keys_981 rfl rfl ?_
  refine zu_Write 1 0 0 1 0 kS31 kk983_92 986 5179 28717 B dL_keys_983 ⟨⟨by decide, by decide⟩, by decide, by decide⟩ (Nat.le_of_ble_eq_true rfl) rfl rfl rfl hok hJ hr (fun h1 o1 J1 r1 => ?_)
  refine z_if_ne 1008 989 C dL_keys_986 rfl rfl (by decide) (fun c8 => absurd c8 (by decide)) (fun _ => ?_)
  exact k _ _ o1 J1 r1
theorem ku989_103 (B : zB E0 F mL_keys b b 524 R) (k : ∀ (f : Int → gSt) (h : gH), okT (kS31, (3, f), bu) → isJ (gRe E0 b) h b (kS31, (3, f), bu) → R h → Z E0 b fz F mL_keys Q 524 none h 5179 28717 995 [(1, .ref xp), (3, .ref b), (4, .int (gi 1))] []) : ∀ (f : Int → gSt) (h : gH), okT (kS31, (3, f), bu) → isJ (gRe E0 b) h b (kS31, (3, f), bu) → R h → Z E0 b fz F mL_keys Q 524 none h 5179 28717 989 [(1, .ref xp), (3, .ref b), (4, .int (gi 1))] [] := by
  intro f h hok hJ hr
  have C := B.1
  refine z_iload 991 C dL_keys_989 rfl rfl ?_
  refine z_iconst 992 C dL_keys_991 rfl ?_
  refine z_icmp_ge 1010 995 C dL_keys_992 rfl rfl (by decide) (by decide) (fun c8 => absurd c8 (by decide)) (fun _ => ?_)
  exact k _ _ hok hJ hr
theorem ku995_104 (B : zB E0 F mL_keys b b 524 R) (k : ∀ (f : Int → gSt) (h : gH), okT (kS32, (4, f), bu) → isJ (gRe E0 b) h b (kS32, (4, f), bu) → R h → Z E0 b fz F mL_keys Q 524 none h 5184 28747 1010 [(1, .ref xp), (3, .ref b), (4, .int (gi 1))] []) : ∀ (f : Int → gSt) (h : gH), okT (kS31, (3, f), bu) → isJ (gRe E0 b) h b (kS31, (3, f), bu) → R h → Z E0 b fz F mL_keys Q 524 none h 5179 28717 995 [(1, .ref xp), (3, .ref b), (4, .int (gi 1))] [] := by
  intro f h hok hJ hr
  have C := B.1
  refine z_aload_n 996 C dL_keys_995 rfl rfl ?_
  refine z_iload 998 C dL_keys_996 rfl rfl ?_
  refine z_iconst 999 C dL_keys_998 rfl ?_
  refine z_iconst 1000 C dL_keys_999 rfl ?_
  refine z_iload 1002 C dL_keys_1000 rfl rfl ?_
  refine zu_Write 1 2 1 1 0 kS32 kk1002_93 1005 5184 28747 B dL_keys_1002 ⟨⟨by decide, by decide⟩, by decide, by decide⟩ (Nat.le_of_ble_eq_true rfl) rfl rfl rfl hok hJ hr (fun h1 o1 J1 r1 => ?_)
  refine z_if_eq 1010 1008 C dL_keys_1005 rfl rfl (by decide) (fun _ => ?_) (fun c8 => absurd c8 (by decide))
  exact k _ _ o1 J1 r1
theorem ku1010_105 (B : zB E0 F mL_keys b b 524 R) (k : ∀ (f : Int → gSt) (h : gH), okT (kS32, (4, f), bu) → isJ (gRe E0 b) h b (kS32, (4, f), bu) → R h → Z E0 b fz F mL_keys Q 524 none h 5184 28747 976 [(1, .ref xp), (3, .ref b), (4, .int (gi 2))] []) : ∀ (f : Int → gSt) (h : gH), okT (kS32, (4, f), bu) → isJ (gRe E0 b) h b (kS32, (4, f), bu) → R h → Z E0 b fz F mL_keys Q 524 none h 5184 28747 1010 [(1, .ref xp), (3, .ref b), (4, .int (gi 1))] [] := by
  intro f h hok hJ hr
  have C := B.1
  refine z_iinc 1013 [(4, _), (1, _), (3, _)] C dL_keys_1010 rfl (by decide) rfl rfl ?_
  refine z_loc [(1, .ref xp), (3, .ref b), (4, .int (gi 2))] ⟨rfl, rfl, rfl, trivial⟩ ?_
  refine z_goto 970 C dL_keys_1013 rfl ?_
  refine z_iload 972 C dL_keys_970 rfl rfl ?_
  refine z_iconst 973 C dL_keys_972 rfl ?_
  refine z_icmp_ge 1016 976 C dL_keys_973 rfl rfl (by decide) (by decide) (fun c8 => absurd c8 (by decide)) (fun _ => ?_)
  exact k _ _ hok hJ hr
theorem ku976_106 (B : zB E0 F mL_keys b b 524 R) (k : ∀ (f : Int → gSt) (h : gH), okT (kS33, (5, f), bu) → isJ (gRe E0 b) h b (kS33, (5, f), bu) → R h → Z E0 b fz F mL_keys Q 524 none h 5189 28777 989 [(1, .ref xp), (3, .ref b), (4, .int (gi 2))] []) : ∀ (f : Int → gSt) (h : gH), okT (kS32, (4, f), bu) → isJ (gRe E0 b) h b (kS32, (4, f), bu) → R h → Z E0 b fz F mL_keys Q 524 none h 5184 28747 976 [(1, .ref xp), (3, .ref b), (4, .int (gi 2))] [] := by
  intro f h hok hJ hr
  have C := B.1
  refine z_aload_n 977 C dL_keys_976 rfl rfl ?_
  refine z_iload 979 C dL_keys_977 rfl rfl ?_
  refine z_iconst 980 C dL_keys_979 rfl ?_
  refine z_iconst 981 C dL_keys_980 rfl ?_
  refine z_iload 983 C dL_keys_981 rfl rfl ?_
  refine zu_Write 2 0 0 2 0 kS33 kk983_94 986 5189 28777 B dL_keys_983 ⟨⟨by decide, by decide⟩, by decide, by decide⟩ (Nat.le_of_ble_eq_true rfl) rfl rfl rfl hok hJ hr (fun h1 o1 J1 r1 => ?_)
  refine z_if_ne 1008 989 C dL_keys_986 rfl rfl (by decide) (fun c8 => absurd c8 (by decide)) (fun _ => ?_)
  exact k _ _ o1 J1 r1
theorem ku989_107 (B : zB E0 F mL_keys b b 524 R) (k : ∀ (f : Int → gSt) (h : gH), okT (kS33, (5, f), bu) → isJ (gRe E0 b) h b (kS33, (5, f), bu) → R h → Z E0 b fz F mL_keys Q 524 none h 5189 28777 995 [(1, .ref xp), (3, .ref b), (4, .int (gi 2))] []) : ∀ (f : Int → gSt) (h : gH), okT (kS33, (5, f), bu) → isJ (gRe E0 b) h b (kS33, (5, f), bu) → R h → Z E0 b fz F mL_keys Q 524 none h 5189 28777 989 [(1, .ref xp), (3, .ref b), (4, .int (gi 2))] [] := by
  intro f h hok hJ hr
  have C := B.1
  refine z_iload 991 C dL_keys_989 rfl rfl ?_
  refine z_iconst 992 C dL_keys_991 rfl ?_
  refine z_icmp_ge 1010 995 C dL_keys_992 rfl rfl (by decide) (by decide) (fun c8 => absurd c8 (by decide)) (fun _ => ?_)
  exact k _ _ hok hJ hr
theorem ku995_108 (B : zB E0 F mL_keys b b 524 R) (k : ∀ (f : Int → gSt) (h : gH), okT (kS34, (6, f), bu) → isJ (gRe E0 b) h b (kS34, (6, f), bu) → R h → Z E0 b fz F mL_keys Q 524 none h 5194 28807 1010 [(1, .ref xp), (3, .ref b), (4, .int (gi 2))] []) : ∀ (f : Int → gSt) (h : gH), okT (kS33, (5, f), bu) → isJ (gRe E0 b) h b (kS33, (5, f), bu) → R h → Z E0 b fz F mL_keys Q 524 none h 5189 28777 995 [(1, .ref xp), (3, .ref b), (4, .int (gi 2))] [] := by
  intro f h hok hJ hr
  have C := B.1
  refine z_aload_n 996 C dL_keys_995 rfl rfl ?_
  refine z_iload 998 C dL_keys_996 rfl rfl ?_
  refine z_iconst 999 C dL_keys_998 rfl ?_
  refine z_iconst 1000 C dL_keys_999 rfl ?_
  refine z_iload 1002 C dL_keys_1000 rfl rfl ?_
  refine zu_Write 2 2 1 2 0 kS34 kk1002_95 1005 5194 28807 B dL_keys_1002 ⟨⟨by decide, by decide⟩, by decide, by decide⟩ (Nat.le_of_ble_eq_true rfl) rfl rfl rfl hok hJ hr (fun h1 o1 J1 r1 => ?_)
  refine z_if_eq 1010 1008 C dL_keys_1005 rfl rfl (by decide) (fun _ => ?_) (fun c8 => absurd c8 (by decide))
  exact k _ _ o1 J1 r1
theorem ku1010_109 (B : zB E0 F mL_keys b b 524 R) (k : ∀ (f : Int → gSt) (h : gH), okT (kS34, (6, f), bu) → isJ (gRe E0 b) h b (kS34, (6, f), bu) → R h → Z E0 b fz F mL_keys Q 524 none h 5194 28807 976 [(1, .ref xp), (3, .ref b), (4, .int (gi 3))] []) : ∀ (f : Int → gSt) (h : gH), okT (kS34, (6, f), bu) → isJ (gRe E0 b) h b (kS34, (6, f), bu) → R h → Z E0 b fz F mL_keys Q 524 none h 5194 28807 1010 [(1, .ref xp), (3, .ref b), (4, .int (gi 2))] [] := by
  intro f h hok hJ hr
  have C := B.1
  refine z_iinc 1013 [(4, _), (1, _), (3, _)] C dL_keys_1010 rfl (by decide) rfl rfl ?_
  refine z_loc [(1, .ref xp), (3, .ref b), (4, .int (gi 3))] ⟨rfl, rfl, rfl, trivial⟩ ?_
  refine z_goto 970 C dL_keys_1013 rfl ?_
  refine z_iload 972 C dL_keys_970 rfl rfl ?_
  refine z_iconst 973 C dL_keys_972 rfl ?_
  refine z_icmp_ge 1016 976 C dL_keys_973 rfl rfl (by decide) (by decide) (fun c8 => absurd c8 (by decide)) (fun _ => ?_)
  exact k _ _ hok hJ hr
theorem ku976_110 (B : zB E0 F mL_keys b b 524 R) (k : ∀ (f : Int → gSt) (h : gH), okT (kS35, (6, f), bu) → isJ (gRe E0 b) h b (kS35, (6, f), bu) → R h → Z E0 b fz F mL_keys Q 524 none h 5199 28837 989 [(1, .ref xp), (3, .ref b), (4, .int (gi 3))] []) : ∀ (f : Int → gSt) (h : gH), okT (kS34, (6, f), bu) → isJ (gRe E0 b) h b (kS34, (6, f), bu) → R h → Z E0 b fz F mL_keys Q 524 none h 5194 28807 976 [(1, .ref xp), (3, .ref b), (4, .int (gi 3))] [] := by
  intro f h hok hJ hr
  have C := B.1
  refine z_aload_n 977 C dL_keys_976 rfl rfl ?_
  refine z_iload 979 C dL_keys_977 rfl rfl ?_
  refine z_iconst 980 C dL_keys_979 rfl ?_
  refine z_iconst 981 C dL_keys_980 rfl ?_
  refine z_iload 983 C dL_keys_981 rfl rfl ?_
  refine zu_Write 3 0 0 3 0 kS35 kk983_96 986 5199 28837 B dL_keys_983 ⟨⟨by decide, by decide⟩, by decide, by decide⟩ (Nat.le_of_ble_eq_true rfl) rfl rfl rfl hok hJ hr (fun h1 o1 J1 r1 => ?_)
  refine z_if_ne 1008 989 C dL_keys_986 rfl rfl (by decide) (fun c8 => absurd c8 (by decide)) (fun _ => ?_)
  exact k _ _ o1 J1 r1
theorem ku989_111 (B : zB E0 F mL_keys b b 524 R) (k : ∀ (f : Int → gSt) (h : gH), okT (kS35, (6, f), bu) → isJ (gRe E0 b) h b (kS35, (6, f), bu) → R h → Z E0 b fz F mL_keys Q 524 none h 5199 28837 1010 [(1, .ref xp), (3, .ref b), (4, .int (gi 3))] []) : ∀ (f : Int → gSt) (h : gH), okT (kS35, (6, f), bu) → isJ (gRe E0 b) h b (kS35, (6, f), bu) → R h → Z E0 b fz F mL_keys Q 524 none h 5199 28837 989 [(1, .ref xp), (3, .ref b), (4, .int (gi 3))] [] := by
  intro f h hok hJ hr
  have C := B.1
  refine z_iload 991 C dL_keys_989 rfl rfl ?_
  refine z_iconst 992 C dL_keys_991 rfl ?_
  refine z_icmp_ge 1010 995 C dL_keys_992 rfl rfl (by decide) (by decide) (fun _ => ?_) (fun c8 => absurd c8 (by decide))
  exact k _ _ hok hJ hr
theorem ku1010_112 (B : zB E0 F mL_keys b b 524 R) (k : ∀ (f : Int → gSt) (h : gH), okT (kS35, (6, f), bu) → isJ (gRe E0 b) h b (kS35, (6, f), bu) → R h → Z E0 b fz F mL_keys Q 524 none h 5199 28837 1016 [(1, .ref xp), (3, .ref b), (4, .int (gi 4))] []) : ∀ (f : Int → gSt) (h : gH), okT (kS35, (6, f), bu) → isJ (gRe E0 b) h b (kS35, (6, f), bu) → R h → Z E0 b fz F mL_keys Q 524 none h 5199 28837 1010 [(1, .ref xp), (3, .ref b), (4, .int (gi 3))] [] := by
  intro f h hok hJ hr
  have C := B.1
  refine z_iinc 1013 [(4, _), (1, _), (3, _)] C dL_keys_1010 rfl (by decide) rfl rfl ?_
  refine z_loc [(1, .ref xp), (3, .ref b), (4, .int (gi 4))] ⟨rfl, rfl, rfl, trivial⟩ ?_
  refine z_goto 970 C dL_keys_1013 rfl ?_
  refine z_iload 972 C dL_keys_970 rfl rfl ?_
  refine z_iconst 973 C dL_keys_972 rfl ?_
  refine z_icmp_ge 1016 976 C dL_keys_973 rfl rfl (by decide) (by decide) (fun _ => ?_) (fun c8 => absurd c8 (by decide))
  exact k _ _ hok hJ hr
theorem ku1016 (B : zB E0 F mL_keys b b 524 R) (k : ∀ (f : Int → gSt) (h : gH), okT (kS35, (6, f), bu) → isJ (gRe E0 b) h b (kS35, (6, f), bu) → R h → Z E0 b fz F mL_keys Q 524 none h 5203 28861 1028 [(1, .ref xp), (3, .ref b), (4, .int (gi 4))] []) : ∀ (f : Int → gSt) (h : gH), okT (kS35, (6, f), bu) → isJ (gRe E0 b) h b (kS35, (6, f), bu) → R h → Z E0 b fz F mL_keys Q 524 none h 5199 28837 1016 [(1, .ref xp), (3, .ref b), (4, .int (gi 4))] [] := by
  intro f h hok hJ hr
  have C := B.1
  refine z_aload_n 1017 C dL_keys_1016 rfl rfl ?_
  refine z_iconst 1018 C dL_keys_1017 rfl ?_
  refine z_iconst 1019 C dL_keys_1018 rfl ?_
  refine z_iconst 1020 C dL_keys_1019 rfl ?_
  refine z_iconst 1021 C dL_keys_1020 rfl ?_
  refine zu_IfW 4 0 0 1 5 kk1021_97 1024 5203 28861 B dL_keys_1021 ⟨⟨by decide, by decide⟩, by decide, by decide⟩ (Nat.le_of_ble_eq_true rfl) rfl rfl rfl hok hJ hr (fun h1 J1 r1 => ?_)
  refine z_iconst 1025 C dL_keys_1024 rfl ?_
  refine z_icmp_ne 1146 1028 C dL_keys_1025 rfl rfl (by decide) (by decide) (fun c8 => absurd c8 (by decide)) (fun _ => ?_)
  exact k _ _ hok J1 r1
theorem ku1028 (B : zB E0 F mL_keys b b 524 R) (k : ∀ (f : Int → gSt) (h : gH), okT (kS35, (6, f), bu) → isJ (gRe E0 b) h b (kS35, (6, f), bu) → R h → Z E0 b fz F mL_keys Q 524 none h 5208 28891 1043 [(1, .ref xp), (3, .ref b), (4, .int (gi 4))] []) : ∀ (f : Int → gSt) (h : gH), okT (kS35, (6, f), bu) → isJ (gRe E0 b) h b (kS35, (6, f), bu) → R h → Z E0 b fz F mL_keys Q 524 none h 5203 28861 1028 [(1, .ref xp), (3, .ref b), (4, .int (gi 4))] [] := by
  intro f h hok hJ hr
  have C := B.1
  refine z_aload_n 1029 C dL_keys_1028 rfl rfl ?_
  refine z_iconst 1030 C dL_keys_1029 rfl ?_
  refine z_iconst 1031 C dL_keys_1030 rfl ?_
  refine z_iconst 1032 C dL_keys_1031 rfl ?_
  refine z_iconst 1033 C dL_keys_1032 rfl ?_
  refine z_bipush 1035 C dL_keys_1033 (by decide) rfl ?_
  refine zu_told 1 4 0 0 7 (-13, 0, _) 1038 5208 28891 (kt1035 _ _ _) B dL_keys_1035 ⟨⟨by decide, by decide⟩, by decide, by decide⟩ (Nat.le_of_ble_eq_true rfl) rfl rfl rfl hok hJ hr (by decide) (by decide) (by decide) (by decide) (by decide) (fun h1 J1 r1 => ?_)
  refine z_val (-13) (tO_r (-13) (by decide)) ?_
  refine z_bipush 1040 C dL_keys_1038 (by decide) rfl ?_
  refine z_icmp_ne 1146 1043 C dL_keys_1040 rfl rfl (by decide) (by decide) (fun c8 => absurd c8 (by decide)) (fun _ => ?_)
  exact k _ _ hok J1 r1
theorem ku1043 (B : zB E0 F mL_keys b b 524 R) (k : ∀ (f : Int → gSt) (h : gH), okT (kS36, (6, f), bu) → isJ (gRe E0 b) h b (kS36, (6, f), bu) → R h → Z E0 b fz F mL_keys Q 524 none h 5213 28921 1054 [(1, .ref xp), (3, .ref b), (4, .int (gi 4))] []) : ∀ (f : Int → gSt) (h : gH), okT (kS35, (6, f), bu) → isJ (gRe E0 b) h b (kS35, (6, f), bu) → R h → Z E0 b fz F mL_keys Q 524 none h 5208 28891 1043 [(1, .ref xp), (3, .ref b), (4, .int (gi 4))] [] := by
  intro f h hok hJ hr
  have C := B.1
  refine z_aload_n 1044 C dL_keys_1043 rfl rfl ?_
  refine z_iconst 1045 C dL_keys_1044 rfl ?_
  refine z_iconst 1046 C dL_keys_1045 rfl ?_
  refine z_iconst 1047 C dL_keys_1046 rfl ?_
  refine z_iconst 1048 C dL_keys_1047 rfl ?_
  refine zu_Write 3 2 2 3 0 kS36 kk1048_99 1051 5213 28921 B dL_keys_1048 ⟨⟨by decide, by decide⟩, by decide, by decide⟩ (Nat.le_of_ble_eq_true rfl) rfl rfl rfl hok hJ hr (fun h1 o1 J1 r1 => ?_)
  refine z_if_ne 1146 1054 C dL_keys_1051 rfl rfl (by decide) (fun c8 => absurd c8 (by decide)) (fun _ => ?_)
  exact k _ _ o1 J1 r1
theorem ku1054 (B : zB E0 F mL_keys b b 524 R) (k : ∀ (f : Int → gSt) (h : gH), okT (kS37, (6, f), bu) → isJ (gRe E0 b) h b (kS37, (6, f), bu) → R h → Z E0 b fz F mL_keys Q 524 none h 5218 28951 1065 [(1, .ref xp), (3, .ref b), (4, .int (gi 4))] []) : ∀ (f : Int → gSt) (h : gH), okT (kS36, (6, f), bu) → isJ (gRe E0 b) h b (kS36, (6, f), bu) → R h → Z E0 b fz F mL_keys Q 524 none h 5213 28921 1054 [(1, .ref xp), (3, .ref b), (4, .int (gi 4))] [] := by
  intro f h hok hJ hr
  have C := B.1
  refine z_aload_n 1055 C dL_keys_1054 rfl rfl ?_
  refine z_iconst 1056 C dL_keys_1055 rfl ?_
  refine z_iconst 1057 C dL_keys_1056 rfl ?_
  refine z_iconst 1058 C dL_keys_1057 rfl ?_
  refine z_iconst 1059 C dL_keys_1058 rfl ?_
  refine zu_Write 4 2 2 4 0 kS37 kk1059_100 1062 5218 28951 B dL_keys_1059 ⟨⟨by decide, by decide⟩, by decide, by decide⟩ (Nat.le_of_ble_eq_true rfl) rfl rfl rfl hok hJ hr (fun h1 o1 J1 r1 => ?_)
  refine z_if_ne 1146 1065 C dL_keys_1062 rfl rfl (by decide) (fun c8 => absurd c8 (by decide)) (fun _ => ?_)
  exact k _ _ o1 J1 r1
theorem ku1065 (B : zB E0 F mL_keys b b 524 R) (k : ∀ (f : Int → gSt) (h : gH), okT (kS37, (6, f), bu) → isJ (gRe E0 b) h b (kS37, (6, f), bu) → R h → Z E0 b fz F mL_keys Q 524 none h 5223 28981 1077 [(1, .ref xp), (3, .ref b), (4, .int (gi 4))] []) : ∀ (f : Int → gSt) (h : gH), okT (kS37, (6, f), bu) → isJ (gRe E0 b) h b (kS37, (6, f), bu) → R h → Z E0 b fz F mL_keys Q 524 none h 5218 28951 1065 [(1, .ref xp), (3, .ref b), (4, .int (gi 4))] [] := by
  intro f h hok hJ hr
  have C := B.1
  refine z_aload_n 1066 C dL_keys_1065 rfl rfl ?_
  refine z_iconst 1067 C dL_keys_1066 rfl ?_
  refine z_iconst 1068 C dL_keys_1067 rfl ?_
  refine z_iconst 1069 C dL_keys_1068 rfl ?_
  refine z_iconst 1070 C dL_keys_1069 rfl ?_
  refine zu_IfP 1 2 2 2 5 kk1070_101 1073 5223 28981 B dL_keys_1070 ⟨⟨by decide, by decide⟩, by decide, by decide⟩ (Nat.le_of_ble_eq_true rfl) rfl rfl rfl hok hJ hr (fun h1 J1 r1 => ?_)
  refine z_iconst 1074 C dL_keys_1073 rfl ?_
  refine z_icmp_ne 1146 1077 C dL_keys_1074 rfl rfl (by decide) (by decide) (fun c8 => absurd c8 (by decide)) (fun _ => ?_)
  exact k _ _ hok J1 r1
theorem ku1077 (B : zB E0 F mL_keys b b 524 R) (k : ∀ (f : Int → gSt) (h : gH), okT (kS37, (6, f), bu) → isJ (gRe E0 b) h b (kS37, (6, f), bu) → R h → Z E0 b fz F mL_keys Q 524 none h 5228 29011 1091 [(1, .ref xp), (3, .ref b), (4, .int (gi 4))] []) : ∀ (f : Int → gSt) (h : gH), okT (kS37, (6, f), bu) → isJ (gRe E0 b) h b (kS37, (6, f), bu) → R h → Z E0 b fz F mL_keys Q 524 none h 5223 28981 1077 [(1, .ref xp), (3, .ref b), (4, .int (gi 4))] [] := by
  intro f h hok hJ hr
  have C := B.1
  refine z_aload_n 1078 C dL_keys_1077 rfl rfl ?_
  refine z_iconst 1079 C dL_keys_1078 rfl ?_
  refine z_iconst 1080 C dL_keys_1079 rfl ?_
  refine z_iconst 1081 C dL_keys_1080 rfl ?_
  refine z_iconst 1082 C dL_keys_1081 rfl ?_
  refine z_iconst 1083 C dL_keys_1082 rfl ?_
  refine zu_told 2 1 2 2 0 (-13, 0, _) 1086 5228 29011 (kt1083 _ _ _) B dL_keys_1083 ⟨⟨by decide, by decide⟩, by decide, by decide⟩ (Nat.le_of_ble_eq_true rfl) rfl rfl rfl hok hJ hr (by decide) (by decide) (by decide) (by decide) (by decide) (fun h1 J1 r1 => ?_)
  refine z_val (-13) (tO_r (-13) (by decide)) ?_
  refine z_bipush 1088 C dL_keys_1086 (by decide) rfl ?_
  refine z_icmp_ne 1146 1091 C dL_keys_1088 rfl rfl (by decide) (by decide) (fun c8 => absurd c8 (by decide)) (fun _ => ?_)
  exact k _ _ hok J1 r1
theorem ku1091 (B : zB E0 F mL_keys b b 524 R) (k : ∀ (f : Int → gSt) (h : gH), okT (kS37, (6, f), bu) → isJ (gRe E0 b) h b (kS37, (6, f), bu) → R h → Z E0 b fz F mL_keys Q 524 none h 5233 29041 1106 [(1, .ref xp), (3, .ref b), (4, .int (gi 4))] []) : ∀ (f : Int → gSt) (h : gH), okT (kS37, (6, f), bu) → isJ (gRe E0 b) h b (kS37, (6, f), bu) → R h → Z E0 b fz F mL_keys Q 524 none h 5228 29011 1091 [(1, .ref xp), (3, .ref b), (4, .int (gi 4))] [] := by
  intro f h hok hJ hr
  have C := B.1
  refine z_aload_n 1092 C dL_keys_1091 rfl rfl ?_
  refine z_bipush 1094 C dL_keys_1092 (by decide) rfl ?_
  refine z_iconst 1095 C dL_keys_1094 rfl ?_
  refine z_iconst 1096 C dL_keys_1095 rfl ?_
  refine z_iconst 1097 C dL_keys_1096 rfl ?_
  refine z_iconst 1098 C dL_keys_1097 rfl ?_
  refine zu_told 17 0 0 0 0 (-13, 0, _) 1101 5233 29041 (kt1098 _ _ _) B dL_keys_1098 ⟨⟨by decide, by decide⟩, by decide, by decide⟩ (Nat.le_of_ble_eq_true rfl) rfl rfl rfl hok hJ hr (by decide) (by decide) (by decide) (by decide) (by decide) (fun h1 J1 r1 => ?_)
  refine z_val (-13) (tO_r (-13) (by decide)) ?_
  refine z_bipush 1103 C dL_keys_1101 (by decide) rfl ?_
  refine z_icmp_ne 1146 1106 C dL_keys_1103 rfl rfl (by decide) (by decide) (fun c8 => absurd c8 (by decide)) (fun _ => ?_)
  exact k _ _ hok J1 r1
theorem ku1106 (B : zB E0 F mL_keys b b 524 R) (k : ∀ (f : Int → gSt) (h : gH), okT (kS37, (6, f), bu) → isJ (gRe E0 b) h b (kS37, (6, f), bu) → R h → Z E0 b fz F mL_keys Q 524 none h 5234 29047 1117 [(1, .ref xp), (3, .ref b), (4, .int (gi 4))] []) : ∀ (f : Int → gSt) (h : gH), okT (kS37, (6, f), bu) → isJ (gRe E0 b) h b (kS37, (6, f), bu) → R h → Z E0 b fz F mL_keys Q 524 none h 5233 29041 1106 [(1, .ref xp), (3, .ref b), (4, .int (gi 4))] [] := by
  intro f h hok hJ hr
  have C := B.1
  refine z_aload_n 1107 C dL_keys_1106 rfl rfl ?_
  refine z_bipush 1109 C dL_keys_1107 (by decide) rfl ?_
  refine zu_Cnt7 1112 5234 29047 B dL_keys_1109 ⟨⟨by decide, by decide⟩, by decide, by decide⟩ (Nat.le_of_ble_eq_true rfl) rfl rfl rfl hok hJ hr (fun h1 J1 r1 => ?_)
  refine z_bipush 1114 C dL_keys_1112 (by decide) rfl ?_
  refine z_icmp_ne 1146 1117 C dL_keys_1114 rfl rfl (by decide) (by decide) (fun c8 => absurd c8 (by decide)) (fun _ => ?_)
  exact k _ _ hok J1 r1
theorem ku1117 (B : zB E0 F mL_keys b b 524 R) (k : ∀ (f : Int → gSt) (h : gH), okT (kS37, (6, f), bu) → isJ (gRe E0 b) h b (kS37, (6, f), bu) → R h → Z E0 b fz F mL_keys Q 524 none h 5235 29053 1126 [(1, .ref xp), (3, .ref b), (4, .int (gi 4))] []) : ∀ (f : Int → gSt) (h : gH), okT (kS37, (6, f), bu) → isJ (gRe E0 b) h b (kS37, (6, f), bu) → R h → Z E0 b fz F mL_keys Q 524 none h 5234 29047 1117 [(1, .ref xp), (3, .ref b), (4, .int (gi 4))] [] := by
  intro f h hok hJ hr
  have C := B.1
  refine z_aload_n 1118 C dL_keys_1117 rfl rfl ?_
  refine z_iconst 1119 C dL_keys_1118 rfl ?_
  refine zu_Cnt 1 4 kk1119_104 1122 5235 29053 B dL_keys_1119 ⟨⟨by decide, by decide⟩, by decide, by decide⟩ (Nat.le_of_ble_eq_true rfl) rfl rfl rfl hok hJ hr (fun h1 J1 r1 => ?_)
  refine z_iconst 1123 C dL_keys_1122 rfl ?_
  refine z_icmp_ne 1146 1126 C dL_keys_1123 rfl rfl (by decide) (by decide) (fun c8 => absurd c8 (by decide)) (fun _ => ?_)
  exact k _ _ hok J1 r1
theorem ku1126 (B : zB E0 F mL_keys b b 524 R) (k : ∀ (f : Int → gSt) (h : gH), okT (kS38, (6, f), bu) → isJ (gRe E0 b) h b (kS38, (6, f), bu) → R h → Z E0 b fz F mL_keys Q 524 none h 5240 29083 1136 [(1, .ref xp), (3, .ref b), (4, .int (gi 4))] []) : ∀ (f : Int → gSt) (h : gH), okT (kS37, (6, f), bu) → isJ (gRe E0 b) h b (kS37, (6, f), bu) → R h → Z E0 b fz F mL_keys Q 524 none h 5235 29053 1126 [(1, .ref xp), (3, .ref b), (4, .int (gi 4))] [] := by
  intro f h hok hJ hr
  have C := B.1
  refine z_aload_n 1127 C dL_keys_1126 rfl rfl ?_
  refine z_iconst 1128 C dL_keys_1127 rfl ?_
  refine z_iconst 1129 C dL_keys_1128 rfl ?_
  refine z_iconst 1130 C dL_keys_1129 rfl ?_
  refine zu_Pull 1 0 0 0 kS38 kk1130_105 1133 5240 29083 B dL_keys_1130 ⟨⟨by decide, by decide⟩, by decide, by decide⟩ (Nat.le_of_ble_eq_true rfl) rfl rfl rfl hok hJ hr (fun h1 o1 J1 r1 => ?_)
  refine z_if_ne 1146 1136 C dL_keys_1133 rfl rfl (by decide) (fun c8 => absurd c8 (by decide)) (fun _ => ?_)
  exact k _ _ o1 J1 r1
theorem ku1136 (B : zB E0 F mL_keys b b 524 R) (k : ∀ (f : Int → gSt) (h : gH), okT (kS38, (6, f), bu) → isJ (gRe E0 b) h b (kS38, (6, f), bu) → R h → Z E0 b fz F mL_keys Q 524 none h 5242 29095 1148 [(1, .ref xp), (3, .ref b), (4, .int (gi 4))] []) : ∀ (f : Int → gSt) (h : gH), okT (kS38, (6, f), bu) → isJ (gRe E0 b) h b (kS38, (6, f), bu) → R h → Z E0 b fz F mL_keys Q 524 none h 5240 29083 1136 [(1, .ref xp), (3, .ref b), (4, .int (gi 4))] [] := by
  intro f h hok hJ hr
  have C := B.1
  refine z_aload_n 1137 C dL_keys_1136 rfl rfl ?_
  refine z_iconst 1138 C dL_keys_1137 rfl ?_
  refine z_iconst 1139 C dL_keys_1138 rfl ?_
  refine zu_Key 0 1 4 kk1139_106 1142 5242 29095 B dL_keys_1139 ⟨⟨by decide, by decide⟩, by decide, by decide⟩ (Nat.le_of_ble_eq_true rfl) rfl rfl rfl hok hJ hr (fun h1 J1 r1 => ?_)
  refine z_iconst 1143 C dL_keys_1142 rfl ?_
  refine z_icmp_eq 1148 1146 C dL_keys_1143 rfl rfl (by decide) (by decide) (fun _ => ?_) (fun c8 => absurd c8 (by decide))
  exact k _ _ hok J1 r1
theorem ku1148 (B : zB E0 F mL_keys b b 525 (rP E0 b)) (k : ∀ (f : Int → gSt) (h : gH), okT (kS28, (6, f), bu) → isJ (gRe E0 b) h b (kS28, (6, f), bu) → (rP E0 b) h → Z E0 b fz F mL_keys Q 525 none h 5243 29101 1157 [(1, .ref b)] []) : ∀ (f : Int → gSt) (h : gH), okT (kS28, (6, f), bu) → isJ (gRe E0 b) h b (kS28, (6, f), bu) → (rP E0 b) h → Z E0 b fz F mL_keys Q 525 none h 5242 29095 1148 [(1, .ref b)] [] := by
  intro f h hok hJ hr
  have C := B.1
  refine z_aload_n 1149 C dL_keys_1148 rfl rfl ?_
  refine z_iconst 1150 C dL_keys_1149 rfl ?_
  refine zu_Cnt 0 4 kk1150_107 1153 5243 29101 B dL_keys_1150 ⟨⟨by decide, by decide⟩, by decide, by decide⟩ (Nat.le_of_ble_eq_true rfl) rfl rfl rfl hok hJ hr (fun h1 J1 r1 => ?_)
  refine z_iconst 1154 C dL_keys_1153 rfl ?_
  refine z_icmp_ne 1186 1157 C dL_keys_1154 rfl rfl (by decide) (by decide) (fun c8 => absurd c8 (by decide)) (fun _ => ?_)
  exact k _ _ hok J1 r1
theorem ku1157 (B : zB E0 F mL_keys b b 525 (rP E0 b)) (k : ∀ (f : Int → gSt) (h : gH), okT (kS28, (6, f), bu) → isJ (gRe E0 b) h b (kS28, (6, f), bu) → (rP E0 b) h → Z E0 b fz F mL_keys Q 525 none h 5244 29107 1166 [(1, .ref b)] []) : ∀ (f : Int → gSt) (h : gH), okT (kS28, (6, f), bu) → isJ (gRe E0 b) h b (kS28, (6, f), bu) → (rP E0 b) h → Z E0 b fz F mL_keys Q 525 none h 5243 29101 1157 [(1, .ref b)] [] := by
  intro f h hok hJ hr
  have C := B.1
  refine z_aload_n 1158 C dL_keys_1157 rfl rfl ?_
  refine z_iconst 1159 C dL_keys_1158 rfl ?_
  refine zu_Cnt 1 1 kk1159_108 1162 5244 29107 B dL_keys_1159 ⟨⟨by decide, by decide⟩, by decide, by decide⟩ (Nat.le_of_ble_eq_true rfl) rfl rfl rfl hok hJ hr (fun h1 J1 r1 => ?_)
  refine z_iconst 1163 C dL_keys_1162 rfl ?_
  refine z_icmp_ne 1186 1166 C dL_keys_1163 rfl rfl (by decide) (by decide) (fun c8 => absurd c8 (by decide)) (fun _ => ?_)
  exact k _ _ hok J1 r1
theorem ku1166 (B : zB E0 F mL_keys b b 525 (rP E0 b)) (k : ∀ (f : Int → gSt) (h : gH), okT (kS28, (6, f), bu) → isJ (gRe E0 b) h b (kS28, (6, f), bu) → (rP E0 b) h → Z E0 b fz F mL_keys Q 525 none h 5245 29113 1175 [(1, .ref b)] []) : ∀ (f : Int → gSt) (h : gH), okT (kS28, (6, f), bu) → isJ (gRe E0 b) h b (kS28, (6, f), bu) → (rP E0 b) h → Z E0 b fz F mL_keys Q 525 none h 5244 29107 1166 [(1, .ref b)] [] := by
  intro f h hok hJ hr
  have C := B.1
  refine z_aload_n 1167 C dL_keys_1166 rfl rfl ?_
  refine z_iconst 1168 C dL_keys_1167 rfl ?_
  refine zu_Cnt 5 4 kk1168_109 1171 5245 29113 B dL_keys_1168 ⟨⟨by decide, by decide⟩, by decide, by decide⟩ (Nat.le_of_ble_eq_true rfl) rfl rfl rfl hok hJ hr (fun h1 J1 r1 => ?_)
  refine z_iconst 1172 C dL_keys_1171 rfl ?_
  refine z_icmp_ne 1186 1175 C dL_keys_1172 rfl rfl (by decide) (by decide) (fun c8 => absurd c8 (by decide)) (fun _ => ?_)
  exact k _ _ hok J1 r1
theorem ku1175 (B : zB E0 F mL_keys b b 525 (rP E0 b)) (k : ∀ (f : Int → gSt) (h : gH), okT (kS28, (6, f), bu) → isJ (gRe E0 b) h b (kS28, (6, f), bu) → (rP E0 b) h → Z E0 b fz F mL_keys Q 525 none h 8407 48085 1182 [(1, .ref b)] []) : ∀ (f : Int → gSt) (h : gH), okT (kS28, (6, f), bu) → isJ (gRe E0 b) h b (kS28, (6, f), bu) → (rP E0 b) h → Z E0 b fz F mL_keys Q 525 none h 5245 29113 1175 [(1, .ref b)] [] := by
  intro f h hok hJ hr
  have C := B.1
  refine z_aload_n 1176 C dL_keys_1175 rfl rfl ?_
  refine zu_refused 1179 8407 48085 B dL_keys_1176 ⟨⟨by decide, by decide⟩, by decide, by decide⟩ (Nat.le_of_ble_eq_true rfl) rfl rfl rfl hok hJ hr (fun h1 J1 r1 => ?_)
  refine z_if_eq 1186 1182 C dL_keys_1179 rfl rfl (by decide) (fun c8 => absurd c8 (by decide)) (fun _ => ?_)
  exact k _ _ hok J1 r1
end KV
