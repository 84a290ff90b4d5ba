/-! the law's refusals: refusesAll, refusesAny, refused -/
def rfK (k : Int) (p : Int) : Int := p
/-- what refusesAll asks of a call: each of its places, below and above -/
def rfA (T : gTt) (which most d : Int) : Prop :=
  (most / 100 % 10 ≠ 0 → oCall T which (-1) 0 2 d = (-11, 0, T) ∧ oCall T which (most / 100 % 10) 0 2 d = (-11, 0, T)) ∧
  (most / 10 % 10 ≠ 0 → oCall T which 1 (-1) 2 d = (-11, 0, T) ∧ oCall T which 1 (most / 10 % 10) 2 d = (-11, 0, T)) ∧
  (most / 1 % 10 ≠ 0 → oCall T which 1 0 (-1) d = (-11, 0, T) ∧ oCall T which 1 0 (most / 1 % 10) d = (-11, 0, T))
theorem lkT_l : Cond.methodLink RL 86 mL_told.1 ∈ wsG := wsG_of 471 (by decide +kernel) rfl
theorem lkT_c : mL_told.1.cls ≠ "java/lang/invoke/MethodHandle" ∧ mL_told.1.cls ≠ "java/lang/invoke/VarHandle" ∧ (parseMethodDescriptor mL_told.1.desc).map (fun d => d.parameters.length) = some 6 := ⟨by decide, by decide, by decide +kernel⟩
section TLD
variable {E : gEnv} {F : gFr} {t : gMt} {Q : State → Prop} {n : Nat} {h : gH} {kc ks pc : Nat} {L : List (Nat × Value)} {rest : List Value}
/-- a call of told -/
theorem g_told (x : Nat) (T : gTt) (which a b c d : Int) (O : gOut) (pc' : Nat) (C : gC E F t) (hd : decode (gCode t) pc = .ok (.invokestatic 86, 3)) (ho : t.1.cls = RL) (ft : gFit mL_told t kc ks) (hw : (rest.map fun v => v.category).sum ≤ 8) (hp : pc + 3 = pc') (hl : E.1.stackTraces = false) (hxb : gB E ≤ x ∧ x + 524 ≤ gB E + n) (hJ : isJ E h x T) (hok : okT T) (hwr : -2147483648 ≤ which ∧ which < 2147483648) (har : -2147483648 ≤ a ∧ a < 2147483648) (hbr : -2147483648 ≤ b ∧ b < 2147483648) (hcr : -2147483648 ≤ c ∧ c < 2147483648) (hdr : -2147483648 ≤ d ∧ d < 2147483648) (hO : oCall T which a b c d = O)
    (kk : ∀ h' : gH, isJ E h' x O.2.2 → gKp x (x + 524) h h' → G E F t Q n none h' (kc + 5) (ks + 30) pc' L (.int (gi (tO O)) :: rest)) : G E F t Q n none h kc ks pc L (.int (gi d) :: .int (gi c) :: .int (gi b) :: .int (gi a) :: .int (gi which) :: .ref x :: rest) := by
  subst hO
  exact g_callSW (As := [.ref x, .int (gi which), .int (gi a), .int (gi b), .int (gi c), .int (gi d)]) (rest := rest) pc' C hd ho lkT_l gii_RL gcd_L_told lkT_c gs_L_told rfl ft hw hp (c_L_told x T which a b c d hl hxb hJ hok hwr har hbr hcr hdr) g_no (fun v n' σ' h' hq => by obtain ⟨rfl, rfl, rfl, e1, e2⟩ := hq; exact kk h' e1 e2)
end TLD
/-- a refused call -/
theorem tO_r {T : gTt} (k : Int) (hk : k ≠ 0) : tO (k, 0, T) = k := if_neg hk
/-- costs as numbers, the answer as it is -/
theorem g_nrm {E : gEnv} {F : gFr} {t : gMt} {Q : State → Prop} {n : Nat} {σ : Option Nat} {h : gH} {kc0 ks0 pc : Nat} {L : List (Nat × Value)} {rest : List Value} {v0 v : Int} (kc ks : Nat) (h1 : kc0 = kc) (h2 : ks0 = ks) (h3 : v0 = v) (k : G E F t Q n σ h kc ks pc L (.int (gi v) :: rest)) : G E F t Q n σ h kc0 ks0 pc L (.int (gi v0) :: rest) := by
  subst h1
  subst h2
  subst h3
  exact k
abbrev gTrue (E : gEnv) (h : gH) (x n : Nat) (T : gTt) : gQt := gD (some (.int (gi 1))) n none (fun h9 => isJ E h9 x T ∧ gKp x (x + 524) h h9)
set_option maxRecDepth 100000 in
set_option maxHeartbeats 4000000 in
theorem c_L_refusesAll {E : gEnv} {n : Nat} {h : gH} (x : Nat) (T : gTt) (which most d : Int) (hA : rfA T which most d) (hl : E.1.stackTraces = false) (hxb : gB E ≤ x ∧ x + 524 ≤ gB E + n) (hJ : isJ E h x T) (hok : okT T) (hwr : -2147483648 ≤ which ∧ which < 2147483648) (hm : 0 ≤ most ∧ most < 1000) (hdr : -2147483648 ≤ d ∧ d < 2147483648) : gM E mL_refusesAll [.ref x, .int (gi which), .int (gi most), .int (gi d)] n none h (gTrue E h x n T) gNo := by
  obtain ⟨hA0, hA1, hA2⟩ := hA
  refine gM_of (by decide) (Nat.le_of_ble_eq_true rfl) (fun F C => ?_)
  refine g_iconst 1 C dL_refusesAll_0 rfl ?_
  refine g_istore 3 [(4, _), (0, _), (1, _), (2, _), (3, _)] C dL_refusesAll_1 (by decide) rfl rfl ?_
  refine g_iconst 4 C dL_refusesAll_3 rfl ?_
  refine g_istore 6 [(5, _), (4, _), (0, _), (1, _), (2, _), (3, _)] C dL_refusesAll_4 (by decide) rfl rfl ?_
  refine g_iload 8 C dL_refusesAll_6 rfl rfl ?_
  refine g_iconst 9 C dL_refusesAll_8 rfl ?_
  refine g_icmp_ge 168 12 C dL_refusesAll_9 rfl rfl (by omega) (by omega) (fun c8 => absurd c8 (by omega)) (fun _ => ?_)
  refine g_iload_n 13 C dL_refusesAll_12 rfl rfl ?_
  refine g_iload 15 C dL_refusesAll_13 rfl rfl ?_
  refine g_if_ne 23 18 C dL_refusesAll_15 rfl rfl (by omega) (fun c8 => absurd c8 (by omega)) (fun _ => ?_)
  refine g_bipush 20 C dL_refusesAll_18 (by decide) rfl ?_
  refine g_goto 35 C dL_refusesAll_20 rfl ?_
  refine g_idiv 36 C dL_refusesAll_35 (by omega) (by omega) rfl ?_
  refine g_bipush 38 C dL_refusesAll_36 (by decide) rfl ?_
  refine g_irem 39 C dL_refusesAll_38 (by omega) (by omega) rfl ?_
  refine g_istore 41 [(6, _), (5, _), (4, _), (0, _), (1, _), (2, _), (3, _)] C dL_refusesAll_39 (by decide) rfl rfl ?_
  refine g_iload 43 C dL_refusesAll_41 rfl rfl ?_
  refine g_if_ne 49 46 C dL_refusesAll_43 rfl rfl (by omega) (fun cb0 => ?_) (fun cb0 => ?_)
  · skip
    refine g_iload 51 C dL_refusesAll_49 rfl rfl ?_
    refine g_if_eq 101 54 C dL_refusesAll_51 rfl rfl (by omega) (fun c8 => absurd c8 (by omega)) (fun _ => ?_)
    refine g_aload_n 55 C dL_refusesAll_54 rfl rfl ?_
    refine g_iload_n 56 C dL_refusesAll_55 rfl rfl ?_
    refine g_iload 58 C dL_refusesAll_56 rfl rfl ?_
    refine g_if_ne 65 61 C dL_refusesAll_58 rfl rfl (by omega) (fun c8 => absurd c8 (by omega)) (fun _ => ?_)
    refine g_iconst 62 C dL_refusesAll_61 rfl ?_
    refine g_goto 66 C dL_refusesAll_62 rfl ?_
    refine g_iload 68 C dL_refusesAll_66 rfl rfl ?_
    refine g_iconst 69 C dL_refusesAll_68 rfl ?_
    refine g_icmp_ne 76 72 C dL_refusesAll_69 rfl rfl (by omega) (by omega) (fun _ => ?_) (fun c8 => absurd c8 (by omega))
    refine g_iconst 77 C dL_refusesAll_76 rfl ?_
    refine g_iload 79 C dL_refusesAll_77 rfl rfl ?_
    refine g_iconst 80 C dL_refusesAll_79 rfl ?_
    refine g_icmp_ne 87 83 C dL_refusesAll_80 rfl rfl (by omega) (by omega) (fun _ => ?_) (fun c8 => absurd c8 (by omega))
    refine g_iconst 88 C dL_refusesAll_87 rfl ?_
    refine g_iload_n 89 C dL_refusesAll_88 rfl rfl ?_
    refine g_told x T which (-1) (0) (2) d (-11, 0, T) 92 C dL_refusesAll_89 rfl ⟨⟨by decide, by decide⟩, by decide, by decide⟩ (Nat.le_of_ble_eq_true rfl) rfl hl hxb hJ hok hwr (by omega) (by omega) (by omega) hdr (hA0 cb0).1 (fun h1 e1 q1 => ?_)
    refine g_nrm 5 30 rfl rfl (tO_r (-11) (by decide)) ?_
    refine g_bipush 94 C dL_refusesAll_92 (by decide) rfl ?_
    refine g_icmp_ne 101 97 C dL_refusesAll_94 rfl rfl (by omega) (by omega) (fun c8 => absurd c8 (by omega)) (fun _ => ?_)
    refine g_iconst 98 C dL_refusesAll_97 rfl ?_
    refine g_goto 102 C dL_refusesAll_98 rfl ?_
    refine g_istore 104 [(4, _), (6, _), (5, _), (0, _), (1, _), (2, _), (3, _)] C dL_refusesAll_102 (by decide) rfl rfl ?_
    refine g_iload 106 C dL_refusesAll_104 rfl rfl ?_
    refine g_if_eq 159 109 C dL_refusesAll_106 rfl rfl (by omega) (fun c8 => absurd c8 (by omega)) (fun _ => ?_)
    refine g_aload_n 110 C dL_refusesAll_109 rfl rfl ?_
    refine g_iload_n 111 C dL_refusesAll_110 rfl rfl ?_
    refine g_iload 113 C dL_refusesAll_111 rfl rfl ?_
    refine g_if_ne 121 116 C dL_refusesAll_113 rfl rfl (by omega) (fun c8 => absurd c8 (by omega)) (fun _ => ?_)
    refine g_iload 118 C dL_refusesAll_116 rfl rfl ?_
    refine g_goto 122 C dL_refusesAll_118 rfl ?_
    refine g_iload 124 C dL_refusesAll_122 rfl rfl ?_
    refine g_iconst 125 C dL_refusesAll_124 rfl ?_
    refine g_icmp_ne 133 128 C dL_refusesAll_125 rfl rfl (by omega) (by omega) (fun _ => ?_) (fun c8 => absurd c8 (by omega))
    refine g_iconst 134 C dL_refusesAll_133 rfl ?_
    refine g_iload 136 C dL_refusesAll_134 rfl rfl ?_
    refine g_iconst 137 C dL_refusesAll_136 rfl ?_
    refine g_icmp_ne 145 140 C dL_refusesAll_137 rfl rfl (by omega) (by omega) (fun _ => ?_) (fun c8 => absurd c8 (by omega))
    refine g_iconst 146 C dL_refusesAll_145 rfl ?_
    refine g_iload_n 147 C dL_refusesAll_146 rfl rfl ?_
    refine g_told x T which (((most / 100) % 10)) (0) (2) d (-11, 0, T) 150 C dL_refusesAll_147 rfl ⟨⟨by decide, by decide⟩, by decide, by decide⟩ (Nat.le_of_ble_eq_true rfl) rfl hl hxb e1 hok hwr (by omega) (by omega) (by omega) hdr (hA0 cb0).2 (fun h2 e2 q2 => ?_)
    refine g_nrm 10 60 rfl rfl (tO_r (-11) (by decide)) ?_
    refine g_bipush 152 C dL_refusesAll_150 (by decide) rfl ?_
    refine g_icmp_ne 159 155 C dL_refusesAll_152 rfl rfl (by omega) (by omega) (fun c8 => absurd c8 (by omega)) (fun _ => ?_)
    refine g_iconst 156 C dL_refusesAll_155 rfl ?_
    refine g_goto 160 C dL_refusesAll_156 rfl ?_
    refine g_istore 162 [(4, _), (6, _), (5, _), (0, _), (1, _), (2, _), (3, _)] C dL_refusesAll_160 (by decide) rfl rfl ?_
    refine g_iinc 165 [(5, _), (4, _), (6, _), (0, _), (1, _), (2, _), (3, _)] C dL_refusesAll_162 rfl (by decide) rfl rfl ?_
    refine g_loc [(5, .int (gi 1)), (4, _), (6, _), (0, _), (1, _), (2, _), (3, _)] ⟨rfl, rfl, rfl, rfl, rfl, rfl, rfl, trivial⟩ ?_
    refine g_goto 6 C dL_refusesAll_165 rfl ?_
    refine g_iload 8 C dL_refusesAll_6 rfl rfl ?_
    refine g_iconst 9 C dL_refusesAll_8 rfl ?_
    refine g_icmp_ge 168 12 C dL_refusesAll_9 rfl rfl (by omega) (by omega) (fun c8 => absurd c8 (by omega)) (fun _ => ?_)
    refine g_iload_n 13 C dL_refusesAll_12 rfl rfl ?_
    refine g_iload 15 C dL_refusesAll_13 rfl rfl ?_
    refine g_if_ne 23 18 C dL_refusesAll_15 rfl rfl (by omega) (fun _ => ?_) (fun c8 => absurd c8 (by omega))
    refine g_iload 25 C dL_refusesAll_23 rfl rfl ?_
    refine g_iconst 26 C dL_refusesAll_25 rfl ?_
    refine g_icmp_ne 34 29 C dL_refusesAll_26 rfl rfl (by omega) (by omega) (fun c8 => absurd c8 (by omega)) (fun _ => ?_)
    refine g_bipush 31 C dL_refusesAll_29 (by decide) rfl ?_
    refine g_goto 35 C dL_refusesAll_31 rfl ?_
    refine g_idiv 36 C dL_refusesAll_35 (by omega) (by omega) rfl ?_
    refine g_bipush 38 C dL_refusesAll_36 (by decide) rfl ?_
    refine g_irem 39 C dL_refusesAll_38 (by omega) (by omega) rfl ?_
    refine g_istore 41 [(6, _), (5, _), (4, _), (0, _), (1, _), (2, _), (3, _)] C dL_refusesAll_39 (by decide) rfl rfl ?_
    refine g_iload 43 C dL_refusesAll_41 rfl rfl ?_
    refine g_if_ne 49 46 C dL_refusesAll_43 rfl rfl (by omega) (fun cb1 => ?_) (fun cb1 => ?_)
    · skip
      refine g_iload 51 C dL_refusesAll_49 rfl rfl ?_
      refine g_if_eq 101 54 C dL_refusesAll_51 rfl rfl (by omega) (fun c8 => absurd c8 (by omega)) (fun _ => ?_)
      refine g_aload_n 55 C dL_refusesAll_54 rfl rfl ?_
      refine g_iload_n 56 C dL_refusesAll_55 rfl rfl ?_
      refine g_iload 58 C dL_refusesAll_56 rfl rfl ?_
      refine g_if_ne 65 61 C dL_refusesAll_58 rfl rfl (by omega) (fun _ => ?_) (fun c8 => absurd c8 (by omega))
      refine g_iconst 66 C dL_refusesAll_65 rfl ?_
      refine g_iload 68 C dL_refusesAll_66 rfl rfl ?_
      refine g_iconst 69 C dL_refusesAll_68 rfl ?_
      refine g_icmp_ne 76 72 C dL_refusesAll_69 rfl rfl (by omega) (by omega) (fun c8 => absurd c8 (by omega)) (fun _ => ?_)
      refine g_iconst 73 C dL_refusesAll_72 rfl ?_
      refine g_goto 77 C dL_refusesAll_73 rfl ?_
      refine g_iload 79 C dL_refusesAll_77 rfl rfl ?_
      refine g_iconst 80 C dL_refusesAll_79 rfl ?_
      refine g_icmp_ne 87 83 C dL_refusesAll_80 rfl rfl (by omega) (by omega) (fun _ => ?_) (fun c8 => absurd c8 (by omega))
      refine g_iconst 88 C dL_refusesAll_87 rfl ?_
      refine g_iload_n 89 C dL_refusesAll_88 rfl rfl ?_
      refine g_told x T which (1) (-1) (2) d (-11, 0, T) 92 C dL_refusesAll_89 rfl ⟨⟨by decide, by decide⟩, by decide, by decide⟩ (Nat.le_of_ble_eq_true rfl) rfl hl hxb e2 hok hwr (by omega) (by omega) (by omega) hdr (hA1 cb1).1 (fun h3 e3 q3 => ?_)
      refine g_nrm 15 90 rfl rfl (tO_r (-11) (by decide)) ?_
      refine g_bipush 94 C dL_refusesAll_92 (by decide) rfl ?_
      refine g_icmp_ne 101 97 C dL_refusesAll_94 rfl rfl (by omega) (by omega) (fun c8 => absurd c8 (by omega)) (fun _ => ?_)
      refine g_iconst 98 C dL_refusesAll_97 rfl ?_
      refine g_goto 102 C dL_refusesAll_98 rfl ?_
      refine g_istore 104 [(4, _), (6, _), (5, _), (0, _), (1, _), (2, _), (3, _)] C dL_refusesAll_102 (by decide) rfl rfl ?_
      refine g_iload 106 C dL_refusesAll_104 rfl rfl ?_
      refine g_if_eq 159 109 C dL_refusesAll_106 rfl rfl (by omega) (fun c8 => absurd c8 (by omega)) (fun _ => ?_)
      refine g_aload_n 110 C dL_refusesAll_109 rfl rfl ?_
      refine g_iload_n 111 C dL_refusesAll_110 rfl rfl ?_
      refine g_iload 113 C dL_refusesAll_111 rfl rfl ?_
      refine g_if_ne 121 116 C dL_refusesAll_113 rfl rfl (by omega) (fun _ => ?_) (fun c8 => absurd c8 (by omega))
      refine g_iconst 122 C dL_refusesAll_121 rfl ?_
      refine g_iload 124 C dL_refusesAll_122 rfl rfl ?_
      refine g_iconst 125 C dL_refusesAll_124 rfl ?_
      refine g_icmp_ne 133 128 C dL_refusesAll_125 rfl rfl (by omega) (by omega) (fun c8 => absurd c8 (by omega)) (fun _ => ?_)
      refine g_iload 130 C dL_refusesAll_128 rfl rfl ?_
      refine g_goto 134 C dL_refusesAll_130 rfl ?_
      refine g_iload 136 C dL_refusesAll_134 rfl rfl ?_
      refine g_iconst 137 C dL_refusesAll_136 rfl ?_
      refine g_icmp_ne 145 140 C dL_refusesAll_137 rfl rfl (by omega) (by omega) (fun _ => ?_) (fun c8 => absurd c8 (by omega))
      refine g_iconst 146 C dL_refusesAll_145 rfl ?_
      refine g_iload_n 147 C dL_refusesAll_146 rfl rfl ?_
      refine g_told x T which (1) (((most / 10) % 10)) (2) d (-11, 0, T) 150 C dL_refusesAll_147 rfl ⟨⟨by decide, by decide⟩, by decide, by decide⟩ (Nat.le_of_ble_eq_true rfl) rfl hl hxb e3 hok hwr (by omega) (by omega) (by omega) hdr (hA1 cb1).2 (fun h4 e4 q4 => ?_)
      refine g_nrm 20 120 rfl rfl (tO_r (-11) (by decide)) ?_
      refine g_bipush 152 C dL_refusesAll_150 (by decide) rfl ?_
      refine g_icmp_ne 159 155 C dL_refusesAll_152 rfl rfl (by omega) (by omega) (fun c8 => absurd c8 (by omega)) (fun _ => ?_)
      refine g_iconst 156 C dL_refusesAll_155 rfl ?_
      refine g_goto 160 C dL_refusesAll_156 rfl ?_
      refine g_istore 162 [(4, _), (6, _), (5, _), (0, _), (1, _), (2, _), (3, _)] C dL_refusesAll_160 (by decide) rfl rfl ?_
      refine g_iinc 165 [(5, _), (4, _), (6, _), (0, _), (1, _), (2, _), (3, _)] C dL_refusesAll_162 rfl (by decide) rfl rfl ?_
      refine g_loc [(5, .int (gi 2)), (4, _), (6, _), (0, _), (1, _), (2, _), (3, _)] ⟨rfl, rfl, rfl, rfl, rfl, rfl, rfl, trivial⟩ ?_
      refine g_goto 6 C dL_refusesAll_165 rfl ?_
      refine g_iload 8 C dL_refusesAll_6 rfl rfl ?_
      refine g_iconst 9 C dL_refusesAll_8 rfl ?_
      refine g_icmp_ge 168 12 C dL_refusesAll_9 rfl rfl (by omega) (by omega) (fun c8 => absurd c8 (by omega)) (fun _ => ?_)
      refine g_iload_n 13 C dL_refusesAll_12 rfl rfl ?_
      refine g_iload 15 C dL_refusesAll_13 rfl rfl ?_
      refine g_if_ne 23 18 C dL_refusesAll_15 rfl rfl (by omega) (fun _ => ?_) (fun c8 => absurd c8 (by omega))
      refine g_iload 25 C dL_refusesAll_23 rfl rfl ?_
      refine g_iconst 26 C dL_refusesAll_25 rfl ?_
      refine g_icmp_ne 34 29 C dL_refusesAll_26 rfl rfl (by omega) (by omega) (fun _ => ?_) (fun c8 => absurd c8 (by omega))
      refine g_iconst 35 C dL_refusesAll_34 rfl ?_
      refine g_idiv 36 C dL_refusesAll_35 (by omega) (by omega) rfl ?_
      refine g_bipush 38 C dL_refusesAll_36 (by decide) rfl ?_
      refine g_irem 39 C dL_refusesAll_38 (by omega) (by omega) rfl ?_
      refine g_istore 41 [(6, _), (5, _), (4, _), (0, _), (1, _), (2, _), (3, _)] C dL_refusesAll_39 (by decide) rfl rfl ?_
      refine g_iload 43 C dL_refusesAll_41 rfl rfl ?_
      refine g_if_ne 49 46 C dL_refusesAll_43 rfl rfl (by omega) (fun cb2 => ?_) (fun cb2 => ?_)
      · skip
        refine g_iload 51 C dL_refusesAll_49 rfl rfl ?_
        refine g_if_eq 101 54 C dL_refusesAll_51 rfl rfl (by omega) (fun c8 => absurd c8 (by omega)) (fun _ => ?_)
        refine g_aload_n 55 C dL_refusesAll_54 rfl rfl ?_
        refine g_iload_n 56 C dL_refusesAll_55 rfl rfl ?_
        refine g_iload 58 C dL_refusesAll_56 rfl rfl ?_
        refine g_if_ne 65 61 C dL_refusesAll_58 rfl rfl (by omega) (fun _ => ?_) (fun c8 => absurd c8 (by omega))
        refine g_iconst 66 C dL_refusesAll_65 rfl ?_
        refine g_iload 68 C dL_refusesAll_66 rfl rfl ?_
        refine g_iconst 69 C dL_refusesAll_68 rfl ?_
        refine g_icmp_ne 76 72 C dL_refusesAll_69 rfl rfl (by omega) (by omega) (fun _ => ?_) (fun c8 => absurd c8 (by omega))
        refine g_iconst 77 C dL_refusesAll_76 rfl ?_
        refine g_iload 79 C dL_refusesAll_77 rfl rfl ?_
        refine g_iconst 80 C dL_refusesAll_79 rfl ?_
        refine g_icmp_ne 87 83 C dL_refusesAll_80 rfl rfl (by omega) (by omega) (fun c8 => absurd c8 (by omega)) (fun _ => ?_)
        refine g_iconst 84 C dL_refusesAll_83 rfl ?_
        refine g_goto 88 C dL_refusesAll_84 rfl ?_
        refine g_iload_n 89 C dL_refusesAll_88 rfl rfl ?_
        refine g_told x T which (1) (0) (-1) d (-11, 0, T) 92 C dL_refusesAll_89 rfl ⟨⟨by decide, by decide⟩, by decide, by decide⟩ (Nat.le_of_ble_eq_true rfl) rfl hl hxb e4 hok hwr (by omega) (by omega) (by omega) hdr (hA2 cb2).1 (fun h5 e5 q5 => ?_)
        refine g_nrm 25 150 rfl rfl (tO_r (-11) (by decide)) ?_
        refine g_bipush 94 C dL_refusesAll_92 (by decide) rfl ?_
        refine g_icmp_ne 101 97 C dL_refusesAll_94 rfl rfl (by omega) (by omega) (fun c8 => absurd c8 (by omega)) (fun _ => ?_)
        refine g_iconst 98 C dL_refusesAll_97 rfl ?_
        refine g_goto 102 C dL_refusesAll_98 rfl ?_
        refine g_istore 104 [(4, _), (6, _), (5, _), (0, _), (1, _), (2, _), (3, _)] C dL_refusesAll_102 (by decide) rfl rfl ?_
        refine g_iload 106 C dL_refusesAll_104 rfl rfl ?_
        refine g_if_eq 159 109 C dL_refusesAll_106 rfl rfl (by omega) (fun c8 => absurd c8 (by omega)) (fun _ => ?_)
        refine g_aload_n 110 C dL_refusesAll_109 rfl rfl ?_
        refine g_iload_n 111 C dL_refusesAll_110 rfl rfl ?_
        refine g_iload 113 C dL_refusesAll_111 rfl rfl ?_
        refine g_if_ne 121 116 C dL_refusesAll_113 rfl rfl (by omega) (fun _ => ?_) (fun c8 => absurd c8 (by omega))
        refine g_iconst 122 C dL_refusesAll_121 rfl ?_
        refine g_iload 124 C dL_refusesAll_122 rfl rfl ?_
        refine g_iconst 125 C dL_refusesAll_124 rfl ?_
        refine g_icmp_ne 133 128 C dL_refusesAll_125 rfl rfl (by omega) (by omega) (fun _ => ?_) (fun c8 => absurd c8 (by omega))
        refine g_iconst 134 C dL_refusesAll_133 rfl ?_
        refine g_iload 136 C dL_refusesAll_134 rfl rfl ?_
        refine g_iconst 137 C dL_refusesAll_136 rfl ?_
        refine g_icmp_ne 145 140 C dL_refusesAll_137 rfl rfl (by omega) (by omega) (fun c8 => absurd c8 (by omega)) (fun _ => ?_)
        refine g_iload 142 C dL_refusesAll_140 rfl rfl ?_
        refine g_goto 146 C dL_refusesAll_142 rfl ?_
        refine g_iload_n 147 C dL_refusesAll_146 rfl rfl ?_
        refine g_told x T which (1) (0) (((most / 1) % 10)) d (-11, 0, T) 150 C dL_refusesAll_147 rfl ⟨⟨by decide, by decide⟩, by decide, by decide⟩ (Nat.le_of_ble_eq_true rfl) rfl hl hxb e5 hok hwr (by omega) (by omega) (by omega) hdr (hA2 cb2).2 (fun h6 e6 q6 => ?_)
        refine g_nrm 30 180 rfl rfl (tO_r (-11) (by decide)) ?_
        refine g_bipush 152 C dL_refusesAll_150 (by decide) rfl ?_
        refine g_icmp_ne 159 155 C dL_refusesAll_152 rfl rfl (by omega) (by omega) (fun c8 => absurd c8 (by omega)) (fun _ => ?_)
        refine g_iconst 156 C dL_refusesAll_155 rfl ?_
        refine g_goto 160 C dL_refusesAll_156 rfl ?_
        refine g_istore 162 [(4, _), (6, _), (5, _), (0, _), (1, _), (2, _), (3, _)] C dL_refusesAll_160 (by decide) rfl rfl ?_
        refine g_iinc 165 [(5, _), (4, _), (6, _), (0, _), (1, _), (2, _), (3, _)] C dL_refusesAll_162 rfl (by decide) rfl rfl ?_
        refine g_loc [(5, .int (gi 3)), (4, _), (6, _), (0, _), (1, _), (2, _), (3, _)] ⟨rfl, rfl, rfl, rfl, rfl, rfl, rfl, trivial⟩ ?_
        refine g_goto 6 C dL_refusesAll_165 rfl ?_
        refine g_iload 8 C dL_refusesAll_6 rfl rfl ?_
        refine g_iconst 9 C dL_refusesAll_8 rfl ?_
        refine g_icmp_ge 168 12 C dL_refusesAll_9 rfl rfl (by omega) (by omega) (fun _ => ?_) (fun c8 => absurd c8 (by omega))
        refine g_iload 170 C dL_refusesAll_168 rfl rfl ?_
        exact g_zret C dL_refusesAll_170 rfl rfl ⟨by decide, by decide⟩ ⟨rfl, rfl, rfl, e6, gKp_tr (gKp_tr (gKp_tr (gKp_tr (gKp_tr (gKp_tr (gKp_rf) q1) q2) q3) q4) q5) q6⟩
      · skip
        refine g_goto 162 C dL_refusesAll_46 rfl ?_
        refine g_iinc 165 [(5, _), (6, _), (4, _), (0, _), (1, _), (2, _), (3, _)] C dL_refusesAll_162 rfl (by decide) rfl rfl ?_
        refine g_loc [(5, .int (gi 3)), (6, _), (4, _), (0, _), (1, _), (2, _), (3, _)] ⟨rfl, rfl, rfl, rfl, rfl, rfl, rfl, trivial⟩ ?_
        refine g_goto 6 C dL_refusesAll_165 rfl ?_
        refine g_iload 8 C dL_refusesAll_6 rfl rfl ?_
        refine g_iconst 9 C dL_refusesAll_8 rfl ?_
        refine g_icmp_ge 168 12 C dL_refusesAll_9 rfl rfl (by omega) (by omega) (fun _ => ?_) (fun c8 => absurd c8 (by omega))
        refine g_iload 170 C dL_refusesAll_168 rfl rfl ?_
        exact g_zret C dL_refusesAll_170 rfl rfl ⟨by decide, by decide⟩ ⟨rfl, rfl, rfl, e4, gKp_tr (gKp_tr (gKp_tr (gKp_tr (gKp_rf) q1) q2) q3) q4⟩
    · skip
      refine g_goto 162 C dL_refusesAll_46 rfl ?_
      refine g_iinc 165 [(5, _), (6, _), (4, _), (0, _), (1, _), (2, _), (3, _)] C dL_refusesAll_162 rfl (by decide) rfl rfl ?_
      refine g_loc [(5, .int (gi 2)), (6, _), (4, _), (0, _), (1, _), (2, _), (3, _)] ⟨rfl, rfl, rfl, rfl, rfl, rfl, rfl, trivial⟩ ?_
      refine g_goto 6 C dL_refusesAll_165 rfl ?_
      refine g_iload 8 C dL_refusesAll_6 rfl rfl ?_
      refine g_iconst 9 C dL_refusesAll_8 rfl ?_
      refine g_icmp_ge 168 12 C dL_refusesAll_9 rfl rfl (by omega) (by omega) (fun c8 => absurd c8 (by omega)) (fun _ => ?_)
      refine g_iload_n 13 C dL_refusesAll_12 rfl rfl ?_
      refine g_iload 15 C dL_refusesAll_13 rfl rfl ?_
      refine g_if_ne 23 18 C dL_refusesAll_15 rfl rfl (by omega) (fun _ => ?_) (fun c8 => absurd c8 (by omega))
      refine g_iload 25 C dL_refusesAll_23 rfl rfl ?_
      refine g_iconst 26 C dL_refusesAll_25 rfl ?_
      refine g_icmp_ne 34 29 C dL_refusesAll_26 rfl rfl (by omega) (by omega) (fun _ => ?_) (fun c8 => absurd c8 (by omega))
      refine g_iconst 35 C dL_refusesAll_34 rfl ?_
      refine g_idiv 36 C dL_refusesAll_35 (by omega) (by omega) rfl ?_
      refine g_bipush 38 C dL_refusesAll_36 (by decide) rfl ?_
      refine g_irem 39 C dL_refusesAll_38 (by omega) (by omega) rfl ?_
      refine g_istore 41 [(6, _), (5, _), (4, _), (0, _), (1, _), (2, _), (3, _)] C dL_refusesAll_39 (by decide) rfl rfl ?_
      refine g_iload 43 C dL_refusesAll_41 rfl rfl ?_
      refine g_if_ne 49 46 C dL_refusesAll_43 rfl rfl (by omega) (fun cb2 => ?_) (fun cb2 => ?_)
      · skip
        refine g_iload 51 C dL_refusesAll_49 rfl rfl ?_
        refine g_if_eq 101 54 C dL_refusesAll_51 rfl rfl (by omega) (fun c8 => absurd c8 (by omega)) (fun _ => ?_)
        refine g_aload_n 55 C dL_refusesAll_54 rfl rfl ?_
        refine g_iload_n 56 C dL_refusesAll_55 rfl rfl ?_
        refine g_iload 58 C dL_refusesAll_56 rfl rfl ?_
        refine g_if_ne 65 61 C dL_refusesAll_58 rfl rfl (by omega) (fun _ => ?_) (fun c8 => absurd c8 (by omega))
        refine g_iconst 66 C dL_refusesAll_65 rfl ?_
        refine g_iload 68 C dL_refusesAll_66 rfl rfl ?_
        refine g_iconst 69 C dL_refusesAll_68 rfl ?_
        refine g_icmp_ne 76 72 C dL_refusesAll_69 rfl rfl (by omega) (by omega) (fun _ => ?_) (fun c8 => absurd c8 (by omega))
        refine g_iconst 77 C dL_refusesAll_76 rfl ?_
        refine g_iload 79 C dL_refusesAll_77 rfl rfl ?_
        refine g_iconst 80 C dL_refusesAll_79 rfl ?_
        refine g_icmp_ne 87 83 C dL_refusesAll_80 rfl rfl (by omega) (by omega) (fun c8 => absurd c8 (by omega)) (fun _ => ?_)
        refine g_iconst 84 C dL_refusesAll_83 rfl ?_
        refine g_goto 88 C dL_refusesAll_84 rfl ?_
        refine g_iload_n 89 C dL_refusesAll_88 rfl rfl ?_
        refine g_told x T which (1) (0) (-1) d (-11, 0, T) 92 C dL_refusesAll_89 rfl ⟨⟨by decide, by decide⟩, by decide, by decide⟩ (Nat.le_of_ble_eq_true rfl) rfl hl hxb e2 hok hwr (by omega) (by omega) (by omega) hdr (hA2 cb2).1 (fun h3 e3 q3 => ?_)
        refine g_nrm 15 90 rfl rfl (tO_r (-11) (by decide)) ?_
        refine g_bipush 94 C dL_refusesAll_92 (by decide) rfl ?_
        refine g_icmp_ne 101 97 C dL_refusesAll_94 rfl rfl (by omega) (by omega) (fun c8 => absurd c8 (by omega)) (fun _ => ?_)
        refine g_iconst 98 C dL_refusesAll_97 rfl ?_
        refine g_goto 102 C dL_refusesAll_98 rfl ?_
        refine g_istore 104 [(4, _), (6, _), (5, _), (0, _), (1, _), (2, _), (3, _)] C dL_refusesAll_102 (by decide) rfl rfl ?_
        refine g_iload 106 C dL_refusesAll_104 rfl rfl ?_
        refine g_if_eq 159 109 C dL_refusesAll_106 rfl rfl (by omega) (fun c8 => absurd c8 (by omega)) (fun _ => ?_)
        refine g_aload_n 110 C dL_refusesAll_109 rfl rfl ?_
        refine g_iload_n 111 C dL_refusesAll_110 rfl rfl ?_
        refine g_iload 113 C dL_refusesAll_111 rfl rfl ?_
        refine g_if_ne 121 116 C dL_refusesAll_113 rfl rfl (by omega) (fun _ => ?_) (fun c8 => absurd c8 (by omega))
        refine g_iconst 122 C dL_refusesAll_121 rfl ?_
        refine g_iload 124 C dL_refusesAll_122 rfl rfl ?_
        refine g_iconst 125 C dL_refusesAll_124 rfl ?_
        refine g_icmp_ne 133 128 C dL_refusesAll_125 rfl rfl (by omega) (by omega) (fun _ => ?_) (fun c8 => absurd c8 (by omega))
        refine g_iconst 134 C dL_refusesAll_133 rfl ?_
        refine g_iload 136 C dL_refusesAll_134 rfl rfl ?_
        refine g_iconst 137 C dL_refusesAll_136 rfl ?_
        refine g_icmp_ne 145 140 C dL_refusesAll_137 rfl rfl (by omega) (by omega) (fun c8 => absurd c8 (by omega)) (fun _ => ?_)
        refine g_iload 142 C dL_refusesAll_140 rfl rfl ?_
        refine g_goto 146 C dL_refusesAll_142 rfl ?_
        refine g_iload_n 147 C dL_refusesAll_146 rfl rfl ?_
        refine g_told x T which (1) (0) (((most / 1) % 10)) d (-11, 0, T) 150 C dL_refusesAll_147 rfl ⟨⟨by decide, by decide⟩, by decide, by decide⟩ (Nat.le_of_ble_eq_true rfl) rfl hl hxb e3 hok hwr (by omega) (by omega) (by omega) hdr (hA2 cb2).2 (fun h4 e4 q4 => ?_)
        refine g_nrm 20 120 rfl rfl (tO_r (-11) (by decide)) ?_
        refine g_bipush 152 C dL_refusesAll_150 (by decide) rfl ?_
        refine g_icmp_ne 159 155 C dL_refusesAll_152 rfl rfl (by omega) (by omega) (fun c8 => absurd c8 (by omega)) (fun _ => ?_)
        refine g_iconst 156 C dL_refusesAll_155 rfl ?_
        refine g_goto 160 C dL_refusesAll_156 rfl ?_
        refine g_istore 162 [(4, _), (6, _), (5, _), (0, _), (1, _), (2, _), (3, _)] C dL_refusesAll_160 (by decide) rfl rfl ?_
        refine g_iinc 165 [(5, _), (4, _), (6, _), (0, _), (1, _), (2, _), (3, _)] C dL_refusesAll_162 rfl (by decide) rfl rfl ?_
        refine g_loc [(5, .int (gi 3)), (4, _), (6, _), (0, _), (1, _), (2, _), (3, _)] ⟨rfl, rfl, rfl, rfl, rfl, rfl, rfl, trivial⟩ ?_
        refine g_goto 6 C dL_refusesAll_165 rfl ?_
        refine g_iload 8 C dL_refusesAll_6 rfl rfl ?_
        refine g_iconst 9 C dL_refusesAll_8 rfl ?_
        refine g_icmp_ge 168 12 C dL_refusesAll_9 rfl rfl (by omega) (by omega) (fun _ => ?_) (fun c8 => absurd c8 (by omega))
        refine g_iload 170 C dL_refusesAll_168 rfl rfl ?_
        exact g_zret C dL_refusesAll_170 rfl rfl ⟨by decide, by decide⟩ ⟨rfl, rfl, rfl, e4, gKp_tr (gKp_tr (gKp_tr (gKp_tr (gKp_rf) q1) q2) q3) q4⟩
      · skip
        refine g_goto 162 C dL_refusesAll_46 rfl ?_
        refine g_iinc 165 [(5, _), (6, _), (4, _), (0, _), (1, _), (2, _), (3, _)] C dL_refusesAll_162 rfl (by decide) rfl rfl ?_
        refine g_loc [(5, .int (gi 3)), (6, _), (4, _), (0, _), (1, _), (2, _), (3, _)] ⟨rfl, rfl, rfl, rfl, rfl, rfl, rfl, trivial⟩ ?_
        refine g_goto 6 C dL_refusesAll_165 rfl ?_
        refine g_iload 8 C dL_refusesAll_6 rfl rfl ?_
        refine g_iconst 9 C dL_refusesAll_8 rfl ?_
        refine g_icmp_ge 168 12 C dL_refusesAll_9 rfl rfl (by omega) (by omega) (fun _ => ?_) (fun c8 => absurd c8 (by omega))
        refine g_iload 170 C dL_refusesAll_168 rfl rfl ?_
        exact g_zret C dL_refusesAll_170 rfl rfl ⟨by decide, by decide⟩ ⟨rfl, rfl, rfl, e2, gKp_tr (gKp_tr (gKp_rf) q1) q2⟩
  · skip
    refine g_goto 162 C dL_refusesAll_46 rfl ?_
    refine g_iinc 165 [(5, _), (6, _), (4, _), (0, _), (1, _), (2, _), (3, _)] C dL_refusesAll_162 rfl (by decide) rfl rfl ?_
    refine g_loc [(5, .int (gi 1)), (6, _), (4, _), (0, _), (1, _), (2, _), (3, _)] ⟨rfl, rfl, rfl, rfl, rfl, rfl, rfl, trivial⟩ ?_
    refine g_goto 6 C dL_refusesAll_165 rfl ?_
    refine g_iload 8 C dL_refusesAll_6 rfl rfl ?_
    refine g_iconst 9 C dL_refusesAll_8 rfl ?_
    refine g_icmp_ge 168 12 C dL_refusesAll_9 rfl rfl (by omega) (by omega) (fun c8 => absurd c8 (by omega)) (fun _ => ?_)
    refine g_iload_n 13 C dL_refusesAll_12 rfl rfl ?_
    refine g_iload 15 C dL_refusesAll_13 rfl rfl ?_
    refine g_if_ne 23 18 C dL_refusesAll_15 rfl rfl (by omega) (fun _ => ?_) (fun c8 => absurd c8 (by omega))
    refine g_iload 25 C dL_refusesAll_23 rfl rfl ?_
    refine g_iconst 26 C dL_refusesAll_25 rfl ?_
    refine g_icmp_ne 34 29 C dL_refusesAll_26 rfl rfl (by omega) (by omega) (fun c8 => absurd c8 (by omega)) (fun _ => ?_)
    refine g_bipush 31 C dL_refusesAll_29 (by decide) rfl ?_
    refine g_goto 35 C dL_refusesAll_31 rfl ?_
    refine g_idiv 36 C dL_refusesAll_35 (by omega) (by omega) rfl ?_
    refine g_bipush 38 C dL_refusesAll_36 (by decide) rfl ?_
    refine g_irem 39 C dL_refusesAll_38 (by omega) (by omega) rfl ?_
    refine g_istore 41 [(6, _), (5, _), (4, _), (0, _), (1, _), (2, _), (3, _)] C dL_refusesAll_39 (by decide) rfl rfl ?_
    refine g_iload 43 C dL_refusesAll_41 rfl rfl ?_
    refine g_if_ne 49 46 C dL_refusesAll_43 rfl rfl (by omega) (fun cb1 => ?_) (fun cb1 => ?_)
    · skip
      refine g_iload 51 C dL_refusesAll_49 rfl rfl ?_
      refine g_if_eq 101 54 C dL_refusesAll_51 rfl rfl (by omega) (fun c8 => absurd c8 (by omega)) (fun _ => ?_)
      refine g_aload_n 55 C dL_refusesAll_54 rfl rfl ?_
      refine g_iload_n 56 C dL_refusesAll_55 rfl rfl ?_
      refine g_iload 58 C dL_refusesAll_56 rfl rfl ?_
      refine g_if_ne 65 61 C dL_refusesAll_58 rfl rfl (by omega) (fun _ => ?_) (fun c8 => absurd c8 (by omega))
      refine g_iconst 66 C dL_refusesAll_65 rfl ?_
      refine g_iload 68 C dL_refusesAll_66 rfl rfl ?_
      refine g_iconst 69 C dL_refusesAll_68 rfl ?_
      refine g_icmp_ne 76 72 C dL_refusesAll_69 rfl rfl (by omega) (by omega) (fun c8 => absurd c8 (by omega)) (fun _ => ?_)
      refine g_iconst 73 C dL_refusesAll_72 rfl ?_
      refine g_goto 77 C dL_refusesAll_73 rfl ?_
      refine g_iload 79 C dL_refusesAll_77 rfl rfl ?_
      refine g_iconst 80 C dL_refusesAll_79 rfl ?_
      refine g_icmp_ne 87 83 C dL_refusesAll_80 rfl rfl (by omega) (by omega) (fun _ => ?_) (fun c8 => absurd c8 (by omega))
      refine g_iconst 88 C dL_refusesAll_87 rfl ?_
      refine g_iload_n 89 C dL_refusesAll_88 rfl rfl ?_
      refine g_told x T which (1) (-1) (2) d (-11, 0, T) 92 C dL_refusesAll_89 rfl ⟨⟨by decide, by decide⟩, by decide, by decide⟩ (Nat.le_of_ble_eq_true rfl) rfl hl hxb hJ hok hwr (by omega) (by omega) (by omega) hdr (hA1 cb1).1 (fun h1 e1 q1 => ?_)
      refine g_nrm 5 30 rfl rfl (tO_r (-11) (by decide)) ?_
      refine g_bipush 94 C dL_refusesAll_92 (by decide) rfl ?_
      refine g_icmp_ne 101 97 C dL_refusesAll_94 rfl rfl (by omega) (by omega) (fun c8 => absurd c8 (by omega)) (fun _ => ?_)
      refine g_iconst 98 C dL_refusesAll_97 rfl ?_
      refine g_goto 102 C dL_refusesAll_98 rfl ?_
      refine g_istore 104 [(4, _), (6, _), (5, _), (0, _), (1, _), (2, _), (3, _)] C dL_refusesAll_102 (by decide) rfl rfl ?_
      refine g_iload 106 C dL_refusesAll_104 rfl rfl ?_
      refine g_if_eq 159 109 C dL_refusesAll_106 rfl rfl (by omega) (fun c8 => absurd c8 (by omega)) (fun _ => ?_)
      refine g_aload_n 110 C dL_refusesAll_109 rfl rfl ?_
      refine g_iload_n 111 C dL_refusesAll_110 rfl rfl ?_
      refine g_iload 113 C dL_refusesAll_111 rfl rfl ?_
      refine g_if_ne 121 116 C dL_refusesAll_113 rfl rfl (by omega) (fun _ => ?_) (fun c8 => absurd c8 (by omega))
      refine g_iconst 122 C dL_refusesAll_121 rfl ?_
      refine g_iload 124 C dL_refusesAll_122 rfl rfl ?_
      refine g_iconst 125 C dL_refusesAll_124 rfl ?_
      refine g_icmp_ne 133 128 C dL_refusesAll_125 rfl rfl (by omega) (by omega) (fun c8 => absurd c8 (by omega)) (fun _ => ?_)
      refine g_iload 130 C dL_refusesAll_128 rfl rfl ?_
      refine g_goto 134 C dL_refusesAll_130 rfl ?_
      refine g_iload 136 C dL_refusesAll_134 rfl rfl ?_
      refine g_iconst 137 C dL_refusesAll_136 rfl ?_
      refine g_icmp_ne 145 140 C dL_refusesAll_137 rfl rfl (by omega) (by omega) (fun _ => ?_) (fun c8 => absurd c8 (by omega))
      refine g_iconst 146 C dL_refusesAll_145 rfl ?_
      refine g_iload_n 147 C dL_refusesAll_146 rfl rfl ?_
      refine g_told x T which (1) (((most / 10) % 10)) (2) d (-11, 0, T) 150 C dL_refusesAll_147 rfl ⟨⟨by decide, by decide⟩, by decide, by decide⟩ (Nat.le_of_ble_eq_true rfl) rfl hl hxb e1 hok hwr (by omega) (by omega) (by omega) hdr (hA1 cb1).2 (fun h2 e2 q2 => ?_)
      refine g_nrm 10 60 rfl rfl (tO_r (-11) (by decide)) ?_
      refine g_bipush 152 C dL_refusesAll_150 (by decide) rfl ?_
      refine g_icmp_ne 159 155 C dL_refusesAll_152 rfl rfl (by omega) (by omega) (fun c8 => absurd c8 (by omega)) (fun _ => ?_)
      refine g_iconst 156 C dL_refusesAll_155 rfl ?_
      refine g_goto 160 C dL_refusesAll_156 rfl ?_
      refine g_istore 162 [(4, _), (6, _), (5, _), (0, _), (1, _), (2, _), (3, _)] C dL_refusesAll_160 (by decide) rfl rfl ?_
      refine g_iinc 165 [(5, _), (4, _), (6, _), (0, _), (1, _), (2, _), (3, _)] C dL_refusesAll_162 rfl (by decide) rfl rfl ?_
      refine g_loc [(5, .int (gi 2)), (4, _), (6, _), (0, _), (1, _), (2, _), (3, _)] ⟨rfl, rfl, rfl, rfl, rfl, rfl, rfl, trivial⟩ ?_
      refine g_goto 6 C dL_refusesAll_165 rfl ?_
      refine g_iload 8 C dL_refusesAll_6 rfl rfl ?_
      refine g_iconst 9 C dL_refusesAll_8 rfl ?_
      refine g_icmp_ge 168 12 C dL_refusesAll_9 rfl rfl (by omega) (by omega) (fun c8 => absurd c8 (by omega)) (fun _ => ?_)
      refine g_iload_n 13 C dL_refusesAll_12 rfl rfl ?_
      refine g_iload 15 C dL_refusesAll_13 rfl rfl ?_
      refine g_if_ne 23 18 C dL_refusesAll_15 rfl rfl (by omega) (fun _ => ?_) (fun c8 => absurd c8 (by omega))
      refine g_iload 25 C dL_refusesAll_23 rfl rfl ?_
      refine g_iconst 26 C dL_refusesAll_25 rfl ?_
      refine g_icmp_ne 34 29 C dL_refusesAll_26 rfl rfl (by omega) (by omega) (fun _ => ?_) (fun c8 => absurd c8 (by omega))
      refine g_iconst 35 C dL_refusesAll_34 rfl ?_
      refine g_idiv 36 C dL_refusesAll_35 (by omega) (by omega) rfl ?_
      refine g_bipush 38 C dL_refusesAll_36 (by decide) rfl ?_
      refine g_irem 39 C dL_refusesAll_38 (by omega) (by omega) rfl ?_
      refine g_istore 41 [(6, _), (5, _), (4, _), (0, _), (1, _), (2, _), (3, _)] C dL_refusesAll_39 (by decide) rfl rfl ?_
      refine g_iload 43 C dL_refusesAll_41 rfl rfl ?_
      refine g_if_ne 49 46 C dL_refusesAll_43 rfl rfl (by omega) (fun cb2 => ?_) (fun cb2 => ?_)
      · skip
        refine g_iload 51 C dL_refusesAll_49 rfl rfl ?_
        refine g_if_eq 101 54 C dL_refusesAll_51 rfl rfl (by omega) (fun c8 => absurd c8 (by omega)) (fun _ => ?_)
        refine g_aload_n 55 C dL_refusesAll_54 rfl rfl ?_
        refine g_iload_n 56 C dL_refusesAll_55 rfl rfl ?_
        refine g_iload 58 C dL_refusesAll_56 rfl rfl ?_
        refine g_if_ne 65 61 C dL_refusesAll_58 rfl rfl (by omega) (fun _ => ?_) (fun c8 => absurd c8 (by omega))
        refine g_iconst 66 C dL_refusesAll_65 rfl ?_
        refine g_iload 68 C dL_refusesAll_66 rfl rfl ?_
        refine g_iconst 69 C dL_refusesAll_68 rfl ?_
        refine g_icmp_ne 76 72 C dL_refusesAll_69 rfl rfl (by omega) (by omega) (fun _ => ?_) (fun c8 => absurd c8 (by omega))
        refine g_iconst 77 C dL_refusesAll_76 rfl ?_
        refine g_iload 79 C dL_refusesAll_77 rfl rfl ?_
        refine g_iconst 80 C dL_refusesAll_79 rfl ?_
        refine g_icmp_ne 87 83 C dL_refusesAll_80 rfl rfl (by omega) (by omega) (fun c8 => absurd c8 (by omega)) (fun _ => ?_)
        refine g_iconst 84 C dL_refusesAll_83 rfl ?_
        refine g_goto 88 C dL_refusesAll_84 rfl ?_
        refine g_iload_n 89 C dL_refusesAll_88 rfl rfl ?_
        refine g_told x T which (1) (0) (-1) d (-11, 0, T) 92 C dL_refusesAll_89 rfl ⟨⟨by decide, by decide⟩, by decide, by decide⟩ (Nat.le_of_ble_eq_true rfl) rfl hl hxb e2 hok hwr (by omega) (by omega) (by omega) hdr (hA2 cb2).1 (fun h3 e3 q3 => ?_)
        refine g_nrm 15 90 rfl rfl (tO_r (-11) (by decide)) ?_
        refine g_bipush 94 C dL_refusesAll_92 (by decide) rfl ?_
        refine g_icmp_ne 101 97 C dL_refusesAll_94 rfl rfl (by omega) (by omega) (fun c8 => absurd c8 (by omega)) (fun _ => ?_)
        refine g_iconst 98 C dL_refusesAll_97 rfl ?_
        refine g_goto 102 C dL_refusesAll_98 rfl ?_
        refine g_istore 104 [(4, _), (6, _), (5, _), (0, _), (1, _), (2, _), (3, _)] C dL_refusesAll_102 (by decide) rfl rfl ?_
        refine g_iload 106 C dL_refusesAll_104 rfl rfl ?_
        refine g_if_eq 159 109 C dL_refusesAll_106 rfl rfl (by omega) (fun c8 => absurd c8 (by omega)) (fun _ => ?_)
        refine g_aload_n 110 C dL_refusesAll_109 rfl rfl ?_
        refine g_iload_n 111 C dL_refusesAll_110 rfl rfl ?_
        refine g_iload 113 C dL_refusesAll_111 rfl rfl ?_
        refine g_if_ne 121 116 C dL_refusesAll_113 rfl rfl (by omega) (fun _ => ?_) (fun c8 => absurd c8 (by omega))
        refine g_iconst 122 C dL_refusesAll_121 rfl ?_
        refine g_iload 124 C dL_refusesAll_122 rfl rfl ?_
        refine g_iconst 125 C dL_refusesAll_124 rfl ?_
        refine g_icmp_ne 133 128 C dL_refusesAll_125 rfl rfl (by omega) (by omega) (fun _ => ?_) (fun c8 => absurd c8 (by omega))
        refine g_iconst 134 C dL_refusesAll_133 rfl ?_
        refine g_iload 136 C dL_refusesAll_134 rfl rfl ?_
        refine g_iconst 137 C dL_refusesAll_136 rfl ?_
        refine g_icmp_ne 145 140 C dL_refusesAll_137 rfl rfl (by omega) (by omega) (fun c8 => absurd c8 (by omega)) (fun _ => ?_)
        refine g_iload 142 C dL_refusesAll_140 rfl rfl ?_
        refine g_goto 146 C dL_refusesAll_142 rfl ?_
        refine g_iload_n 147 C dL_refusesAll_146 rfl rfl ?_
        refine g_told x T which (1) (0) (((most / 1) % 10)) d (-11, 0, T) 150 C dL_refusesAll_147 rfl ⟨⟨by decide, by decide⟩, by decide, by decide⟩ (Nat.le_of_ble_eq_true rfl) rfl hl hxb e3 hok hwr (by omega) (by omega) (by omega) hdr (hA2 cb2).2 (fun h4 e4 q4 => ?_)
        refine g_nrm 20 120 rfl rfl (tO_r (-11) (by decide)) ?_
        refine g_bipush 152 C dL_refusesAll_150 (by decide) rfl ?_
        refine g_icmp_ne 159 155 C dL_refusesAll_152 rfl rfl (by omega) (by omega) (fun c8 => absurd c8 (by omega)) (fun _ => ?_)
        refine g_iconst 156 C dL_refusesAll_155 rfl ?_
        refine g_goto 160 C dL_refusesAll_156 rfl ?_
        refine g_istore 162 [(4, _), (6, _), (5, _), (0, _), (1, _), (2, _), (3, _)] C dL_refusesAll_160 (by decide) rfl rfl ?_
        refine g_iinc 165 [(5, _), (4, _), (6, _), (0, _), (1, _), (2, _), (3, _)] C dL_refusesAll_162 rfl (by decide) rfl rfl ?_
        refine g_loc [(5, .int (gi 3)), (4, _), (6, _), (0, _), (1, _), (2, _), (3, _)] ⟨rfl, rfl, rfl, rfl, rfl, rfl, rfl, trivial⟩ ?_
        refine g_goto 6 C dL_refusesAll_165 rfl ?_
        refine g_iload 8 C dL_refusesAll_6 rfl rfl ?_
        refine g_iconst 9 C dL_refusesAll_8 rfl ?_
        refine g_icmp_ge 168 12 C dL_refusesAll_9 rfl rfl (by omega) (by omega) (fun _ => ?_) (fun c8 => absurd c8 (by omega))
        refine g_iload 170 C dL_refusesAll_168 rfl rfl ?_
        exact g_zret C dL_refusesAll_170 rfl rfl ⟨by decide, by decide⟩ ⟨rfl, rfl, rfl, e4, gKp_tr (gKp_tr (gKp_tr (gKp_tr (gKp_rf) q1) q2) q3) q4⟩
      · skip
        refine g_goto 162 C dL_refusesAll_46 rfl ?_
        refine g_iinc 165 [(5, _), (6, _), (4, _), (0, _), (1, _), (2, _), (3, _)] C dL_refusesAll_162 rfl (by decide) rfl rfl ?_
        refine g_loc [(5, .int (gi 3)), (6, _), (4, _), (0, _), (1, _), (2, _), (3, _)] ⟨rfl, rfl, rfl, rfl, rfl, rfl, rfl, trivial⟩ ?_
        refine g_goto 6 C dL_refusesAll_165 rfl ?_
        refine g_iload 8 C dL_refusesAll_6 rfl rfl ?_
        refine g_iconst 9 C dL_refusesAll_8 rfl ?_
        refine g_icmp_ge 168 12 C dL_refusesAll_9 rfl rfl (by omega) (by omega) (fun _ => ?_) (fun c8 => absurd c8 (by omega))
        refine g_iload 170 C dL_refusesAll_168 rfl rfl ?_
        exact g_zret C dL_refusesAll_170 rfl rfl ⟨by decide, by decide⟩ ⟨rfl, rfl, rfl, e2, gKp_tr (gKp_tr (gKp_rf) q1) q2⟩
    · skip
      refine g_goto 162 C dL_refusesAll_46 rfl ?_
      refine g_iinc 165 [(5, _), (6, _), (4, _), (0, _), (1, _), (2, _), (3, _)] C dL_refusesAll_162 rfl (by decide) rfl rfl ?_
      refine g_loc [(5, .int (gi 2)), (6, _), (4, _), (0, _), (1, _), (2, _), (3, _)] ⟨rfl, rfl, rfl, rfl, rfl, rfl, rfl, trivial⟩ ?_
      refine g_goto 6 C dL_refusesAll_165 rfl ?_
      refine g_iload 8 C dL_refusesAll_6 rfl rfl ?_
      refine g_iconst 9 C dL_refusesAll_8 rfl ?_
      refine g_icmp_ge 168 12 C dL_refusesAll_9 rfl rfl (by omega) (by omega) (fun c8 => absurd c8 (by omega)) (fun _ => ?_)
      refine g_iload_n 13 C dL_refusesAll_12 rfl rfl ?_
      refine g_iload 15 C dL_refusesAll_13 rfl rfl ?_
      refine g_if_ne 23 18 C dL_refusesAll_15 rfl rfl (by omega) (fun _ => ?_) (fun c8 => absurd c8 (by omega))
      refine g_iload 25 C dL_refusesAll_23 rfl rfl ?_
      refine g_iconst 26 C dL_refusesAll_25 rfl ?_
      refine g_icmp_ne 34 29 C dL_refusesAll_26 rfl rfl (by omega) (by omega) (fun _ => ?_) (fun c8 => absurd c8 (by omega))
      refine g_iconst 35 C dL_refusesAll_34 rfl ?_
      refine g_idiv 36 C dL_refusesAll_35 (by omega) (by omega) rfl ?_
      refine g_bipush 38 C dL_refusesAll_36 (by decide) rfl ?_
      refine g_irem 39 C dL_refusesAll_38 (by omega) (by omega) rfl ?_
      refine g_istore 41 [(6, _), (5, _), (4, _), (0, _), (1, _), (2, _), (3, _)] C dL_refusesAll_39 (by decide) rfl rfl ?_
      refine g_iload 43 C dL_refusesAll_41 rfl rfl ?_
      refine g_if_ne 49 46 C dL_refusesAll_43 rfl rfl (by omega) (fun cb2 => ?_) (fun cb2 => ?_)
      · skip
        refine g_iload 51 C dL_refusesAll_49 rfl rfl ?_
        refine g_if_eq 101 54 C dL_refusesAll_51 rfl rfl (by omega) (fun c8 => absurd c8 (by omega)) (fun _ => ?_)
        refine g_aload_n 55 C dL_refusesAll_54 rfl rfl ?_
        refine g_iload_n 56 C dL_refusesAll_55 rfl rfl ?_
        refine g_iload 58 C dL_refusesAll_56 rfl rfl ?_
        refine g_if_ne 65 61 C dL_refusesAll_58 rfl rfl (by omega) (fun _ => ?_) (fun c8 => absurd c8 (by omega))
        refine g_iconst 66 C dL_refusesAll_65 rfl ?_
        refine g_iload 68 C dL_refusesAll_66 rfl rfl ?_
        refine g_iconst 69 C dL_refusesAll_68 rfl ?_
        refine g_icmp_ne 76 72 C dL_refusesAll_69 rfl rfl (by omega) (by omega) (fun _ => ?_) (fun c8 => absurd c8 (by omega))
        refine g_iconst 77 C dL_refusesAll_76 rfl ?_
        refine g_iload 79 C dL_refusesAll_77 rfl rfl ?_
        refine g_iconst 80 C dL_refusesAll_79 rfl ?_
        refine g_icmp_ne 87 83 C dL_refusesAll_80 rfl rfl (by omega) (by omega) (fun c8 => absurd c8 (by omega)) (fun _ => ?_)
        refine g_iconst 84 C dL_refusesAll_83 rfl ?_
        refine g_goto 88 C dL_refusesAll_84 rfl ?_
        refine g_iload_n 89 C dL_refusesAll_88 rfl rfl ?_
        refine g_told x T which (1) (0) (-1) d (-11, 0, T) 92 C dL_refusesAll_89 rfl ⟨⟨by decide, by decide⟩, by decide, by decide⟩ (Nat.le_of_ble_eq_true rfl) rfl hl hxb hJ hok hwr (by omega) (by omega) (by omega) hdr (hA2 cb2).1 (fun h1 e1 q1 => ?_)
        refine g_nrm 5 30 rfl rfl (tO_r (-11) (by decide)) ?_
        refine g_bipush 94 C dL_refusesAll_92 (by decide) rfl ?_
        refine g_icmp_ne 101 97 C dL_refusesAll_94 rfl rfl (by omega) (by omega) (fun c8 => absurd c8 (by omega)) (fun _ => ?_)
        refine g_iconst 98 C dL_refusesAll_97 rfl ?_
        refine g_goto 102 C dL_refusesAll_98 rfl ?_
        refine g_istore 104 [(4, _), (6, _), (5, _), (0, _), (1, _), (2, _), (3, _)] C dL_refusesAll_102 (by decide) rfl rfl ?_
        refine g_iload 106 C dL_refusesAll_104 rfl rfl ?_
        refine g_if_eq 159 109 C dL_refusesAll_106 rfl rfl (by omega) (fun c8 => absurd c8 (by omega)) (fun _ => ?_)
        refine g_aload_n 110 C dL_refusesAll_109 rfl rfl ?_
        refine g_iload_n 111 C dL_refusesAll_110 rfl rfl ?_
        refine g_iload 113 C dL_refusesAll_111 rfl rfl ?_
        refine g_if_ne 121 116 C dL_refusesAll_113 rfl rfl (by omega) (fun _ => ?_) (fun c8 => absurd c8 (by omega))
        refine g_iconst 122 C dL_refusesAll_121 rfl ?_
        refine g_iload 124 C dL_refusesAll_122 rfl rfl ?_
        refine g_iconst 125 C dL_refusesAll_124 rfl ?_
        refine g_icmp_ne 133 128 C dL_refusesAll_125 rfl rfl (by omega) (by omega) (fun _ => ?_) (fun c8 => absurd c8 (by omega))
        refine g_iconst 134 C dL_refusesAll_133 rfl ?_
        refine g_iload 136 C dL_refusesAll_134 rfl rfl ?_
        refine g_iconst 137 C dL_refusesAll_136 rfl ?_
        refine g_icmp_ne 145 140 C dL_refusesAll_137 rfl rfl (by omega) (by omega) (fun c8 => absurd c8 (by omega)) (fun _ => ?_)
        refine g_iload 142 C dL_refusesAll_140 rfl rfl ?_
        refine g_goto 146 C dL_refusesAll_142 rfl ?_
        refine g_iload_n 147 C dL_refusesAll_146 rfl rfl ?_
        refine g_told x T which (1) (0) (((most / 1) % 10)) d (-11, 0, T) 150 C dL_refusesAll_147 rfl ⟨⟨by decide, by decide⟩, by decide, by decide⟩ (Nat.le_of_ble_eq_true rfl) rfl hl hxb e1 hok hwr (by omega) (by omega) (by omega) hdr (hA2 cb2).2 (fun h2 e2 q2 => ?_)
        refine g_nrm 10 60 rfl rfl (tO_r (-11) (by decide)) ?_
        refine g_bipush 152 C dL_refusesAll_150 (by decide) rfl ?_
        refine g_icmp_ne 159 155 C dL_refusesAll_152 rfl rfl (by omega) (by omega) (fun c8 => absurd c8 (by omega)) (fun _ => ?_)
        refine g_iconst 156 C dL_refusesAll_155 rfl ?_
        refine g_goto 160 C dL_refusesAll_156 rfl ?_
        refine g_istore 162 [(4, _), (6, _), (5, _), (0, _), (1, _), (2, _), (3, _)] C dL_refusesAll_160 (by decide) rfl rfl ?_
        refine g_iinc 165 [(5, _), (4, _), (6, _), (0, _), (1, _), (2, _), (3, _)] C dL_refusesAll_162 rfl (by decide) rfl rfl ?_
        refine g_loc [(5, .int (gi 3)), (4, _), (6, _), (0, _), (1, _), (2, _), (3, _)] ⟨rfl, rfl, rfl, rfl, rfl, rfl, rfl, trivial⟩ ?_
        refine g_goto 6 C dL_refusesAll_165 rfl ?_
        refine g_iload 8 C dL_refusesAll_6 rfl rfl ?_
        refine g_iconst 9 C dL_refusesAll_8 rfl ?_
        refine g_icmp_ge 168 12 C dL_refusesAll_9 rfl rfl (by omega) (by omega) (fun _ => ?_) (fun c8 => absurd c8 (by omega))
        refine g_iload 170 C dL_refusesAll_168 rfl rfl ?_
        exact g_zret C dL_refusesAll_170 rfl rfl ⟨by decide, by decide⟩ ⟨rfl, rfl, rfl, e2, gKp_tr (gKp_tr (gKp_rf) q1) q2⟩
      · skip
        refine g_goto 162 C dL_refusesAll_46 rfl ?_
        refine g_iinc 165 [(5, _), (6, _), (4, _), (0, _), (1, _), (2, _), (3, _)] C dL_refusesAll_162 rfl (by decide) rfl rfl ?_
        refine g_loc [(5, .int (gi 3)), (6, _), (4, _), (0, _), (1, _), (2, _), (3, _)] ⟨rfl, rfl, rfl, rfl, rfl, rfl, rfl, trivial⟩ ?_
        refine g_goto 6 C dL_refusesAll_165 rfl ?_
        refine g_iload 8 C dL_refusesAll_6 rfl rfl ?_
        refine g_iconst 9 C dL_refusesAll_8 rfl ?_
        refine g_icmp_ge 168 12 C dL_refusesAll_9 rfl rfl (by omega) (by omega) (fun _ => ?_) (fun c8 => absurd c8 (by omega))
        refine g_iload 170 C dL_refusesAll_168 rfl rfl ?_
        exact g_zret C dL_refusesAll_170 rfl rfl ⟨by decide, by decide⟩ ⟨rfl, rfl, rfl, hJ, gKp_rf⟩
theorem rfA_0 (T : gTt) : rfA T 0 533 0 := ⟨fun _ => ⟨rfl, rfl⟩, fun _ => ⟨rfl, rfl⟩, fun _ => ⟨rfl, rfl⟩⟩
theorem rfA_1 (T : gTt) : rfA T 1 533 999 := ⟨fun _ => ⟨rfl, rfl⟩, fun _ => ⟨rfl, rfl⟩, fun _ => ⟨rfl, rfl⟩⟩
theorem rfA_2 (T : gTt) : rfA T 2 333 0 := ⟨fun _ => ⟨rfl, rfl⟩, fun _ => ⟨rfl, rfl⟩, fun _ => ⟨rfl, rfl⟩⟩
theorem rfA_3 (T : gTt) : rfA T 3 533 99 := ⟨fun _ => ⟨rfl, rfl⟩, fun _ => ⟨rfl, rfl⟩, fun _ => ⟨rfl, rfl⟩⟩
theorem rfA_4 (T : gTt) : rfA T 4 530 0 := ⟨fun _ => ⟨rfl, rfl⟩, fun _ => ⟨rfl, rfl⟩, fun z => absurd rfl z⟩
theorem rfA_5 (T : gTt) : rfA T 5 530 0 := ⟨fun _ => ⟨rfl, rfl⟩, fun _ => ⟨rfl, rfl⟩, fun z => absurd rfl z⟩
theorem rfA_9 (T : gTt) : rfA T 9 330 99 := ⟨fun _ => ⟨rfl, rfl⟩, fun _ => ⟨rfl, rfl⟩, fun z => absurd rfl z⟩
theorem rfA_10 (T : gTt) : rfA T 10 335 0 := ⟨fun _ => ⟨rfl, rfl⟩, fun _ => ⟨rfl, rfl⟩, fun _ => ⟨rfl, rfl⟩⟩
theorem rfA_11 (T : gTt) : rfA T 11 535 0 := ⟨fun _ => ⟨rfl, rfl⟩, fun _ => ⟨rfl, rfl⟩, fun _ => ⟨rfl, rfl⟩⟩
theorem rfA_14 (T : gTt) : rfA T 14 533 99 := ⟨fun _ => ⟨rfl, rfl⟩, fun _ => ⟨rfl, rfl⟩, fun _ => ⟨rfl, rfl⟩⟩
theorem rfA_15 (T : gTt) : rfA T 15 333 99 := ⟨fun _ => ⟨rfl, rfl⟩, fun _ => ⟨rfl, rfl⟩, fun _ => ⟨rfl, rfl⟩⟩
theorem rfA_16 (T : gTt) : rfA T 16 530 0 := ⟨fun _ => ⟨rfl, rfl⟩, fun _ => ⟨rfl, rfl⟩, fun z => absurd rfl z⟩
set_option maxRecDepth 100000 in
set_option maxHeartbeats 4000000 in
theorem c_L_refusesAny_m {E : gEnv} {n : Nat} {h : gH} (x : Nat) (T : gTt) (hl : E.1.stackTraces = false) (hxb : gB E ≤ x ∧ x + 524 ≤ gB E + n) (hJ : isJ E h x T) (hok : okT T) : gM E mL_refusesAny [.ref x, .int (gi (-1))] n none h (gTrue E h x n T) gNo := by
  refine gM_of (by decide) (Nat.le_of_ble_eq_true rfl) (fun F C => ?_)
  refine g_aload_n 1 C dL_refusesAny_0 rfl rfl ?_
  refine g_iconst 2 C dL_refusesAny_1 rfl ?_
  refine g_sipush 5 C dL_refusesAny_2 (by decide) rfl ?_
  refine g_iconst 6 C dL_refusesAny_5 rfl ?_
  refine g_S4r 9 30 180 C dL_refusesAny_6 rfl lk_RL_89 gs_L_refusesAll ⟨⟨by decide, by decide⟩, by decide, by decide⟩ (Nat.le_of_ble_eq_true rfl) rfl rfl rfl (c_L_refusesAll x T 0 533 0 (rfA_0 T) hl hxb hJ hok (by decide) (by decide) (by decide)) g_no (fun h1 e1 => ?_)
  obtain ⟨e1, q1⟩ := e1
  refine g_if_eq 156 12 C dL_refusesAny_9 rfl rfl (by decide) (fun c8 => absurd c8 (by decide)) (fun _ => ?_)
  refine g_aload_n 13 C dL_refusesAny_12 rfl rfl ?_
  refine g_iconst 14 C dL_refusesAny_13 rfl ?_
  refine g_sipush 17 C dL_refusesAny_14 (by decide) rfl ?_
  refine g_sipush 20 C dL_refusesAny_17 (by decide) rfl ?_
  refine g_S4r 23 60 360 C dL_refusesAny_20 rfl lk_RL_89 gs_L_refusesAll ⟨⟨by decide, by decide⟩, by decide, by decide⟩ (Nat.le_of_ble_eq_true rfl) rfl rfl rfl (c_L_refusesAll x T 1 533 999 (rfA_1 T) hl hxb e1 hok (by decide) (by decide) (by decide)) g_no (fun h2 e2 => ?_)
  obtain ⟨e2, q2⟩ := e2
  refine g_if_eq 156 26 C dL_refusesAny_23 rfl rfl (by decide) (fun c8 => absurd c8 (by decide)) (fun _ => ?_)
  refine g_aload_n 27 C dL_refusesAny_26 rfl rfl ?_
  refine g_iconst 28 C dL_refusesAny_27 rfl ?_
  refine g_sipush 31 C dL_refusesAny_28 (by decide) rfl ?_
  refine g_iconst 32 C dL_refusesAny_31 rfl ?_
  refine g_S4r 35 90 540 C dL_refusesAny_32 rfl lk_RL_89 gs_L_refusesAll ⟨⟨by decide, by decide⟩, by decide, by decide⟩ (Nat.le_of_ble_eq_true rfl) rfl rfl rfl (c_L_refusesAll x T 2 333 0 (rfA_2 T) hl hxb e2 hok (by decide) (by decide) (by decide)) g_no (fun h3 e3 => ?_)
  obtain ⟨e3, q3⟩ := e3
  refine g_if_eq 156 38 C dL_refusesAny_35 rfl rfl (by decide) (fun c8 => absurd c8 (by decide)) (fun _ => ?_)
  refine g_aload_n 39 C dL_refusesAny_38 rfl rfl ?_
  refine g_iconst 40 C dL_refusesAny_39 rfl ?_
  refine g_sipush 43 C dL_refusesAny_40 (by decide) rfl ?_
  refine g_bipush 45 C dL_refusesAny_43 (by decide) rfl ?_
  refine g_S4r 48 120 720 C dL_refusesAny_45 rfl lk_RL_89 gs_L_refusesAll ⟨⟨by decide, by decide⟩, by decide, by decide⟩ (Nat.le_of_ble_eq_true rfl) rfl rfl rfl (c_L_refusesAll x T 3 533 99 (rfA_3 T) hl hxb e3 hok (by decide) (by decide) (by decide)) g_no (fun h4 e4 => ?_)
  obtain ⟨e4, q4⟩ := e4
  refine g_if_eq 156 51 C dL_refusesAny_48 rfl rfl (by decide) (fun c8 => absurd c8 (by decide)) (fun _ => ?_)
  refine g_aload_n 52 C dL_refusesAny_51 rfl rfl ?_
  refine g_iconst 53 C dL_refusesAny_52 rfl ?_
  refine g_sipush 56 C dL_refusesAny_53 (by decide) rfl ?_
  refine g_iconst 57 C dL_refusesAny_56 rfl ?_
  refine g_S4r 60 150 900 C dL_refusesAny_57 rfl lk_RL_89 gs_L_refusesAll ⟨⟨by decide, by decide⟩, by decide, by decide⟩ (Nat.le_of_ble_eq_true rfl) rfl rfl rfl (c_L_refusesAll x T 4 530 0 (rfA_4 T) hl hxb e4 hok (by decide) (by decide) (by decide)) g_no (fun h5 e5 => ?_)
  obtain ⟨e5, q5⟩ := e5
  refine g_if_eq 156 63 C dL_refusesAny_60 rfl rfl (by decide) (fun c8 => absurd c8 (by decide)) (fun _ => ?_)
  refine g_aload_n 64 C dL_refusesAny_63 rfl rfl ?_
  refine g_iconst 65 C dL_refusesAny_64 rfl ?_
  refine g_sipush 68 C dL_refusesAny_65 (by decide) rfl ?_
  refine g_iconst 69 C dL_refusesAny_68 rfl ?_
  refine g_S4r 72 180 1080 C dL_refusesAny_69 rfl lk_RL_89 gs_L_refusesAll ⟨⟨by decide, by decide⟩, by decide, by decide⟩ (Nat.le_of_ble_eq_true rfl) rfl rfl rfl (c_L_refusesAll x T 5 530 0 (rfA_5 T) hl hxb e5 hok (by decide) (by decide) (by decide)) g_no (fun h6 e6 => ?_)
  obtain ⟨e6, q6⟩ := e6
  refine g_if_eq 156 75 C dL_refusesAny_72 rfl rfl (by decide) (fun c8 => absurd c8 (by decide)) (fun _ => ?_)
  refine g_aload_n 76 C dL_refusesAny_75 rfl rfl ?_
  refine g_bipush 78 C dL_refusesAny_76 (by decide) rfl ?_
  refine g_sipush 81 C dL_refusesAny_78 (by decide) rfl ?_
  refine g_bipush 83 C dL_refusesAny_81 (by decide) rfl ?_
  refine g_S4r 86 210 1260 C dL_refusesAny_83 rfl lk_RL_89 gs_L_refusesAll ⟨⟨by decide, by decide⟩, by decide, by decide⟩ (Nat.le_of_ble_eq_true rfl) rfl rfl rfl (c_L_refusesAll x T 9 330 99 (rfA_9 T) hl hxb e6 hok (by decide) (by decide) (by decide)) g_no (fun h7 e7 => ?_)
  obtain ⟨e7, q7⟩ := e7
  refine g_if_eq 156 89 C dL_refusesAny_86 rfl rfl (by decide) (fun c8 => absurd c8 (by decide)) (fun _ => ?_)
  refine g_aload_n 90 C dL_refusesAny_89 rfl rfl ?_
  refine g_bipush 92 C dL_refusesAny_90 (by decide) rfl ?_
  refine g_sipush 95 C dL_refusesAny_92 (by decide) rfl ?_
  refine g_iconst 96 C dL_refusesAny_95 rfl ?_
  refine g_S4r 99 240 1440 C dL_refusesAny_96 rfl lk_RL_89 gs_L_refusesAll ⟨⟨by decide, by decide⟩, by decide, by decide⟩ (Nat.le_of_ble_eq_true rfl) rfl rfl rfl (c_L_refusesAll x T 10 335 0 (rfA_10 T) hl hxb e7 hok (by decide) (by decide) (by decide)) g_no (fun h8 e8 => ?_)
  obtain ⟨e8, q8⟩ := e8
  refine g_if_eq 156 102 C dL_refusesAny_99 rfl rfl (by decide) (fun c8 => absurd c8 (by decide)) (fun _ => ?_)
  refine g_aload_n 103 C dL_refusesAny_102 rfl rfl ?_
  refine g_bipush 105 C dL_refusesAny_103 (by decide) rfl ?_
  refine g_sipush 108 C dL_refusesAny_105 (by decide) rfl ?_
  refine g_iconst 109 C dL_refusesAny_108 rfl ?_
  refine g_S4r 112 270 1620 C dL_refusesAny_109 rfl lk_RL_89 gs_L_refusesAll ⟨⟨by decide, by decide⟩, by decide, by decide⟩ (Nat.le_of_ble_eq_true rfl) rfl rfl rfl (c_L_refusesAll x T 11 535 0 (rfA_11 T) hl hxb e8 hok (by decide) (by decide) (by decide)) g_no (fun h9 e9 => ?_)
  obtain ⟨e9, q9⟩ := e9
  refine g_if_eq 156 115 C dL_refusesAny_112 rfl rfl (by decide) (fun c8 => absurd c8 (by decide)) (fun _ => ?_)
  refine g_aload_n 116 C dL_refusesAny_115 rfl rfl ?_
  refine g_bipush 118 C dL_refusesAny_116 (by decide) rfl ?_
  refine g_sipush 121 C dL_refusesAny_118 (by decide) rfl ?_
  refine g_bipush 123 C dL_refusesAny_121 (by decide) rfl ?_
  refine g_S4r 126 300 1800 C dL_refusesAny_123 rfl lk_RL_89 gs_L_refusesAll ⟨⟨by decide, by decide⟩, by decide, by decide⟩ (Nat.le_of_ble_eq_true rfl) rfl rfl rfl (c_L_refusesAll x T 14 533 99 (rfA_14 T) hl hxb e9 hok (by decide) (by decide) (by decide)) g_no (fun h10 e10 => ?_)
  obtain ⟨e10, q10⟩ := e10
  refine g_if_eq 156 129 C dL_refusesAny_126 rfl rfl (by decide) (fun c8 => absurd c8 (by decide)) (fun _ => ?_)
  refine g_aload_n 130 C dL_refusesAny_129 rfl rfl ?_
  refine g_bipush 132 C dL_refusesAny_130 (by decide) rfl ?_
  refine g_sipush 135 C dL_refusesAny_132 (by decide) rfl ?_
  refine g_bipush 137 C dL_refusesAny_135 (by decide) rfl ?_
  refine g_S4r 140 330 1980 C dL_refusesAny_137 rfl lk_RL_89 gs_L_refusesAll ⟨⟨by decide, by decide⟩, by decide, by decide⟩ (Nat.le_of_ble_eq_true rfl) rfl rfl rfl (c_L_refusesAll x T 15 333 99 (rfA_15 T) hl hxb e10 hok (by decide) (by decide) (by decide)) g_no (fun h11 e11 => ?_)
  obtain ⟨e11, q11⟩ := e11
  refine g_if_eq 156 143 C dL_refusesAny_140 rfl rfl (by decide) (fun c8 => absurd c8 (by decide)) (fun _ => ?_)
  refine g_aload_n 144 C dL_refusesAny_143 rfl rfl ?_
  refine g_bipush 146 C dL_refusesAny_144 (by decide) rfl ?_
  refine g_sipush 149 C dL_refusesAny_146 (by decide) rfl ?_
  refine g_iconst 150 C dL_refusesAny_149 rfl ?_
  refine g_S4r 153 360 2160 C dL_refusesAny_150 rfl lk_RL_89 gs_L_refusesAll ⟨⟨by decide, by decide⟩, by decide, by decide⟩ (Nat.le_of_ble_eq_true rfl) rfl rfl rfl (c_L_refusesAll x T 16 530 0 (rfA_16 T) hl hxb e11 hok (by decide) (by decide) (by decide)) g_no (fun h12 e12 => ?_)
  obtain ⟨e12, q12⟩ := e12
  refine g_if_ne 158 156 C dL_refusesAny_153 rfl rfl (by decide) (fun _ => ?_) (fun c8 => absurd c8 (by decide))
  refine g_aload_n 159 C dL_refusesAny_158 rfl rfl ?_
  refine g_iconst 160 C dL_refusesAny_159 rfl ?_
  refine g_iconst 161 C dL_refusesAny_160 rfl ?_
  refine g_iconst 162 C dL_refusesAny_161 rfl ?_
  refine g_iconst 163 C dL_refusesAny_162 rfl ?_
  refine g_iload_n 164 C dL_refusesAny_163 rfl rfl ?_
  refine g_if_ge 171 167 C dL_refusesAny_164 rfl rfl (by decide) (fun c8 => absurd c8 (by decide)) (fun _ => ?_)
  refine g_iconst 168 C dL_refusesAny_167 rfl ?_
  refine g_goto 173 C dL_refusesAny_168 rfl ?_
  refine g_told x T 1 (1) (0) (2) (-1) (-12, 0, T) 176 C dL_refusesAny_173 rfl ⟨⟨by decide, by decide⟩, by decide, by decide⟩ (Nat.le_of_ble_eq_true rfl) rfl hl hxb e12 hok (by decide) (by decide) (by decide) (by decide) (by decide) rfl (fun h13 e13 q13 => ?_)
  refine g_nrm 365 2190 rfl rfl (tO_r (-12) (by decide)) ?_
  refine g_bipush 178 C dL_refusesAny_176 (by decide) rfl ?_
  refine g_icmp_ne 343 181 C dL_refusesAny_178 rfl rfl (by decide) (by decide) (fun c8 => absurd c8 (by decide)) (fun _ => ?_)
  refine g_aload_n 182 C dL_refusesAny_181 rfl rfl ?_
  refine g_iconst 183 C dL_refusesAny_182 rfl ?_
  refine g_iconst 184 C dL_refusesAny_183 rfl ?_
  refine g_iconst 185 C dL_refusesAny_184 rfl ?_
  refine g_iconst 186 C dL_refusesAny_185 rfl ?_
  refine g_iconst 187 C dL_refusesAny_186 rfl ?_
  refine g_told x T 2 (1) (1) (0) (0) (-12, 0, T) 190 C dL_refusesAny_187 rfl ⟨⟨by decide, by decide⟩, by decide, by decide⟩ (Nat.le_of_ble_eq_true rfl) rfl hl hxb e13 hok (by decide) (by decide) (by decide) (by decide) (by decide) rfl (fun h14 e14 q14 => ?_)
  refine g_nrm 370 2220 rfl rfl (tO_r (-12) (by decide)) ?_
  refine g_bipush 192 C dL_refusesAny_190 (by decide) rfl ?_
  refine g_icmp_ne 343 195 C dL_refusesAny_192 rfl rfl (by decide) (by decide) (fun c8 => absurd c8 (by decide)) (fun _ => ?_)
  refine g_aload_n 196 C dL_refusesAny_195 rfl rfl ?_
  refine g_iconst 197 C dL_refusesAny_196 rfl ?_
  refine g_iconst 198 C dL_refusesAny_197 rfl ?_
  refine g_iconst 199 C dL_refusesAny_198 rfl ?_
  refine g_iconst 200 C dL_refusesAny_199 rfl ?_
  refine g_iload_n 201 C dL_refusesAny_200 rfl rfl ?_
  refine g_if_ge 208 204 C dL_refusesAny_201 rfl rfl (by decide) (fun c8 => absurd c8 (by decide)) (fun _ => ?_)
  refine g_iconst 205 C dL_refusesAny_204 rfl ?_
  refine g_goto 209 C dL_refusesAny_205 rfl ?_
  refine g_told x T 3 (1) (0) (2) (-1) (-12, 0, T) 212 C dL_refusesAny_209 rfl ⟨⟨by decide, by decide⟩, by decide, by decide⟩ (Nat.le_of_ble_eq_true rfl) rfl hl hxb e14 hok (by decide) (by decide) (by decide) (by decide) (by decide) rfl (fun h15 e15 q15 => ?_)
  refine g_nrm 375 2250 rfl rfl (tO_r (-12) (by decide)) ?_
  refine g_bipush 214 C dL_refusesAny_212 (by decide) rfl ?_
  refine g_icmp_ne 343 217 C dL_refusesAny_214 rfl rfl (by decide) (by decide) (fun c8 => absurd c8 (by decide)) (fun _ => ?_)
  refine g_aload_n 218 C dL_refusesAny_217 rfl rfl ?_
  refine g_bipush 220 C dL_refusesAny_218 (by decide) rfl ?_
  refine g_iload_n 221 C dL_refusesAny_220 rfl rfl ?_
  refine g_if_ge 229 224 C dL_refusesAny_221 rfl rfl (by decide) (fun c8 => absurd c8 (by decide)) (fun _ => ?_)
  refine g_bipush 226 C dL_refusesAny_224 (by decide) rfl ?_
  refine g_goto 231 C dL_refusesAny_226 rfl ?_
  refine g_iconst 232 C dL_refusesAny_231 rfl ?_
  refine g_iconst 233 C dL_refusesAny_232 rfl ?_
  refine g_iconst 234 C dL_refusesAny_233 rfl ?_
  refine g_told x T 6 (32) (0) (0) (0) (-12, 0, T) 237 C dL_refusesAny_234 rfl ⟨⟨by decide, by decide⟩, by decide, by decide⟩ (Nat.le_of_ble_eq_true rfl) rfl hl hxb e15 hok (by decide) (by decide) (by decide) (by decide) (by decide) rfl (fun h16 e16 q16 => ?_)
  refine g_nrm 380 2280 rfl rfl (tO_r (-12) (by decide)) ?_
  refine g_bipush 239 C dL_refusesAny_237 (by decide) rfl ?_
  refine g_icmp_ne 343 242 C dL_refusesAny_239 rfl rfl (by decide) (by decide) (fun c8 => absurd c8 (by decide)) (fun _ => ?_)
  refine g_aload_n 243 C dL_refusesAny_242 rfl rfl ?_
  refine g_bipush 245 C dL_refusesAny_243 (by decide) rfl ?_
  refine g_iconst 246 C dL_refusesAny_245 rfl ?_
  refine g_iconst 247 C dL_refusesAny_246 rfl ?_
  refine g_iload_n 248 C dL_refusesAny_247 rfl rfl ?_
  refine g_if_ge 255 251 C dL_refusesAny_248 rfl rfl (by decide) (fun c8 => absurd c8 (by decide)) (fun _ => ?_)
  refine g_iconst 252 C dL_refusesAny_251 rfl ?_
  refine g_goto 256 C dL_refusesAny_252 rfl ?_
  refine g_iconst 257 C dL_refusesAny_256 rfl ?_
  refine g_told x T 9 (0) (0) (-1) (0) (-12, 0, T) 260 C dL_refusesAny_257 rfl ⟨⟨by decide, by decide⟩, by decide, by decide⟩ (Nat.le_of_ble_eq_true rfl) rfl hl hxb e16 hok (by decide) (by decide) (by decide) (by decide) (by decide) rfl (fun h17 e17 q17 => ?_)
  refine g_nrm 385 2310 rfl rfl (tO_r (-12) (by decide)) ?_
  refine g_bipush 262 C dL_refusesAny_260 (by decide) rfl ?_
  refine g_icmp_ne 343 265 C dL_refusesAny_262 rfl rfl (by decide) (by decide) (fun c8 => absurd c8 (by decide)) (fun _ => ?_)
  refine g_aload_n 266 C dL_refusesAny_265 rfl rfl ?_
  refine g_bipush 268 C dL_refusesAny_266 (by decide) rfl ?_
  refine g_iconst 269 C dL_refusesAny_268 rfl ?_
  refine g_iconst 270 C dL_refusesAny_269 rfl ?_
  refine g_iconst 271 C dL_refusesAny_270 rfl ?_
  refine g_iload_n 272 C dL_refusesAny_271 rfl rfl ?_
  refine g_if_ge 279 275 C dL_refusesAny_272 rfl rfl (by decide) (fun c8 => absurd c8 (by decide)) (fun _ => ?_)
  refine g_iconst 276 C dL_refusesAny_275 rfl ?_
  refine g_goto 280 C dL_refusesAny_276 rfl ?_
  refine g_told x T 9 (0) (0) (0) (-1) (-12, 0, T) 283 C dL_refusesAny_280 rfl ⟨⟨by decide, by decide⟩, by decide, by decide⟩ (Nat.le_of_ble_eq_true rfl) rfl hl hxb e17 hok (by decide) (by decide) (by decide) (by decide) (by decide) rfl (fun h18 e18 q18 => ?_)
  refine g_nrm 390 2340 rfl rfl (tO_r (-12) (by decide)) ?_
  refine g_bipush 285 C dL_refusesAny_283 (by decide) rfl ?_
  refine g_icmp_ne 343 288 C dL_refusesAny_285 rfl rfl (by decide) (by decide) (fun c8 => absurd c8 (by decide)) (fun _ => ?_)
  refine g_aload_n 289 C dL_refusesAny_288 rfl rfl ?_
  refine g_bipush 291 C dL_refusesAny_289 (by decide) rfl ?_
  refine g_iconst 292 C dL_refusesAny_291 rfl ?_
  refine g_bipush 294 C dL_refusesAny_292 (by decide) rfl ?_
  refine g_iconst 295 C dL_refusesAny_294 rfl ?_
  refine g_iconst 296 C dL_refusesAny_295 rfl ?_
  refine g_told x T 12 (3) (99) (0) (0) (-11, 0, T) 299 C dL_refusesAny_296 rfl ⟨⟨by decide, by decide⟩, by decide, by decide⟩ (Nat.le_of_ble_eq_true rfl) rfl hl hxb e18 hok (by decide) (by decide) (by decide) (by decide) (by decide) rfl (fun h19 e19 q19 => ?_)
  refine g_nrm 395 2370 rfl rfl (tO_r (-11) (by decide)) ?_
  refine g_bipush 301 C dL_refusesAny_299 (by decide) rfl ?_
  refine g_icmp_ne 343 304 C dL_refusesAny_301 rfl rfl (by decide) (by decide) (fun c8 => absurd c8 (by decide)) (fun _ => ?_)
  refine g_aload_n 305 C dL_refusesAny_304 rfl rfl ?_
  refine g_bipush 307 C dL_refusesAny_305 (by decide) rfl ?_
  refine g_iconst 308 C dL_refusesAny_307 rfl ?_
  refine g_iconst 309 C dL_refusesAny_308 rfl ?_
  refine g_iconst 310 C dL_refusesAny_309 rfl ?_
  refine g_iconst 311 C dL_refusesAny_310 rfl ?_
  refine g_told x T 12 (-1) (0) (0) (0) (-11, 0, T) 314 C dL_refusesAny_311 rfl ⟨⟨by decide, by decide⟩, by decide, by decide⟩ (Nat.le_of_ble_eq_true rfl) rfl hl hxb e19 hok (by decide) (by decide) (by decide) (by decide) (by decide) rfl (fun h20 e20 q20 => ?_)
  refine g_nrm 400 2400 rfl rfl (tO_r (-11) (by decide)) ?_
  refine g_bipush 316 C dL_refusesAny_314 (by decide) rfl ?_
  refine g_icmp_ne 343 319 C dL_refusesAny_316 rfl rfl (by decide) (by decide) (fun c8 => absurd c8 (by decide)) (fun _ => ?_)
  refine g_aload_n 320 C dL_refusesAny_319 rfl rfl ?_
  refine g_bipush 322 C dL_refusesAny_320 (by decide) rfl ?_
  refine g_iconst 323 C dL_refusesAny_322 rfl ?_
  refine g_iload_n 324 C dL_refusesAny_323 rfl rfl ?_
  refine g_if_ge 331 327 C dL_refusesAny_324 rfl rfl (by decide) (fun c8 => absurd c8 (by decide)) (fun _ => ?_)
  refine g_iconst 328 C dL_refusesAny_327 rfl ?_
  refine g_goto 333 C dL_refusesAny_328 rfl ?_
  refine g_iconst 334 C dL_refusesAny_333 rfl ?_
  refine g_iconst 335 C dL_refusesAny_334 rfl ?_
  refine g_told x T 12 (0) (-1) (0) (0) (-12, 0, T) 338 C dL_refusesAny_335 rfl ⟨⟨by decide, by decide⟩, by decide, by decide⟩ (Nat.le_of_ble_eq_true rfl) rfl hl hxb e20 hok (by decide) (by decide) (by decide) (by decide) (by decide) rfl (fun h21 e21 q21 => ?_)
  refine g_nrm 405 2430 rfl rfl (tO_r (-12) (by decide)) ?_
  refine g_bipush 340 C dL_refusesAny_338 (by decide) rfl ?_
  refine g_icmp_eq 345 343 C dL_refusesAny_340 rfl rfl (by decide) (by decide) (fun _ => ?_) (fun c8 => absurd c8 (by decide))
  refine g_aload_n 346 C dL_refusesAny_345 rfl rfl ?_
  refine g_bipush 348 C dL_refusesAny_346 (by decide) rfl ?_
  refine g_iload_n 349 C dL_refusesAny_348 rfl rfl ?_
  refine g_if_ge 356 352 C dL_refusesAny_349 rfl rfl (by decide) (fun c8 => absurd c8 (by decide)) (fun _ => ?_)
  refine g_iconst 353 C dL_refusesAny_352 rfl ?_
  refine g_goto 358 C dL_refusesAny_353 rfl ?_
  refine g_iconst 359 C dL_refusesAny_358 rfl ?_
  refine g_iconst 360 C dL_refusesAny_359 rfl ?_
  refine g_iconst 361 C dL_refusesAny_360 rfl ?_
  refine g_told x T 13 (-1) (0) (0) (0) (-12, 0, T) 364 C dL_refusesAny_361 rfl ⟨⟨by decide, by decide⟩, by decide, by decide⟩ (Nat.le_of_ble_eq_true rfl) rfl hl hxb e21 hok (by decide) (by decide) (by decide) (by decide) (by decide) rfl (fun h22 e22 q22 => ?_)
  refine g_nrm 410 2460 rfl rfl (tO_r (-12) (by decide)) ?_
  refine g_bipush 366 C dL_refusesAny_364 (by decide) rfl ?_
  refine g_icmp_ne 434 369 C dL_refusesAny_366 rfl rfl (by decide) (by decide) (fun c8 => absurd c8 (by decide)) (fun _ => ?_)
  refine g_aload_n 370 C dL_refusesAny_369 rfl rfl ?_
  refine g_bipush 372 C dL_refusesAny_370 (by decide) rfl ?_
  refine g_iconst 373 C dL_refusesAny_372 rfl ?_
  refine g_iconst 374 C dL_refusesAny_373 rfl ?_
  refine g_iconst 375 C dL_refusesAny_374 rfl ?_
  refine g_iload_n 376 C dL_refusesAny_375 rfl rfl ?_
  refine g_if_ge 383 379 C dL_refusesAny_376 rfl rfl (by decide) (fun c8 => absurd c8 (by decide)) (fun _ => ?_)
  refine g_iconst 380 C dL_refusesAny_379 rfl ?_
  refine g_goto 384 C dL_refusesAny_380 rfl ?_
  refine g_told x T 14 (0) (0) (0) (-1) (-12, 0, T) 387 C dL_refusesAny_384 rfl ⟨⟨by decide, by decide⟩, by decide, by decide⟩ (Nat.le_of_ble_eq_true rfl) rfl hl hxb e22 hok (by decide) (by decide) (by decide) (by decide) (by decide) rfl (fun h23 e23 q23 => ?_)
  refine g_nrm 415 2490 rfl rfl (tO_r (-12) (by decide)) ?_
  refine g_bipush 389 C dL_refusesAny_387 (by decide) rfl ?_
  refine g_icmp_ne 434 392 C dL_refusesAny_389 rfl rfl (by decide) (by decide) (fun c8 => absurd c8 (by decide)) (fun _ => ?_)
  refine g_aload_n 393 C dL_refusesAny_392 rfl rfl ?_
  refine g_bipush 395 C dL_refusesAny_393 (by decide) rfl ?_
  refine g_iconst 396 C dL_refusesAny_395 rfl ?_
  refine g_iconst 397 C dL_refusesAny_396 rfl ?_
  refine g_iconst 398 C dL_refusesAny_397 rfl ?_
  refine g_iload_n 399 C dL_refusesAny_398 rfl rfl ?_
  refine g_if_ge 406 402 C dL_refusesAny_399 rfl rfl (by decide) (fun c8 => absurd c8 (by decide)) (fun _ => ?_)
  refine g_iconst 403 C dL_refusesAny_402 rfl ?_
  refine g_goto 407 C dL_refusesAny_403 rfl ?_
  refine g_told x T 15 (0) (1) (0) (-1) (-12, 0, T) 410 C dL_refusesAny_407 rfl ⟨⟨by decide, by decide⟩, by decide, by decide⟩ (Nat.le_of_ble_eq_true rfl) rfl hl hxb e23 hok (by decide) (by decide) (by decide) (by decide) (by decide) rfl (fun h24 e24 q24 => ?_)
  refine g_nrm 420 2520 rfl rfl (tO_r (-12) (by decide)) ?_
  refine g_bipush 412 C dL_refusesAny_410 (by decide) rfl ?_
  refine g_icmp_ne 434 415 C dL_refusesAny_412 rfl rfl (by decide) (by decide) (fun c8 => absurd c8 (by decide)) (fun _ => ?_)
  refine g_aload_n 416 C dL_refusesAny_415 rfl rfl ?_
  refine g_bipush 418 C dL_refusesAny_416 (by decide) rfl ?_
  refine g_iconst 419 C dL_refusesAny_418 rfl ?_
  refine g_iconst 420 C dL_refusesAny_419 rfl ?_
  refine g_iconst 421 C dL_refusesAny_420 rfl ?_
  refine g_iconst 422 C dL_refusesAny_421 rfl ?_
  refine g_told x T 15 (2) (2) (0) (0) (-12, 0, T) 425 C dL_refusesAny_422 rfl ⟨⟨by decide, by decide⟩, by decide, by decide⟩ (Nat.le_of_ble_eq_true rfl) rfl hl hxb e24 hok (by decide) (by decide) (by decide) (by decide) (by decide) rfl (fun h25 e25 q25 => ?_)
  refine g_nrm 425 2550 rfl rfl (tO_r (-12) (by decide)) ?_
  refine g_bipush 427 C dL_refusesAny_425 (by decide) rfl ?_
  refine g_icmp_ne 434 430 C dL_refusesAny_427 rfl rfl (by decide) (by decide) (fun c8 => absurd c8 (by decide)) (fun _ => ?_)
  refine g_iconst 431 C dL_refusesAny_430 rfl ?_
  refine g_goto 435 C dL_refusesAny_431 rfl ?_
  exact g_zret C dL_refusesAny_435 rfl rfl ⟨by decide, by decide⟩ ⟨rfl, rfl, rfl, e25, gKp_tr (gKp_tr (gKp_tr (gKp_tr (gKp_tr (gKp_tr (gKp_tr (gKp_tr (gKp_tr (gKp_tr (gKp_tr (gKp_tr (gKp_tr (gKp_tr (gKp_tr (gKp_tr (gKp_tr (gKp_tr (gKp_tr (gKp_tr (gKp_tr (gKp_tr (gKp_tr (gKp_tr (gKp_tr (gKp_rf) q1) q2) q3) q4) q5) q6) q7) q8) q9) q10) q11) q12) q13) q14) q15) q16) q17) q18) q19) q20) q21) q22) q23) q24) q25⟩
set_option maxRecDepth 100000 in
set_option maxHeartbeats 4000000 in
theorem c_L_refusesAny_p {E : gEnv} {n : Nat} {h : gH} (x : Nat) (T : gTt) (hl : E.1.stackTraces = false) (hxb : gB E ≤ x ∧ x + 524 ≤ gB E + n) (hJ : isJ E h x T) (hok : okT T) : gM E mL_refusesAny [.ref x, .int (gi (1))] n none h (gTrue E h x n T) gNo := by
  refine gM_of (by decide) (Nat.le_of_ble_eq_true rfl) (fun F C => ?_)
  refine g_aload_n 1 C dL_refusesAny_0 rfl rfl ?_
  refine g_iconst 2 C dL_refusesAny_1 rfl ?_
  refine g_sipush 5 C dL_refusesAny_2 (by decide) rfl ?_
  refine g_iconst 6 C dL_refusesAny_5 rfl ?_
  refine g_S4r 9 30 180 C dL_refusesAny_6 rfl lk_RL_89 gs_L_refusesAll ⟨⟨by decide, by decide⟩, by decide, by decide⟩ (Nat.le_of_ble_eq_true rfl) rfl rfl rfl (c_L_refusesAll x T 0 533 0 (rfA_0 T) hl hxb hJ hok (by decide) (by decide) (by decide)) g_no (fun h1 e1 => ?_)
  obtain ⟨e1, q1⟩ := e1
  refine g_if_eq 156 12 C dL_refusesAny_9 rfl rfl (by decide) (fun c8 => absurd c8 (by decide)) (fun _ => ?_)
  refine g_aload_n 13 C dL_refusesAny_12 rfl rfl ?_
  refine g_iconst 14 C dL_refusesAny_13 rfl ?_
  refine g_sipush 17 C dL_refusesAny_14 (by decide) rfl ?_
  refine g_sipush 20 C dL_refusesAny_17 (by decide) rfl ?_
  refine g_S4r 23 60 360 C dL_refusesAny_20 rfl lk_RL_89 gs_L_refusesAll ⟨⟨by decide, by decide⟩, by decide, by decide⟩ (Nat.le_of_ble_eq_true rfl) rfl rfl rfl (c_L_refusesAll x T 1 533 999 (rfA_1 T) hl hxb e1 hok (by decide) (by decide) (by decide)) g_no (fun h2 e2 => ?_)
  obtain ⟨e2, q2⟩ := e2
  refine g_if_eq 156 26 C dL_refusesAny_23 rfl rfl (by decide) (fun c8 => absurd c8 (by decide)) (fun _ => ?_)
  refine g_aload_n 27 C dL_refusesAny_26 rfl rfl ?_
  refine g_iconst 28 C dL_refusesAny_27 rfl ?_
  refine g_sipush 31 C dL_refusesAny_28 (by decide) rfl ?_
  refine g_iconst 32 C dL_refusesAny_31 rfl ?_
  refine g_S4r 35 90 540 C dL_refusesAny_32 rfl lk_RL_89 gs_L_refusesAll ⟨⟨by decide, by decide⟩, by decide, by decide⟩ (Nat.le_of_ble_eq_true rfl) rfl rfl rfl (c_L_refusesAll x T 2 333 0 (rfA_2 T) hl hxb e2 hok (by decide) (by decide) (by decide)) g_no (fun h3 e3 => ?_)
  obtain ⟨e3, q3⟩ := e3
  refine g_if_eq 156 38 C dL_refusesAny_35 rfl rfl (by decide) (fun c8 => absurd c8 (by decide)) (fun _ => ?_)
  refine g_aload_n 39 C dL_refusesAny_38 rfl rfl ?_
  refine g_iconst 40 C dL_refusesAny_39 rfl ?_
  refine g_sipush 43 C dL_refusesAny_40 (by decide) rfl ?_
  refine g_bipush 45 C dL_refusesAny_43 (by decide) rfl ?_
  refine g_S4r 48 120 720 C dL_refusesAny_45 rfl lk_RL_89 gs_L_refusesAll ⟨⟨by decide, by decide⟩, by decide, by decide⟩ (Nat.le_of_ble_eq_true rfl) rfl rfl rfl (c_L_refusesAll x T 3 533 99 (rfA_3 T) hl hxb e3 hok (by decide) (by decide) (by decide)) g_no (fun h4 e4 => ?_)
  obtain ⟨e4, q4⟩ := e4
  refine g_if_eq 156 51 C dL_refusesAny_48 rfl rfl (by decide) (fun c8 => absurd c8 (by decide)) (fun _ => ?_)
  refine g_aload_n 52 C dL_refusesAny_51 rfl rfl ?_
  refine g_iconst 53 C dL_refusesAny_52 rfl ?_
  refine g_sipush 56 C dL_refusesAny_53 (by decide) rfl ?_
  refine g_iconst 57 C dL_refusesAny_56 rfl ?_
  refine g_S4r 60 150 900 C dL_refusesAny_57 rfl lk_RL_89 gs_L_refusesAll ⟨⟨by decide, by decide⟩, by decide, by decide⟩ (Nat.le_of_ble_eq_true rfl) rfl rfl rfl (c_L_refusesAll x T 4 530 0 (rfA_4 T) hl hxb e4 hok (by decide) (by decide) (by decide)) g_no (fun h5 e5 => ?_)
  obtain ⟨e5, q5⟩ := e5
  refine g_if_eq 156 63 C dL_refusesAny_60 rfl rfl (by decide) (fun c8 => absurd c8 (by decide)) (fun _ => ?_)
  refine g_aload_n 64 C dL_refusesAny_63 rfl rfl ?_
  refine g_iconst 65 C dL_refusesAny_64 rfl ?_
  refine g_sipush 68 C dL_refusesAny_65 (by decide) rfl ?_
  refine g_iconst 69 C dL_refusesAny_68 rfl ?_
  refine g_S4r 72 180 1080 C dL_refusesAny_69 rfl lk_RL_89 gs_L_refusesAll ⟨⟨by decide, by decide⟩, by decide, by decide⟩ (Nat.le_of_ble_eq_true rfl) rfl rfl rfl (c_L_refusesAll x T 5 530 0 (rfA_5 T) hl hxb e5 hok (by decide) (by decide) (by decide)) g_no (fun h6 e6 => ?_)
  obtain ⟨e6, q6⟩ := e6
  refine g_if_eq 156 75 C dL_refusesAny_72 rfl rfl (by decide) (fun c8 => absurd c8 (by decide)) (fun _ => ?_)
  refine g_aload_n 76 C dL_refusesAny_75 rfl rfl ?_
  refine g_bipush 78 C dL_refusesAny_76 (by decide) rfl ?_
  refine g_sipush 81 C dL_refusesAny_78 (by decide) rfl ?_
  refine g_bipush 83 C dL_refusesAny_81 (by decide) rfl ?_
  refine g_S4r 86 210 1260 C dL_refusesAny_83 rfl lk_RL_89 gs_L_refusesAll ⟨⟨by decide, by decide⟩, by decide, by decide⟩ (Nat.le_of_ble_eq_true rfl) rfl rfl rfl (c_L_refusesAll x T 9 330 99 (rfA_9 T) hl hxb e6 hok (by decide) (by decide) (by decide)) g_no (fun h7 e7 => ?_)
  obtain ⟨e7, q7⟩ := e7
  refine g_if_eq 156 89 C dL_refusesAny_86 rfl rfl (by decide) (fun c8 => absurd c8 (by decide)) (fun _ => ?_)
  refine g_aload_n 90 C dL_refusesAny_89 rfl rfl ?_
  refine g_bipush 92 C dL_refusesAny_90 (by decide) rfl ?_
  refine g_sipush 95 C dL_refusesAny_92 (by decide) rfl ?_
  refine g_iconst 96 C dL_refusesAny_95 rfl ?_
  refine g_S4r 99 240 1440 C dL_refusesAny_96 rfl lk_RL_89 gs_L_refusesAll ⟨⟨by decide, by decide⟩, by decide, by decide⟩ (Nat.le_of_ble_eq_true rfl) rfl rfl rfl (c_L_refusesAll x T 10 335 0 (rfA_10 T) hl hxb e7 hok (by decide) (by decide) (by decide)) g_no (fun h8 e8 => ?_)
  obtain ⟨e8, q8⟩ := e8
  refine g_if_eq 156 102 C dL_refusesAny_99 rfl rfl (by decide) (fun c8 => absurd c8 (by decide)) (fun _ => ?_)
  refine g_aload_n 103 C dL_refusesAny_102 rfl rfl ?_
  refine g_bipush 105 C dL_refusesAny_103 (by decide) rfl ?_
  refine g_sipush 108 C dL_refusesAny_105 (by decide) rfl ?_
  refine g_iconst 109 C dL_refusesAny_108 rfl ?_
  refine g_S4r 112 270 1620 C dL_refusesAny_109 rfl lk_RL_89 gs_L_refusesAll ⟨⟨by decide, by decide⟩, by decide, by decide⟩ (Nat.le_of_ble_eq_true rfl) rfl rfl rfl (c_L_refusesAll x T 11 535 0 (rfA_11 T) hl hxb e8 hok (by decide) (by decide) (by decide)) g_no (fun h9 e9 => ?_)
  obtain ⟨e9, q9⟩ := e9
  refine g_if_eq 156 115 C dL_refusesAny_112 rfl rfl (by decide) (fun c8 => absurd c8 (by decide)) (fun _ => ?_)
  refine g_aload_n 116 C dL_refusesAny_115 rfl rfl ?_
  refine g_bipush 118 C dL_refusesAny_116 (by decide) rfl ?_
  refine g_sipush 121 C dL_refusesAny_118 (by decide) rfl ?_
  refine g_bipush 123 C dL_refusesAny_121 (by decide) rfl ?_
  refine g_S4r 126 300 1800 C dL_refusesAny_123 rfl lk_RL_89 gs_L_refusesAll ⟨⟨by decide, by decide⟩, by decide, by decide⟩ (Nat.le_of_ble_eq_true rfl) rfl rfl rfl (c_L_refusesAll x T 14 533 99 (rfA_14 T) hl hxb e9 hok (by decide) (by decide) (by decide)) g_no (fun h10 e10 => ?_)
  obtain ⟨e10, q10⟩ := e10
  refine g_if_eq 156 129 C dL_refusesAny_126 rfl rfl (by decide) (fun c8 => absurd c8 (by decide)) (fun _ => ?_)
  refine g_aload_n 130 C dL_refusesAny_129 rfl rfl ?_
  refine g_bipush 132 C dL_refusesAny_130 (by decide) rfl ?_
  refine g_sipush 135 C dL_refusesAny_132 (by decide) rfl ?_
  refine g_bipush 137 C dL_refusesAny_135 (by decide) rfl ?_
  refine g_S4r 140 330 1980 C dL_refusesAny_137 rfl lk_RL_89 gs_L_refusesAll ⟨⟨by decide, by decide⟩, by decide, by decide⟩ (Nat.le_of_ble_eq_true rfl) rfl rfl rfl (c_L_refusesAll x T 15 333 99 (rfA_15 T) hl hxb e10 hok (by decide) (by decide) (by decide)) g_no (fun h11 e11 => ?_)
  obtain ⟨e11, q11⟩ := e11
  refine g_if_eq 156 143 C dL_refusesAny_140 rfl rfl (by decide) (fun c8 => absurd c8 (by decide)) (fun _ => ?_)
  refine g_aload_n 144 C dL_refusesAny_143 rfl rfl ?_
  refine g_bipush 146 C dL_refusesAny_144 (by decide) rfl ?_
  refine g_sipush 149 C dL_refusesAny_146 (by decide) rfl ?_
  refine g_iconst 150 C dL_refusesAny_149 rfl ?_
  refine g_S4r 153 360 2160 C dL_refusesAny_150 rfl lk_RL_89 gs_L_refusesAll ⟨⟨by decide, by decide⟩, by decide, by decide⟩ (Nat.le_of_ble_eq_true rfl) rfl rfl rfl (c_L_refusesAll x T 16 530 0 (rfA_16 T) hl hxb e11 hok (by decide) (by decide) (by decide)) g_no (fun h12 e12 => ?_)
  obtain ⟨e12, q12⟩ := e12
  refine g_if_ne 158 156 C dL_refusesAny_153 rfl rfl (by decide) (fun _ => ?_) (fun c8 => absurd c8 (by decide))
  refine g_aload_n 159 C dL_refusesAny_158 rfl rfl ?_
  refine g_iconst 160 C dL_refusesAny_159 rfl ?_
  refine g_iconst 161 C dL_refusesAny_160 rfl ?_
  refine g_iconst 162 C dL_refusesAny_161 rfl ?_
  refine g_iconst 163 C dL_refusesAny_162 rfl ?_
  refine g_iload_n 164 C dL_refusesAny_163 rfl rfl ?_
  refine g_if_ge 171 167 C dL_refusesAny_164 rfl rfl (by decide) (fun _ => ?_) (fun c8 => absurd c8 (by decide))
  refine g_bipush 173 C dL_refusesAny_171 (by decide) rfl ?_
  refine g_told x T 1 (1) (0) (2) (100) (-12, 0, T) 176 C dL_refusesAny_173 rfl ⟨⟨by decide, by decide⟩, by decide, by decide⟩ (Nat.le_of_ble_eq_true rfl) rfl hl hxb e12 hok (by decide) (by decide) (by decide) (by decide) (by decide) rfl (fun h13 e13 q13 => ?_)
  refine g_nrm 365 2190 rfl rfl (tO_r (-12) (by decide)) ?_
  refine g_bipush 178 C dL_refusesAny_176 (by decide) rfl ?_
  refine g_icmp_ne 343 181 C dL_refusesAny_178 rfl rfl (by decide) (by decide) (fun c8 => absurd c8 (by decide)) (fun _ => ?_)
  refine g_aload_n 182 C dL_refusesAny_181 rfl rfl ?_
  refine g_iconst 183 C dL_refusesAny_182 rfl ?_
  refine g_iconst 184 C dL_refusesAny_183 rfl ?_
  refine g_iconst 185 C dL_refusesAny_184 rfl ?_
  refine g_iconst 186 C dL_refusesAny_185 rfl ?_
  refine g_iconst 187 C dL_refusesAny_186 rfl ?_
  refine g_told x T 2 (1) (1) (0) (0) (-12, 0, T) 190 C dL_refusesAny_187 rfl ⟨⟨by decide, by decide⟩, by decide, by decide⟩ (Nat.le_of_ble_eq_true rfl) rfl hl hxb e13 hok (by decide) (by decide) (by decide) (by decide) (by decide) rfl (fun h14 e14 q14 => ?_)
  refine g_nrm 370 2220 rfl rfl (tO_r (-12) (by decide)) ?_
  refine g_bipush 192 C dL_refusesAny_190 (by decide) rfl ?_
  refine g_icmp_ne 343 195 C dL_refusesAny_192 rfl rfl (by decide) (by decide) (fun c8 => absurd c8 (by decide)) (fun _ => ?_)
  refine g_aload_n 196 C dL_refusesAny_195 rfl rfl ?_
  refine g_iconst 197 C dL_refusesAny_196 rfl ?_
  refine g_iconst 198 C dL_refusesAny_197 rfl ?_
  refine g_iconst 199 C dL_refusesAny_198 rfl ?_
  refine g_iconst 200 C dL_refusesAny_199 rfl ?_
  refine g_iload_n 201 C dL_refusesAny_200 rfl rfl ?_
  refine g_if_ge 208 204 C dL_refusesAny_201 rfl rfl (by decide) (fun _ => ?_) (fun c8 => absurd c8 (by decide))
  refine g_iconst 209 C dL_refusesAny_208 rfl ?_
  refine g_told x T 3 (1) (0) (2) (4) (-12, 0, T) 212 C dL_refusesAny_209 rfl ⟨⟨by decide, by decide⟩, by decide, by decide⟩ (Nat.le_of_ble_eq_true rfl) rfl hl hxb e14 hok (by decide) (by decide) (by decide) (by decide) (by decide) rfl (fun h15 e15 q15 => ?_)
  refine g_nrm 375 2250 rfl rfl (tO_r (-12) (by decide)) ?_
  refine g_bipush 214 C dL_refusesAny_212 (by decide) rfl ?_
  refine g_icmp_ne 343 217 C dL_refusesAny_214 rfl rfl (by decide) (by decide) (fun c8 => absurd c8 (by decide)) (fun _ => ?_)
  refine g_aload_n 218 C dL_refusesAny_217 rfl rfl ?_
  refine g_bipush 220 C dL_refusesAny_218 (by decide) rfl ?_
  refine g_iload_n 221 C dL_refusesAny_220 rfl rfl ?_
  refine g_if_ge 229 224 C dL_refusesAny_221 rfl rfl (by decide) (fun _ => ?_) (fun c8 => absurd c8 (by decide))
  refine g_bipush 231 C dL_refusesAny_229 (by decide) rfl ?_
  refine g_iconst 232 C dL_refusesAny_231 rfl ?_
  refine g_iconst 233 C dL_refusesAny_232 rfl ?_
  refine g_iconst 234 C dL_refusesAny_233 rfl ?_
  refine g_told x T 6 (127) (0) (0) (0) (-12, 0, T) 237 C dL_refusesAny_234 rfl ⟨⟨by decide, by decide⟩, by decide, by decide⟩ (Nat.le_of_ble_eq_true rfl) rfl hl hxb e15 hok (by decide) (by decide) (by decide) (by decide) (by decide) rfl (fun h16 e16 q16 => ?_)
  refine g_nrm 380 2280 rfl rfl (tO_r (-12) (by decide)) ?_
  refine g_bipush 239 C dL_refusesAny_237 (by decide) rfl ?_
  refine g_icmp_ne 343 242 C dL_refusesAny_239 rfl rfl (by decide) (by decide) (fun c8 => absurd c8 (by decide)) (fun _ => ?_)
  refine g_aload_n 243 C dL_refusesAny_242 rfl rfl ?_
  refine g_bipush 245 C dL_refusesAny_243 (by decide) rfl ?_
  refine g_iconst 246 C dL_refusesAny_245 rfl ?_
  refine g_iconst 247 C dL_refusesAny_246 rfl ?_
  refine g_iload_n 248 C dL_refusesAny_247 rfl rfl ?_
  refine g_if_ge 255 251 C dL_refusesAny_248 rfl rfl (by decide) (fun _ => ?_) (fun c8 => absurd c8 (by decide))
  refine g_iconst 256 C dL_refusesAny_255 rfl ?_
  refine g_iconst 257 C dL_refusesAny_256 rfl ?_
  refine g_told x T 9 (0) (0) (4) (0) (-12, 0, T) 260 C dL_refusesAny_257 rfl ⟨⟨by decide, by decide⟩, by decide, by decide⟩ (Nat.le_of_ble_eq_true rfl) rfl hl hxb e16 hok (by decide) (by decide) (by decide) (by decide) (by decide) rfl (fun h17 e17 q17 => ?_)
  refine g_nrm 385 2310 rfl rfl (tO_r (-12) (by decide)) ?_
  refine g_bipush 262 C dL_refusesAny_260 (by decide) rfl ?_
  refine g_icmp_ne 343 265 C dL_refusesAny_262 rfl rfl (by decide) (by decide) (fun c8 => absurd c8 (by decide)) (fun _ => ?_)
  refine g_aload_n 266 C dL_refusesAny_265 rfl rfl ?_
  refine g_bipush 268 C dL_refusesAny_266 (by decide) rfl ?_
  refine g_iconst 269 C dL_refusesAny_268 rfl ?_
  refine g_iconst 270 C dL_refusesAny_269 rfl ?_
  refine g_iconst 271 C dL_refusesAny_270 rfl ?_
  refine g_iload_n 272 C dL_refusesAny_271 rfl rfl ?_
  refine g_if_ge 279 275 C dL_refusesAny_272 rfl rfl (by decide) (fun _ => ?_) (fun c8 => absurd c8 (by decide))
  refine g_iconst 280 C dL_refusesAny_279 rfl ?_
  refine g_told x T 9 (0) (0) (0) (5) (-12, 0, T) 283 C dL_refusesAny_280 rfl ⟨⟨by decide, by decide⟩, by decide, by decide⟩ (Nat.le_of_ble_eq_true rfl) rfl hl hxb e17 hok (by decide) (by decide) (by decide) (by decide) (by decide) rfl (fun h18 e18 q18 => ?_)
  refine g_nrm 390 2340 rfl rfl (tO_r (-12) (by decide)) ?_
  refine g_bipush 285 C dL_refusesAny_283 (by decide) rfl ?_
  refine g_icmp_ne 343 288 C dL_refusesAny_285 rfl rfl (by decide) (by decide) (fun c8 => absurd c8 (by decide)) (fun _ => ?_)
  refine g_aload_n 289 C dL_refusesAny_288 rfl rfl ?_
  refine g_bipush 291 C dL_refusesAny_289 (by decide) rfl ?_
  refine g_iconst 292 C dL_refusesAny_291 rfl ?_
  refine g_bipush 294 C dL_refusesAny_292 (by decide) rfl ?_
  refine g_iconst 295 C dL_refusesAny_294 rfl ?_
  refine g_iconst 296 C dL_refusesAny_295 rfl ?_
  refine g_told x T 12 (3) (99) (0) (0) (-11, 0, T) 299 C dL_refusesAny_296 rfl ⟨⟨by decide, by decide⟩, by decide, by decide⟩ (Nat.le_of_ble_eq_true rfl) rfl hl hxb e18 hok (by decide) (by decide) (by decide) (by decide) (by decide) rfl (fun h19 e19 q19 => ?_)
  refine g_nrm 395 2370 rfl rfl (tO_r (-11) (by decide)) ?_
  refine g_bipush 301 C dL_refusesAny_299 (by decide) rfl ?_
  refine g_icmp_ne 343 304 C dL_refusesAny_301 rfl rfl (by decide) (by decide) (fun c8 => absurd c8 (by decide)) (fun _ => ?_)
  refine g_aload_n 305 C dL_refusesAny_304 rfl rfl ?_
  refine g_bipush 307 C dL_refusesAny_305 (by decide) rfl ?_
  refine g_iconst 308 C dL_refusesAny_307 rfl ?_
  refine g_iconst 309 C dL_refusesAny_308 rfl ?_
  refine g_iconst 310 C dL_refusesAny_309 rfl ?_
  refine g_iconst 311 C dL_refusesAny_310 rfl ?_
  refine g_told x T 12 (-1) (0) (0) (0) (-11, 0, T) 314 C dL_refusesAny_311 rfl ⟨⟨by decide, by decide⟩, by decide, by decide⟩ (Nat.le_of_ble_eq_true rfl) rfl hl hxb e19 hok (by decide) (by decide) (by decide) (by decide) (by decide) rfl (fun h20 e20 q20 => ?_)
  refine g_nrm 400 2400 rfl rfl (tO_r (-11) (by decide)) ?_
  refine g_bipush 316 C dL_refusesAny_314 (by decide) rfl ?_
  refine g_icmp_ne 343 319 C dL_refusesAny_316 rfl rfl (by decide) (by decide) (fun c8 => absurd c8 (by decide)) (fun _ => ?_)
  refine g_aload_n 320 C dL_refusesAny_319 rfl rfl ?_
  refine g_bipush 322 C dL_refusesAny_320 (by decide) rfl ?_
  refine g_iconst 323 C dL_refusesAny_322 rfl ?_
  refine g_iload_n 324 C dL_refusesAny_323 rfl rfl ?_
  refine g_if_ge 331 327 C dL_refusesAny_324 rfl rfl (by decide) (fun _ => ?_) (fun c8 => absurd c8 (by decide))
  refine g_bipush 333 C dL_refusesAny_331 (by decide) rfl ?_
  refine g_iconst 334 C dL_refusesAny_333 rfl ?_
  refine g_iconst 335 C dL_refusesAny_334 rfl ?_
  refine g_told x T 12 (0) (8) (0) (0) (-12, 0, T) 338 C dL_refusesAny_335 rfl ⟨⟨by decide, by decide⟩, by decide, by decide⟩ (Nat.le_of_ble_eq_true rfl) rfl hl hxb e20 hok (by decide) (by decide) (by decide) (by decide) (by decide) rfl (fun h21 e21 q21 => ?_)
  refine g_nrm 405 2430 rfl rfl (tO_r (-12) (by decide)) ?_
  refine g_bipush 340 C dL_refusesAny_338 (by decide) rfl ?_
  refine g_icmp_eq 345 343 C dL_refusesAny_340 rfl rfl (by decide) (by decide) (fun _ => ?_) (fun c8 => absurd c8 (by decide))
  refine g_aload_n 346 C dL_refusesAny_345 rfl rfl ?_
  refine g_bipush 348 C dL_refusesAny_346 (by decide) rfl ?_
  refine g_iload_n 349 C dL_refusesAny_348 rfl rfl ?_
  refine g_if_ge 356 352 C dL_refusesAny_349 rfl rfl (by decide) (fun _ => ?_) (fun c8 => absurd c8 (by decide))
  refine g_bipush 358 C dL_refusesAny_356 (by decide) rfl ?_
  refine g_iconst 359 C dL_refusesAny_358 rfl ?_
  refine g_iconst 360 C dL_refusesAny_359 rfl ?_
  refine g_iconst 361 C dL_refusesAny_360 rfl ?_
  refine g_told x T 13 (8) (0) (0) (0) (-12, 0, T) 364 C dL_refusesAny_361 rfl ⟨⟨by decide, by decide⟩, by decide, by decide⟩ (Nat.le_of_ble_eq_true rfl) rfl hl hxb e21 hok (by decide) (by decide) (by decide) (by decide) (by decide) rfl (fun h22 e22 q22 => ?_)
  refine g_nrm 410 2460 rfl rfl (tO_r (-12) (by decide)) ?_
  refine g_bipush 366 C dL_refusesAny_364 (by decide) rfl ?_
  refine g_icmp_ne 434 369 C dL_refusesAny_366 rfl rfl (by decide) (by decide) (fun c8 => absurd c8 (by decide)) (fun _ => ?_)
  refine g_aload_n 370 C dL_refusesAny_369 rfl rfl ?_
  refine g_bipush 372 C dL_refusesAny_370 (by decide) rfl ?_
  refine g_iconst 373 C dL_refusesAny_372 rfl ?_
  refine g_iconst 374 C dL_refusesAny_373 rfl ?_
  refine g_iconst 375 C dL_refusesAny_374 rfl ?_
  refine g_iload_n 376 C dL_refusesAny_375 rfl rfl ?_
  refine g_if_ge 383 379 C dL_refusesAny_376 rfl rfl (by decide) (fun _ => ?_) (fun c8 => absurd c8 (by decide))
  refine g_iconst 384 C dL_refusesAny_383 rfl ?_
  refine g_told x T 14 (0) (0) (0) (2) (-12, 0, T) 387 C dL_refusesAny_384 rfl ⟨⟨by decide, by decide⟩, by decide, by decide⟩ (Nat.le_of_ble_eq_true rfl) rfl hl hxb e22 hok (by decide) (by decide) (by decide) (by decide) (by decide) rfl (fun h23 e23 q23 => ?_)
  refine g_nrm 415 2490 rfl rfl (tO_r (-12) (by decide)) ?_
  refine g_bipush 389 C dL_refusesAny_387 (by decide) rfl ?_
  refine g_icmp_ne 434 392 C dL_refusesAny_389 rfl rfl (by decide) (by decide) (fun c8 => absurd c8 (by decide)) (fun _ => ?_)
  refine g_aload_n 393 C dL_refusesAny_392 rfl rfl ?_
  refine g_bipush 395 C dL_refusesAny_393 (by decide) rfl ?_
  refine g_iconst 396 C dL_refusesAny_395 rfl ?_
  refine g_iconst 397 C dL_refusesAny_396 rfl ?_
  refine g_iconst 398 C dL_refusesAny_397 rfl ?_
  refine g_iload_n 399 C dL_refusesAny_398 rfl rfl ?_
  refine g_if_ge 406 402 C dL_refusesAny_399 rfl rfl (by decide) (fun _ => ?_) (fun c8 => absurd c8 (by decide))
  refine g_iconst 407 C dL_refusesAny_406 rfl ?_
  refine g_told x T 15 (0) (1) (0) (3) (-12, 0, T) 410 C dL_refusesAny_407 rfl ⟨⟨by decide, by decide⟩, by decide, by decide⟩ (Nat.le_of_ble_eq_true rfl) rfl hl hxb e23 hok (by decide) (by decide) (by decide) (by decide) (by decide) rfl (fun h24 e24 q24 => ?_)
  refine g_nrm 420 2520 rfl rfl (tO_r (-12) (by decide)) ?_
  refine g_bipush 412 C dL_refusesAny_410 (by decide) rfl ?_
  refine g_icmp_ne 434 415 C dL_refusesAny_412 rfl rfl (by decide) (by decide) (fun c8 => absurd c8 (by decide)) (fun _ => ?_)
  refine g_aload_n 416 C dL_refusesAny_415 rfl rfl ?_
  refine g_bipush 418 C dL_refusesAny_416 (by decide) rfl ?_
  refine g_iconst 419 C dL_refusesAny_418 rfl ?_
  refine g_iconst 420 C dL_refusesAny_419 rfl ?_
  refine g_iconst 421 C dL_refusesAny_420 rfl ?_
  refine g_iconst 422 C dL_refusesAny_421 rfl ?_
  refine g_told x T 15 (2) (2) (0) (0) (-12, 0, T) 425 C dL_refusesAny_422 rfl ⟨⟨by decide, by decide⟩, by decide, by decide⟩ (Nat.le_of_ble_eq_true rfl) rfl hl hxb e24 hok (by decide) (by decide) (by decide) (by decide) (by decide) rfl (fun h25 e25 q25 => ?_)
  refine g_nrm 425 2550 rfl rfl (tO_r (-12) (by decide)) ?_
  refine g_bipush 427 C dL_refusesAny_425 (by decide) rfl ?_
  refine g_icmp_ne 434 430 C dL_refusesAny_427 rfl rfl (by decide) (by decide) (fun c8 => absurd c8 (by decide)) (fun _ => ?_)
  refine g_iconst 431 C dL_refusesAny_430 rfl ?_
  refine g_goto 435 C dL_refusesAny_431 rfl ?_
  exact g_zret C dL_refusesAny_435 rfl rfl ⟨by decide, by decide⟩ ⟨rfl, rfl, rfl, e25, gKp_tr (gKp_tr (gKp_tr (gKp_tr (gKp_tr (gKp_tr (gKp_tr (gKp_tr (gKp_tr (gKp_tr (gKp_tr (gKp_tr (gKp_tr (gKp_tr (gKp_tr (gKp_tr (gKp_tr (gKp_tr (gKp_tr (gKp_tr (gKp_tr (gKp_tr (gKp_tr (gKp_tr (gKp_tr (gKp_rf) q1) q2) q3) q4) q5) q6) q7) q8) q9) q10) q11) q12) q13) q14) q15) q16) q17) q18) q19) q20) q21) q22) q23) q24) q25⟩
set_option maxRecDepth 100000 in
set_option maxHeartbeats 4000000 in
theorem c_L_refused {E : gEnv} {n : Nat} {h : gH} (x : Nat) (T : gTt) (hl : E.1.stackTraces = false) (hxb : gB E ≤ x ∧ x + 524 ≤ gB E + n) (hJ : isJ E h x T) (hok : okT T) : gM E mL_refused [.ref x] n none h (gTrue E h x n T) gNo := by
  refine gM_of (by decide) (Nat.le_of_ble_eq_true rfl) (fun F C => ?_)
  have h6 := hok.2.1
  refine g_aload_n 1 C dL_refused_0 rfl rfl ?_
  refine g_S1r 4 1135 6810 C dL_refused_1 rfl lk_RL_93 gs_L_seen ⟨⟨by decide, by decide⟩, by decide, by decide⟩ (Nat.le_of_ble_eq_true rfl) rfl rfl rfl (c_L_seen x T hl hxb hJ hok) g_no (fun h1 e1 => ?_)
  obtain ⟨hJ1, hk1⟩ := e1
  refine g_lstore_n 5 [(1, _), (0, _)] C dL_refused_4 (by decide) rfl rfl ?_
  refine g_aload_n 6 C dL_refused_5 rfl rfl ?_
  refine g_bipush 8 C dL_refused_6 (by decide) rfl ?_
  have hc := c_X4_count (E := E) (σ := none) x T 7 hl hxb hJ1 hok (by decide)
  rw [oCount_7] at hc
  have j1 := hJ1.1
  unfold isJo at j1
  refine g_V1r 11 1136 6816 C dL_refused_8 rfl lk_RL_55 gi_X4_count gv_X4_count ⟨_, _, rfl⟩ (by omega) j1 ⟨⟨by decide, by decide⟩, by decide, by decide⟩ (Nat.le_of_ble_eq_true rfl) rfl rfl rfl hc (gTo_X rfl) (fun h2 e2 => ?_)
  obtain ⟨-, hJ2, hk2⟩ := e2
  refine g_istore_n 12 [(3, _), (1, _), (0, _)] C dL_refused_11 (by decide) rfl rfl ?_
  refine g_aload_n 13 C dL_refused_12 rfl rfl ?_
  refine g_iconst 14 C dL_refused_13 rfl ?_
  refine g_S2r 17 1581 9486 C dL_refused_14 rfl lk_RL_97 gs_L_refusesAny ⟨⟨by decide, by decide⟩, by decide, by decide⟩ (Nat.le_of_ble_eq_true rfl) rfl rfl rfl (c_L_refusesAny_m x T hl hxb hJ2 hok) g_no (fun h3 e3 => ?_)
  obtain ⟨hJ3, hk3⟩ := e3
  refine g_if_eq 51 20 C dL_refused_17 rfl rfl (by decide) (fun c8 => absurd c8 (by decide)) (fun _ => ?_)
  refine g_aload_n 21 C dL_refused_20 rfl rfl ?_
  refine g_iconst 22 C dL_refused_21 rfl ?_
  refine g_S2r 25 2026 12156 C dL_refused_22 rfl lk_RL_97 gs_L_refusesAny ⟨⟨by decide, by decide⟩, by decide, by decide⟩ (Nat.le_of_ble_eq_true rfl) rfl rfl rfl (c_L_refusesAny_p x T hl hxb hJ3 hok) g_no (fun h4 e4 => ?_)
  obtain ⟨hJ4, hk4⟩ := e4
  refine g_if_eq 51 28 C dL_refused_25 rfl rfl (by decide) (fun c8 => absurd c8 (by decide)) (fun _ => ?_)
  refine g_aload_n 29 C dL_refused_28 rfl rfl ?_
  refine g_S1r 32 3161 18966 C dL_refused_29 rfl lk_RL_93 gs_L_seen ⟨⟨by decide, by decide⟩, by decide, by decide⟩ (Nat.le_of_ble_eq_true rfl) rfl rfl rfl (c_L_seen x T hl hxb hJ4 hok) g_no (fun h5 e5 => ?_)
  obtain ⟨hJ5, hk5⟩ := e5
  refine g_lload_n 33 C dL_refused_32 rfl rfl ?_
  refine g_lcmp 34 C dL_refused_33 rfl ?_
  rw [lg_cmp_s]
  refine g_if_ne 51 37 C dL_refused_34 rfl rfl (by decide) (fun c8 => absurd rfl c8) (fun _ => ?_)
  refine g_aload_n 38 C dL_refused_37 rfl rfl ?_
  refine g_bipush 40 C dL_refused_38 (by decide) rfl ?_
  have hc := c_X4_count (E := E) (σ := none) x T 7 hl hxb hJ5 hok (by decide)
  rw [oCount_7] at hc
  have j1 := hJ5.1
  unfold isJo at j1
  refine g_V1r 43 3162 18972 C dL_refused_40 rfl lk_RL_55 gi_X4_count gv_X4_count ⟨_, _, rfl⟩ (by omega) j1 ⟨⟨by decide, by decide⟩, by decide, by decide⟩ (Nat.le_of_ble_eq_true rfl) rfl rfl rfl hc (gTo_X rfl) (fun h6 e6 => ?_)
  obtain ⟨-, hJ6, hk6⟩ := e6
  refine g_iload_n 44 C dL_refused_43 rfl rfl ?_
  refine g_icmp_ne (x := (T.2.1.1 : Int)) (y := (T.2.1.1 : Int)) 51 47 C dL_refused_44 rfl rfl (by omega) (by omega) (fun c8 => absurd rfl c8) (fun _ => ?_)
  refine g_iconst 48 C dL_refused_47 rfl ?_
  refine g_goto 52 C dL_refused_48 rfl ?_
  exact g_zret C dL_refused_52 rfl rfl ⟨by decide, by decide⟩ ⟨rfl, rfl, rfl, hJ6, gKp_tr hk1 (gKp_tr hk2 (gKp_tr hk3 (gKp_tr hk4 (gKp_tr hk5 hk6))))⟩
