/-! keys, whole -/
theorem kE0 : eqS gS0 kS0 = true := by decide +kernel
set_option maxRecDepth 100000 in
set_option maxHeartbeats 4000000 in
theorem c_L_keys {E : gEnv} {n : Nat} {σ : Option Nat} {h : gH} (hl : E.1.stackTraces = false) : gM E mL_keys [] n σ h (gD (some (.int (gi 1))) 0 none (fun _ => True)) gNo := by
  refine gM_of (by decide) (Nat.le_of_ble_eq_true rfl) (fun F C => z_in C (fun fz => ?_))
  refine z_fresh h (fun b1 fz1 _ _ _ _ => ?_)
  refine z_new 3 C dL_keys_0 nw_RL_10 rfl (by decide) (by decide) rfl ?_
  refine z_dup 4 C dL_keys_3 rfl rfl ?_
  refine z_callI (As := []) (rest := [.ref (b1 + 0)]) 7 C dL_keys_4 rfl lk_RL_101 gi_X4_init rfl rfl rfl ⟨⟨by decide, by decide⟩, by decide, by decide⟩ (Nat.le_of_ble_eq_true rfl) rfl (c_X4_init (E := gRe E b1) (σ := none) (b1 + 0) rfl (Nat.le_add_right _ _) up_s) (fun _ _ z => z) (fun v1 n1 σ1 h1 hq1 => ?_)
  obtain ⟨rfl, rfl, rfl, hJ1, -⟩ := hq1
  refine z_astore_n 8 [(0, .ref b1)] C dL_keys_7 (by decide) rfl rfl ?_
  refine z_nos ?_
  refine z_cst 524 2359 rfl rfl ?_
  have B1 : zB E F mL_keys b1 b1 524 (fun _ => True) := ⟨C, rfl, hl, ⟨Nat.le_refl _, Nat.le_refl _⟩, fun _ _ _ _ => trivial⟩
  refine ku8 B1 ?_ (fun _ => gS0) h1 (okT_eq kE0 okT_0) (isJ_eq kE0 hJ1) trivial
  refine ku23 B1 ?_
  refine ku37 B1 ?_
  refine ku46 B1 ?_
  refine ku60 B1 ?_
  refine ku72 B1 ?_
  refine ku83 B1 ?_
  refine ku94 B1 ?_
  refine ku106 B1 ?_
  refine ku116 B1 ?_
  refine ku132 B1 ?_
  refine ku148 B1 ?_
  refine ku160 B1 ?_
  refine ku173 B1 ?_
  refine ku185 B1 ?_
  refine ku197 B1 ?_
  refine ku210 B1 ?_
  refine ku226 B1 ?_
  refine ku238 B1 ?_
  refine ku248 B1 ?_
  refine ku258 B1 ?_
  refine ku269 B1 ?_
  refine ku280 B1 ?_
  refine ku291 B1 ?_
  refine ku302 B1 ?_
  refine ku313 B1 ?_
  refine ku329 B1 ?_
  refine ku342 B1 ?_
  refine ku360 B1 ?_
  refine ku372 B1 ?_
  refine ku384 B1 ?_
  refine ku396 B1 ?_
  refine ku407 B1 ?_
  refine ku417 B1 ?_
  refine ku426 B1 ?_
  refine ku436 B1 ?_
  refine ku446 B1 ?_
  refine ku457 B1 ?_
  refine ku467 B1 ?_
  refine ku478 B1 ?_
  refine ku487 B1 ?_
  refine ku496 B1 ?_
  refine ku506 B1 ?_
  refine ku515 B1 ?_
  refine ku529 B1 ?_
  refine ku538 B1 ?_
  refine ku547 B1 ?_
  refine ku558 B1 ?_
  refine ku565 B1 ?_
  refine ku575 B1 ?_
  refine ku585 B1 ?_
  refine ku595 B1 ?_
  refine ku605 B1 ?_
  refine ku615 B1 ?_
  refine ku625 B1 ?_
  refine ku637 B1 ?_
  refine ku653 B1 ?_
  refine ku670 B1 ?_
  refine ku680 B1 ?_
  refine ku691 B1 ?_
  refine ku704 B1 ?_
  refine ku714 B1 ?_
  refine ku731 B1 ?_
  refine ku742 B1 ?_
  refine ku753 B1 ?_
  refine ku763 B1 ?_
  refine ku773 B1 ?_
  refine ku784 B1 ?_
  refine ku794 B1 ?_
  refine ku803 B1 ?_
  refine ku813 B1 ?_
  refine ku822 B1 ?_
  intro f2 h2 _ _ _
  refine z_fresh h2 (fun b2 fz2 _ _ _ _ => ?_)
  refine z_loc [] trivial ?_
  refine z_new 838 C dL_keys_835 nw_RL_10 rfl (by decide) (by decide) rfl ?_
  refine z_dup 839 C dL_keys_838 rfl rfl ?_
  refine z_callI (As := []) (rest := [.ref (b2 + 0)]) 842 C dL_keys_839 rfl lk_RL_101 gi_X4_init rfl rfl rfl ⟨⟨by decide, by decide⟩, by decide, by decide⟩ (Nat.le_of_ble_eq_true rfl) rfl (c_X4_init (E := gRe E b2) (σ := none) (b2 + 0) rfl (Nat.le_add_right _ _) up_s) (fun _ _ z => z) (fun v2 n2 σ2 h3 hq2 => ?_)
  obtain ⟨rfl, rfl, rfl, hJ2, -⟩ := hq2
  refine z_astore_n 843 [(1, .ref b2)] C dL_keys_842 (by decide) rfl rfl ?_
  refine z_iconst 844 C dL_keys_843 rfl ?_
  refine z_newai (m := 4) 846 C dL_keys_844 ⟨rfl, by decide⟩ (by decide) (by decide) rfl ?_
  refine z_astore_n 847 [(2, _), (1, _)] C dL_keys_846 (by decide) rfl rfl ?_
  refine z_loc [(1, .ref b2), (2, .ref (b2 + 524))] ⟨rfl, rfl, trivial⟩ ?_
  refine z_aload_n 848 C dL_keys_847 rfl rfl ?_
  refine z_iconst 849 C dL_keys_848 rfl ?_
  refine z_bipush 851 C dL_keys_849 (by decide) rfl ?_
  refine z_iast (m := 4) 852 C dL_keys_851 ⟨Nat.le_add_right _ _, Nat.lt_succ_self _⟩ up_s (by decide) (by decide) rfl ?_
  refine z_aload_n 853 C dL_keys_852 rfl rfl ?_
  refine z_iconst 854 C dL_keys_853 rfl ?_
  refine z_iconst 855 C dL_keys_854 rfl ?_
  refine z_iast (m := 4) 856 C dL_keys_855 ⟨Nat.le_add_right _ _, Nat.lt_succ_self _⟩ up_s (by decide) (by decide) rfl ?_
  refine z_aload_n 857 C dL_keys_856 rfl rfl ?_
  refine z_iconst 858 C dL_keys_857 rfl ?_
  refine z_iconst 859 C dL_keys_858 rfl ?_
  refine z_iast (m := 4) 860 C dL_keys_859 ⟨Nat.le_add_right _ _, Nat.lt_succ_self _⟩ up_s (by decide) (by decide) rfl ?_
  refine z_aload_n 861 C dL_keys_860 rfl rfl ?_
  refine z_iconst 862 C dL_keys_861 rfl ?_
  refine z_bipush 864 C dL_keys_862 (by decide) rfl ?_
  refine z_iast (m := 4) 865 C dL_keys_864 ⟨Nat.le_add_right _ _, Nat.lt_succ_self _⟩ up_s (by decide) (by decide) rfl ?_
  refine z_iconst 866 C dL_keys_865 rfl ?_
  refine z_istore_n 867 [(3, _), (1, _), (2, _)] C dL_keys_866 (by decide) rfl rfl ?_
  refine z_loc [(1, .ref b2), (2, .ref (b2 + 524)), (3, .int (gi 0))] ⟨rfl, rfl, rfl, trivial⟩ ?_
  refine z_nos ?_
  refine z_cst 4552 25740 rfl rfl ?_
  have B2 : zB E F mL_keys b2 b2 525 (rP E b2) := ⟨C, rfl, hl, ⟨Nat.le_refl _, Nat.le_succ _⟩, fun h h1 hk hr => (hk (b2 + 524) (Or.inr (Nat.le_refl _))).trans hr⟩
  have kq : ∀ q : Nat, q < b2 + 524 → ∀ (h9 : gH) (e : va_E), va_up h9 (b2 + 524) e q = h9 q := fun q hq h9 e => up_n (Nat.ne_of_lt hq)
  refine ku867 B2 ?_ (fun _ => gS0) _ (okT_eq kE0 okT_0) (isJ_eq kE0 (hJ2.kept (fun q _ q2 => (kq q q2 _ _).trans ((kq q q2 _ _).trans ((kq q q2 _ _).trans ((kq q q2 _ _).trans (kq q q2 _ _))))))) up_s
  refine ku872 B2 ?_
  refine ku888 B2 ?_
  refine ku904 B2 ?_
  refine ku919 B2 ?_
  refine ku937 B2 ?_
  refine ku953 B2 ?_
  refine ku872_79 B2 ?_
  refine ku888_80 B2 ?_
  refine ku904_81 B2 ?_
  refine ku919_82 B2 ?_
  refine ku937_83 B2 ?_
  refine ku953_84 B2 ?_
  refine ku872_85 B2 ?_
  refine ku888_86 B2 ?_
  refine ku904_87 B2 ?_
  refine ku919_88 B2 ?_
  refine ku937_89 B2 ?_
  refine ku953_90 B2 ?_
  refine ku872_91 B2 ?_
  refine ku888_92 B2 ?_
  refine ku904_93 B2 ?_
  refine ku919_94 B2 ?_
  refine ku937_95 B2 ?_
  refine ku953_96 B2 ?_
  intro fP hP okP hJP hrP
  refine z_fresh hP (fun b3 fz3 hb3 hp3 hf3 hn3 => ?_)
  refine z_loc [(1, .ref b2)] ⟨rfl, trivial⟩ ?_
  refine z_new 962 C dL_keys_959 nw_RL_10 rfl (by decide) (by decide) rfl ?_
  refine z_dup 963 C dL_keys_962 rfl rfl ?_
  refine z_callI (As := []) (rest := [.ref (b3 + 0)]) 966 C dL_keys_963 rfl lk_RL_101 gi_X4_init rfl rfl rfl ⟨⟨by decide, by decide⟩, by decide, by decide⟩ (Nat.le_of_ble_eq_true rfl) rfl (c_X4_init (E := gRe E b3) (σ := none) (b3 + 0) rfl (Nat.le_add_right _ _) up_s) (fun _ _ z => z) (fun v3 n3 σ3 h4 hq3 => ?_)
  obtain ⟨rfl, rfl, rfl, hJ3, -⟩ := hq3
  refine z_astore_n 967 [(3, .ref b3), (1, _)] C dL_keys_966 (by decide) rfl rfl ?_
  refine z_iconst 968 C dL_keys_967 rfl ?_
  refine z_istore 970 [(4, _), (3, _), (1, _)] C dL_keys_968 (by decide) rfl rfl ?_
  refine z_loc [(1, .ref b2), (3, .ref b3), (4, .int (gi 0))] ⟨rfl, rfl, rfl, trivial⟩ ?_
  refine z_nos ?_
  refine z_cst 5164 28627 rfl rfl ?_
  have B3 : zB E F mL_keys b3 b3 524 (fun _ => True) := ⟨C, rfl, hl, ⟨Nat.le_refl _, Nat.le_refl _⟩, fun _ _ _ _ => trivial⟩
  refine ku970 B3 ?_ (fun _ => gS0) h4 (okT_eq kE0 okT_0) (isJ_eq kE0 hJ3) trivial
  refine ku976 B3 ?_
  refine ku989 B3 ?_
  refine ku995 B3 ?_
  refine ku1010 B3 ?_
  refine ku976_102 B3 ?_
  refine ku989_103 B3 ?_
  refine ku995_104 B3 ?_
  refine ku1010_105 B3 ?_
  refine ku976_106 B3 ?_
  refine ku989_107 B3 ?_
  refine ku995_108 B3 ?_
  refine ku1010_109 B3 ?_
  refine ku976_110 B3 ?_
  refine ku989_111 B3 ?_
  refine ku1010_112 B3 ?_
  refine ku1016 B3 ?_
  refine ku1028 B3 ?_
  refine ku1043 B3 ?_
  refine ku1054 B3 ?_
  refine ku1065 B3 ?_
  refine ku1077 B3 ?_
  refine ku1091 B3 ?_
  refine ku1106 B3 ?_
  refine ku1117 B3 ?_
  refine ku1126 B3 ?_
  refine ku1136 B3 ?_
  intro f5 h5 _ _ _
  refine z_loc [(1, .ref b2)] ⟨rfl, trivial⟩ ?_
  refine z_back hb3 hp3 hf3 hn3 ?_
  refine ku1148 B2 ?_ fP hP okP hJP hrP
  refine ku1157 B2 ?_
  refine ku1166 B2 ?_
  refine ku1175 B2 ?_
  intro f6 h6 _ _ _
  refine z_iconst 1183 C dL_keys_1182 rfl ?_
  refine z_goto 1187 C dL_keys_1183 rfl ?_
  exact z_zret C dL_keys_1187 rfl rfl ⟨by decide, by decide⟩ ⟨rfl, rfl, rfl, trivial⟩
