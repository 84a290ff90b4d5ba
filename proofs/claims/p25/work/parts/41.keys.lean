/-! keys, its first object -/
section KU
variable {E0 : gEnv} {b : Nat} {fz : Heap} {F : gFr} {Q : State → Prop} {n x : Nat} {R : gH → Prop} {bu : Nat × (Int → Int)}
theorem ku8 (B : zB E0 F mL_keys b x n R) (k : ∀ (f : Int → gSt) (h : gH), okT (kS0, (0, f), bu) → isJ (gRe E0 b) h x (kS0, (0, f), bu) → R h → Z E0 b fz F mL_keys Q n none h 529 2389 23 [(0, .ref x)] []) : ∀ (f : Int → gSt) (h : gH), okT (kS0, (0, f), bu) → isJ (gRe E0 b) h x (kS0, (0, f), bu) → R h → Z E0 b fz F mL_keys Q n none h 524 2359 8 [(0, .ref x)] [] := by
  intro f h hok hJ hr
  have C := B.1
  refine z_aload_n 9 C dL_keys_8 rfl rfl ?_
  refine z_bipush 11 C dL_keys_9 (by decide) rfl ?_
  refine z_iconst 12 C dL_keys_11 rfl ?_
  refine z_iconst 13 C dL_keys_12 rfl ?_
  refine z_iconst 14 C dL_keys_13 rfl ?_
  refine z_iconst 15 C dL_keys_14 rfl ?_
  refine zu_told 8 0 0 0 0 (-13, 0, _) 18 529 2389 (kt15 _ _) B dL_keys_15 ⟨⟨by decide, by decide⟩, by decide, by decide⟩ (Nat.le_of_ble_eq_true rfl) rfl rfl rfl hok hJ hr (by decide) (by decide) (by decide) (by decide) (by decide) (fun h1 J1 r1 => ?_)
  refine z_val (-13) (tO_r (-13) (by decide)) ?_
  refine z_bipush 20 C dL_keys_18 (by decide) rfl ?_
  refine z_icmp_ne 171 23 C dL_keys_20 rfl rfl (by decide) (by decide) (fun c8 => absurd c8 (by decide)) (fun _ => ?_)
  exact k _ _ hok J1 r1
theorem ku23 (B : zB E0 F mL_keys b x n R) (k : ∀ (f : Int → gSt) (h : gH), okT (kS0, (0, f), bu) → isJ (gRe E0 b) h x (kS0, (0, f), bu) → R h → Z E0 b fz F mL_keys Q n none h 534 2419 37 [(0, .ref x)] []) : ∀ (f : Int → gSt) (h : gH), okT (kS0, (0, f), bu) → isJ (gRe E0 b) h x (kS0, (0, f), bu) → R h → Z E0 b fz F mL_keys Q n none h 529 2389 23 [(0, .ref x)] [] := by
  intro f h hok hJ hr
  have C := B.1
  refine z_aload_n 24 C dL_keys_23 rfl rfl ?_
  refine z_iconst 25 C dL_keys_24 rfl ?_
  refine z_iconst 26 C dL_keys_25 rfl ?_
  refine z_iconst 27 C dL_keys_26 rfl ?_
  refine z_iconst 28 C dL_keys_27 rfl ?_
  refine z_iconst 29 C dL_keys_28 rfl ?_
  refine zu_told 3 0 0 0 0 (-13, 0, _) 32 534 2419 (kt29 _ _ _) B dL_keys_29 ⟨⟨by decide, by decide⟩, by decide, by decide⟩ (Nat.le_of_ble_eq_true rfl) rfl rfl rfl hok hJ hr (by decide) (by decide) (by decide) (by decide) (by decide) (fun h1 J1 r1 => ?_)
  refine z_val (-13) (tO_r (-13) (by decide)) ?_
  refine z_bipush 34 C dL_keys_32 (by decide) rfl ?_
  refine z_icmp_ne 171 37 C dL_keys_34 rfl rfl (by decide) (by decide) (fun c8 => absurd c8 (by decide)) (fun _ => ?_)
  exact k _ _ hok J1 r1
theorem ku37 (B : zB E0 F mL_keys b x n R) (k : ∀ (f : Int → gSt) (h : gH), okT (kS0, (0, f), bu) → isJ (gRe E0 b) h x (kS0, (0, f), bu) → R h → Z E0 b fz F mL_keys Q n none h 534 2419 46 [(0, .ref x)] []) : ∀ (f : Int → gSt) (h : gH), okT (kS0, (0, f), bu) → isJ (gRe E0 b) h x (kS0, (0, f), bu) → R h → Z E0 b fz F mL_keys Q n none h 534 2419 37 [(0, .ref x)] [] := by
  intro f h hok hJ hr
  have C := B.1
  refine z_aload_n 38 C dL_keys_37 rfl rfl ?_
  refine zu_Agr 41 B dL_keys_38 ⟨⟨by decide, by decide⟩, by decide, by decide⟩ (Nat.le_of_ble_eq_true rfl) rfl hok hJ ?_
  refine z_dconst1 42 C dL_keys_41 rfl ?_
  refine z_dcmp (c := 0) 43 C dL_keys_42 kd42 rfl ?_
  refine z_if_ne 171 46 C dL_keys_43 rfl rfl (by decide) (fun c8 => absurd c8 (by decide)) (fun _ => ?_)
  exact k _ _ hok hJ hr
theorem ku46 (B : zB E0 F mL_keys b x n R) (k : ∀ (f : Int → gSt) (h : gH), okT (kS0, (0, f), bu) → isJ (gRe E0 b) h x (kS0, (0, f), bu) → R h → Z E0 b fz F mL_keys Q n none h 536 2431 60 [(0, .ref x)] []) : ∀ (f : Int → gSt) (h : gH), okT (kS0, (0, f), bu) → isJ (gRe E0 b) h x (kS0, (0, f), bu) → R h → Z E0 b fz F mL_keys Q n none h 534 2419 46 [(0, .ref x)] [] := by
  intro f h hok hJ hr
  have C := B.1
  refine z_aload_n 47 C dL_keys_46 rfl rfl ?_
  refine zu_PullAll 0 kS0 kk47 50 535 2425 B dL_keys_47 ⟨⟨by decide, by decide⟩, by decide, by decide⟩ (Nat.le_of_ble_eq_true rfl) rfl rfl rfl hok hJ hr (fun h1 o1 J1 r1 => ?_)
  refine z_if_ne 171 53 C dL_keys_50 rfl rfl (by decide) (fun c8 => absurd c8 (by decide)) (fun _ => ?_)
  refine z_aload_n 54 C dL_keys_53 rfl rfl ?_
  refine zu_Undo kS0 0 rfl (fUp_at _ _ _) 57 536 2431 B dL_keys_54 ⟨⟨by decide, by decide⟩, by decide, by decide⟩ (Nat.le_of_ble_eq_true rfl) rfl rfl rfl o1 J1 r1 (fun h2 o2 J2 r2 => ?_)
  refine z_if_ne 171 60 C dL_keys_57 rfl rfl (by decide) (fun c8 => absurd c8 (by decide)) (fun _ => ?_)
  exact k _ _ o2 J2 r2
theorem ku60 (B : zB E0 F mL_keys b x n R) (k : ∀ (f : Int → gSt) (h : gH), okT (kS1, (1, f), bu) → isJ (gRe E0 b) h x (kS1, (1, f), bu) → R h → Z E0 b fz F mL_keys Q n none h 541 2461 72 [(0, .ref x)] []) : ∀ (f : Int → gSt) (h : gH), okT (kS0, (0, f), bu) → isJ (gRe E0 b) h x (kS0, (0, f), bu) → R h → Z E0 b fz F mL_keys Q n none h 536 2431 60 [(0, .ref x)] [] := by
  intro f h hok hJ hr
  have C := B.1
  refine z_aload_n 61 C dL_keys_60 rfl rfl ?_
  refine z_iconst 62 C dL_keys_61 rfl ?_
  refine z_iconst 63 C dL_keys_62 rfl ?_
  refine z_iconst 64 C dL_keys_63 rfl ?_
  refine z_bipush 66 C dL_keys_64 (by decide) rfl ?_
  refine zu_Write 0 1 0 10 0 kS1 kk66_4 69 541 2461 B dL_keys_66 ⟨⟨by decide, by decide⟩, by decide, by decide⟩ (Nat.le_of_ble_eq_true rfl) rfl rfl rfl hok hJ hr (fun h1 o1 J1 r1 => ?_)
  refine z_if_ne 171 72 C dL_keys_69 rfl rfl (by decide) (fun c8 => absurd c8 (by decide)) (fun _ => ?_)
  exact k _ _ o1 J1 r1
theorem ku72 (B : zB E0 F mL_keys b x n R) (k : ∀ (f : Int → gSt) (h : gH), okT (kS1, (1, f), bu) → isJ (gRe E0 b) h x (kS1, (1, f), bu) → R h → Z E0 b fz F mL_keys Q n none h 544 2479 83 [(0, .ref x)] []) : ∀ (f : Int → gSt) (h : gH), okT (kS1, (1, f), bu) → isJ (gRe E0 b) h x (kS1, (1, f), bu) → R h → Z E0 b fz F mL_keys Q n none h 541 2461 72 [(0, .ref x)] [] := by
  intro f h hok hJ hr
  have C := B.1
  refine z_aload_n 73 C dL_keys_72 rfl rfl ?_
  refine z_iconst 74 C dL_keys_73 rfl ?_
  refine z_iconst 75 C dL_keys_74 rfl ?_
  refine z_iconst 76 C dL_keys_75 rfl ?_
  refine zu_Vec 0 1 0 1 kk76_5 79 544 2479 B dL_keys_76 ⟨⟨by decide, by decide⟩, by decide, by decide⟩ (Nat.le_of_ble_eq_true rfl) rfl rfl rfl hok hJ hr (fun h1 J1 r1 => ?_)
  refine z_iconst 80 C dL_keys_79 rfl ?_
  refine z_icmp_ne 171 83 C dL_keys_80 rfl rfl (by decide) (by decide) (fun c8 => absurd c8 (by decide)) (fun _ => ?_)
  exact k _ _ hok J1 r1
theorem ku83 (B : zB E0 F mL_keys b x n R) (k : ∀ (f : Int → gSt) (h : gH), okT (kS1, (1, f), bu) → isJ (gRe E0 b) h x (kS1, (1, f), bu) → R h → Z E0 b fz F mL_keys Q n none h 547 2497 94 [(0, .ref x)] []) : ∀ (f : Int → gSt) (h : gH), okT (kS1, (1, f), bu) → isJ (gRe E0 b) h x (kS1, (1, f), bu) → R h → Z E0 b fz F mL_keys Q n none h 544 2479 83 [(0, .ref x)] [] := by
  intro f h hok hJ hr
  have C := B.1
  refine z_aload_n 84 C dL_keys_83 rfl rfl ?_
  refine z_iconst 85 C dL_keys_84 rfl ?_
  refine z_iconst 86 C dL_keys_85 rfl ?_
  refine z_iconst 87 C dL_keys_86 rfl ?_
  refine zu_Kno 0 1 0 1 kk87_6 90 547 2497 B dL_keys_87 ⟨⟨by decide, by decide⟩, by decide, by decide⟩ (Nat.le_of_ble_eq_true rfl) rfl rfl rfl hok hJ hr (fun h1 J1 r1 => ?_)
  refine z_iconst 91 C dL_keys_90 rfl ?_
  refine z_icmp_ne 171 94 C dL_keys_91 rfl rfl (by decide) (by decide) (fun c8 => absurd c8 (by decide)) (fun _ => ?_)
  exact k _ _ hok J1 r1
theorem ku94 (B : zB E0 F mL_keys b x n R) (k : ∀ (f : Int → gSt) (h : gH), okT (kS2, (2, f), bu) → isJ (gRe E0 b) h x (kS2, (2, f), bu) → R h → Z E0 b fz F mL_keys Q n none h 552 2527 106 [(0, .ref x)] []) : ∀ (f : Int → gSt) (h : gH), okT (kS1, (1, f), bu) → isJ (gRe E0 b) h x (kS1, (1, f), bu) → R h → Z E0 b fz F mL_keys Q n none h 547 2497 94 [(0, .ref x)] [] := by
  intro f h hok hJ hr
  have C := B.1
  refine z_aload_n 95 C dL_keys_94 rfl rfl ?_
  refine z_iconst 96 C dL_keys_95 rfl ?_
  refine z_iconst 97 C dL_keys_96 rfl ?_
  refine z_iconst 98 C dL_keys_97 rfl ?_
  refine z_bipush 100 C dL_keys_98 (by decide) rfl ?_
  refine zu_Write 1 1 0 20 0 kS2 kk100_7 103 552 2527 B dL_keys_100 ⟨⟨by decide, by decide⟩, by decide, by decide⟩ (Nat.le_of_ble_eq_true rfl) rfl rfl rfl hok hJ hr (fun h1 o1 J1 r1 => ?_)
  refine z_if_ne 171 106 C dL_keys_103 rfl rfl (by decide) (fun c8 => absurd c8 (by decide)) (fun _ => ?_)
  exact k _ _ o1 J1 r1
theorem ku106 (B : zB E0 F mL_keys b x n R) (k : ∀ (f : Int → gSt) (h : gH), okT (kS2, (2, f), bu) → isJ (gRe E0 b) h x (kS2, (2, f), bu) → R h → Z E0 b fz F mL_keys Q n none h 554 2539 116 [(0, .ref x)] []) : ∀ (f : Int → gSt) (h : gH), okT (kS2, (2, f), bu) → isJ (gRe E0 b) h x (kS2, (2, f), bu) → R h → Z E0 b fz F mL_keys Q n none h 552 2527 106 [(0, .ref x)] [] := by
  intro f h hok hJ hr
  have C := B.1
  refine z_aload_n 107 C dL_keys_106 rfl rfl ?_
  refine z_iconst 108 C dL_keys_107 rfl ?_
  refine z_iconst 109 C dL_keys_108 rfl ?_
  refine zu_Key 1 0 2 kk109_8 112 554 2539 B dL_keys_109 ⟨⟨by decide, by decide⟩, by decide, by decide⟩ (Nat.le_of_ble_eq_true rfl) rfl rfl rfl hok hJ hr (fun h1 J1 r1 => ?_)
  refine z_iconst 113 C dL_keys_112 rfl ?_
  refine z_icmp_ne 171 116 C dL_keys_113 rfl rfl (by decide) (by decide) (fun c8 => absurd c8 (by decide)) (fun _ => ?_)
  exact k _ _ hok J1 r1
theorem ku116 (B : zB E0 F mL_keys b x n R) (k : ∀ (f : Int → gSt) (h : gH), okT (kS2, (2, f), bu) → isJ (gRe E0 b) h x (kS2, (2, f), bu) → R h → Z E0 b fz F mL_keys Q n none h 574 2659 132 [(0, .ref x)] []) : ∀ (f : Int → gSt) (h : gH), okT (kS2, (2, f), bu) → isJ (gRe E0 b) h x (kS2, (2, f), bu) → R h → Z E0 b fz F mL_keys Q n none h 554 2539 116 [(0, .ref x)] [] := by
  intro f h hok hJ hr
  have C := B.1
  refine z_aload_n 117 C dL_keys_116 rfl rfl ?_
  refine z_iconst 118 C dL_keys_117 rfl ?_
  refine z_iconst 119 C dL_keys_118 rfl ?_
  refine z_iconst 120 C dL_keys_119 rfl ?_
  refine z_iconst 121 C dL_keys_120 rfl ?_
  refine z_iconst 122 C dL_keys_121 rfl ?_
  refine z_bipush 124 C dL_keys_122 (by decide) rfl ?_
  refine z_iconst 125 C dL_keys_124 rfl ?_
  refine z_iconst 126 C dL_keys_125 rfl ?_
  refine zu_isSib 0 1 0 0 1 10 1 1 ks126 (by decide) 129 574 2659 B dL_keys_126 ⟨⟨by decide, by decide⟩, by decide, by decide⟩ (Nat.le_of_ble_eq_true rfl) rfl rfl rfl hok hJ hr (fun h1 J1 r1 => ?_)
  refine z_if_eq 171 132 C dL_keys_129 rfl rfl (by decide) (fun c8 => absurd c8 (by decide)) (fun _ => ?_)
  exact k _ _ hok J1 r1
theorem ku132 (B : zB E0 F mL_keys b x n R) (k : ∀ (f : Int → gSt) (h : gH), okT (kS2, (2, f), bu) → isJ (gRe E0 b) h x (kS2, (2, f), bu) → R h → Z E0 b fz F mL_keys Q n none h 594 2779 148 [(0, .ref x)] []) : ∀ (f : Int → gSt) (h : gH), okT (kS2, (2, f), bu) → isJ (gRe E0 b) h x (kS2, (2, f), bu) → R h → Z E0 b fz F mL_keys Q n none h 574 2659 132 [(0, .ref x)] [] := by
  intro f h hok hJ hr
  have C := B.1
  refine z_aload_n 133 C dL_keys_132 rfl rfl ?_
  refine z_iconst 134 C dL_keys_133 rfl ?_
  refine z_iconst 135 C dL_keys_134 rfl ?_
  refine z_iconst 136 C dL_keys_135 rfl ?_
  refine z_iconst 137 C dL_keys_136 rfl ?_
  refine z_iconst 138 C dL_keys_137 rfl ?_
  refine z_bipush 140 C dL_keys_138 (by decide) rfl ?_
  refine z_iconst 141 C dL_keys_140 rfl ?_
  refine z_iconst 142 C dL_keys_141 rfl ?_
  refine zu_isSib 0 1 1 1 1 20 2 1 ks142 (by decide) 145 594 2779 B dL_keys_142 ⟨⟨by decide, by decide⟩, by decide, by decide⟩ (Nat.le_of_ble_eq_true rfl) rfl rfl rfl hok hJ hr (fun h1 J1 r1 => ?_)
  refine z_if_eq 171 148 C dL_keys_145 rfl rfl (by decide) (fun c8 => absurd c8 (by decide)) (fun _ => ?_)
  exact k _ _ hok J1 r1
theorem ku148 (B : zB E0 F mL_keys b x n R) (k : ∀ (f : Int → gSt) (h : gH), okT (kS2, (2, f), bu) → isJ (gRe E0 b) h x (kS2, (2, f), bu) → R h → Z E0 b fz F mL_keys Q n none h 598 2803 160 [(0, .ref x)] []) : ∀ (f : Int → gSt) (h : gH), okT (kS2, (2, f), bu) → isJ (gRe E0 b) h x (kS2, (2, f), bu) → R h → Z E0 b fz F mL_keys Q n none h 594 2779 148 [(0, .ref x)] [] := by
  intro f h hok hJ hr
  have C := B.1
  refine z_aload_n 149 C dL_keys_148 rfl rfl ?_
  refine z_iconst 150 C dL_keys_149 rfl ?_
  refine z_iconst 151 C dL_keys_150 rfl ?_
  refine z_iconst 152 C dL_keys_151 rfl ?_
  refine z_iconst 153 C dL_keys_152 rfl ?_
  refine zu_Sib 0 1 2 0 (-1) kk153_11 156 598 2803 B dL_keys_153 ⟨⟨by decide, by decide⟩, by decide, by decide⟩ (Nat.le_of_ble_eq_true rfl) rfl rfl rfl hok hJ hr (fun h1 J1 r1 => ?_)
  refine z_iconst 157 C dL_keys_156 rfl ?_
  refine z_icmp_ne 171 160 C dL_keys_157 rfl rfl (by decide) (by decide) (fun c8 => absurd c8 (by decide)) (fun _ => ?_)
  exact k _ _ hok J1 r1
theorem ku160 (B : zB E0 F mL_keys b x n R) (k : ∀ (f : Int → gSt) (h : gH), okT (kS2, (2, f), bu) → isJ (gRe E0 b) h x (kS2, (2, f), bu) → R h → Z E0 b fz F mL_keys Q n none h 598 2803 173 [(0, .ref x)] []) : ∀ (f : Int → gSt) (h : gH), okT (kS2, (2, f), bu) → isJ (gRe E0 b) h x (kS2, (2, f), bu) → R h → Z E0 b fz F mL_keys Q n none h 598 2803 160 [(0, .ref x)] [] := by
  intro f h hok hJ hr
  have C := B.1
  refine z_aload_n 161 C dL_keys_160 rfl rfl ?_
  refine zu_Agr 164 B dL_keys_161 ⟨⟨by decide, by decide⟩, by decide, by decide⟩ (Nat.le_of_ble_eq_true rfl) rfl hok hJ ?_
  refine z_ldc2d 167 C dL_keys_164 ld_RL_110 rfl ?_
  refine z_dcmp (c := 0) 168 C dL_keys_167 kd167 rfl ?_
  refine z_if_eq 173 171 C dL_keys_168 rfl rfl (by decide) (fun _ => ?_) (fun c8 => absurd c8 (by decide))
  exact k _ _ hok hJ hr
theorem ku173 (B : zB E0 F mL_keys b x n R) (k : ∀ (f : Int → gSt) (h : gH), okT (kS2, (2, f), bu) → isJ (gRe E0 b) h x (kS2, (2, f), bu) → R h → Z E0 b fz F mL_keys Q n none h 602 2827 185 [(0, .ref x)] []) : ∀ (f : Int → gSt) (h : gH), okT (kS2, (2, f), bu) → isJ (gRe E0 b) h x (kS2, (2, f), bu) → R h → Z E0 b fz F mL_keys Q n none h 598 2803 173 [(0, .ref x)] [] := by
  intro f h hok hJ hr
  have C := B.1
  refine z_aload_n 174 C dL_keys_173 rfl rfl ?_
  refine z_iconst 175 C dL_keys_174 rfl ?_
  refine z_iconst 176 C dL_keys_175 rfl ?_
  refine z_iconst 177 C dL_keys_176 rfl ?_
  refine z_iconst 178 C dL_keys_177 rfl ?_
  refine zu_IfW 0 1 0 0 1 kk178_13 181 602 2827 B dL_keys_178 ⟨⟨by decide, by decide⟩, by decide, by decide⟩ (Nat.le_of_ble_eq_true rfl) rfl rfl rfl hok hJ hr (fun h1 J1 r1 => ?_)
  refine z_iconst 182 C dL_keys_181 rfl ?_
  refine z_icmp_ne 358 185 C dL_keys_182 rfl rfl (by decide) (by decide) (fun c8 => absurd c8 (by decide)) (fun _ => ?_)
  exact k _ _ hok J1 r1
theorem ku185 (B : zB E0 F mL_keys b x n R) (k : ∀ (f : Int → gSt) (h : gH), okT (kS2, (2, f), bu) → isJ (gRe E0 b) h x (kS2, (2, f), bu) → R h → Z E0 b fz F mL_keys Q n none h 606 2851 197 [(0, .ref x)] []) : ∀ (f : Int → gSt) (h : gH), okT (kS2, (2, f), bu) → isJ (gRe E0 b) h x (kS2, (2, f), bu) → R h → Z E0 b fz F mL_keys Q n none h 602 2827 185 [(0, .ref x)] [] := by
  intro f h hok hJ hr
  have C := B.1
  refine z_aload_n 186 C dL_keys_185 rfl rfl ?_
  refine z_iconst 187 C dL_keys_186 rfl ?_
  refine z_iconst 188 C dL_keys_187 rfl ?_
  refine z_iconst 189 C dL_keys_188 rfl ?_
  refine z_iconst 190 C dL_keys_189 rfl ?_
  refine zu_IfW 0 1 0 1 2 kk190_14 193 606 2851 B dL_keys_190 ⟨⟨by decide, by decide⟩, by decide, by decide⟩ (Nat.le_of_ble_eq_true rfl) rfl rfl rfl hok hJ hr (fun h1 J1 r1 => ?_)
  refine z_iconst 194 C dL_keys_193 rfl ?_
  refine z_icmp_ne 358 197 C dL_keys_194 rfl rfl (by decide) (by decide) (fun c8 => absurd c8 (by decide)) (fun _ => ?_)
  exact k _ _ hok J1 r1
theorem ku197 (B : zB E0 F mL_keys b x n R) (k : ∀ (f : Int → gSt) (h : gH), okT (kS3, (3, f), bu) → isJ (gRe E0 b) h x (kS3, (3, f), bu) → R h → Z E0 b fz F mL_keys Q n none h 611 2881 210 [(0, .ref x)] []) : ∀ (f : Int → gSt) (h : gH), okT (kS2, (2, f), bu) → isJ (gRe E0 b) h x (kS2, (2, f), bu) → R h → Z E0 b fz F mL_keys Q n none h 606 2851 197 [(0, .ref x)] [] := by
  intro f h hok hJ hr
  have C := B.1
  refine z_aload_n 198 C dL_keys_197 rfl rfl ?_
  refine z_iconst 199 C dL_keys_198 rfl ?_
  refine z_iconst 200 C dL_keys_199 rfl ?_
  refine z_iconst 201 C dL_keys_200 rfl ?_
  refine z_bipush 203 C dL_keys_201 (by decide) rfl ?_
  refine zu_Write 0 1 0 11 1 kS3 kk203_15 206 611 2881 B dL_keys_203 ⟨⟨by decide, by decide⟩, by decide, by decide⟩ (Nat.le_of_ble_eq_true rfl) rfl rfl rfl hok hJ hr (fun h1 o1 J1 r1 => ?_)
  refine z_iconst 207 C dL_keys_206 rfl ?_
  refine z_icmp_ne 358 210 C dL_keys_207 rfl rfl (by decide) (by decide) (fun c8 => absurd c8 (by decide)) (fun _ => ?_)
  exact k _ _ o1 J1 r1
theorem ku210 (B : zB E0 F mL_keys b x n R) (k : ∀ (f : Int → gSt) (h : gH), okT (kS3, (3, f), bu) → isJ (gRe E0 b) h x (kS3, (3, f), bu) → R h → Z E0 b fz F mL_keys Q n none h 631 3001 226 [(0, .ref x)] []) : ∀ (f : Int → gSt) (h : gH), okT (kS3, (3, f), bu) → isJ (gRe E0 b) h x (kS3, (3, f), bu) → R h → Z E0 b fz F mL_keys Q n none h 611 2881 210 [(0, .ref x)] [] := by
  intro f h hok hJ hr
  have C := B.1
  refine z_aload_n 211 C dL_keys_210 rfl rfl ?_
  refine z_iconst 212 C dL_keys_211 rfl ?_
  refine z_iconst 213 C dL_keys_212 rfl ?_
  refine z_iconst 214 C dL_keys_213 rfl ?_
  refine z_iconst 215 C dL_keys_214 rfl ?_
  refine z_iconst 216 C dL_keys_215 rfl ?_
  refine z_bipush 218 C dL_keys_216 (by decide) rfl ?_
  refine z_iconst 219 C dL_keys_218 rfl ?_
  refine z_iconst 220 C dL_keys_219 rfl ?_
  refine zu_isSib 0 1 0 0 2 11 1 1 ks220 (by decide) 223 631 3001 B dL_keys_220 ⟨⟨by decide, by decide⟩, by decide, by decide⟩ (Nat.le_of_ble_eq_true rfl) rfl rfl rfl hok hJ hr (fun h1 J1 r1 => ?_)
  refine z_if_eq 358 226 C dL_keys_223 rfl rfl (by decide) (fun c8 => absurd c8 (by decide)) (fun _ => ?_)
  exact k _ _ hok J1 r1
theorem ku226 (B : zB E0 F mL_keys b x n R) (k : ∀ (f : Int → gSt) (h : gH), okT (kS3, (3, f), bu) → isJ (gRe E0 b) h x (kS3, (3, f), bu) → R h → Z E0 b fz F mL_keys Q n none h 636 3031 238 [(0, .ref x)] []) : ∀ (f : Int → gSt) (h : gH), okT (kS3, (3, f), bu) → isJ (gRe E0 b) h x (kS3, (3, f), bu) → R h → Z E0 b fz F mL_keys Q n none h 631 3001 226 [(0, .ref x)] [] := by
  intro f h hok hJ hr
  have C := B.1
  refine z_aload_n 227 C dL_keys_226 rfl rfl ?_
  refine z_iconst 228 C dL_keys_227 rfl ?_
  refine z_iconst 229 C dL_keys_228 rfl ?_
  refine z_iconst 230 C dL_keys_229 rfl ?_
  refine z_iconst 231 C dL_keys_230 rfl ?_
  refine zu_IfP 1 0 1 1 2 kk231_17 234 636 3031 B dL_keys_231 ⟨⟨by decide, by decide⟩, by decide, by decide⟩ (Nat.le_of_ble_eq_true rfl) rfl rfl rfl hok hJ hr (fun h1 J1 r1 => ?_)
  refine z_iconst 235 C dL_keys_234 rfl ?_
  refine z_icmp_ne 358 238 C dL_keys_235 rfl rfl (by decide) (by decide) (fun c8 => absurd c8 (by decide)) (fun _ => ?_)
  exact k _ _ hok J1 r1
theorem ku238 (B : zB E0 F mL_keys b x n R) (k : ∀ (f : Int → gSt) (h : gH), okT (kS4, (4, f), bu) → isJ (gRe E0 b) h x (kS4, (4, f), bu) → R h → Z E0 b fz F mL_keys Q n none h 641 3061 248 [(0, .ref x)] []) : ∀ (f : Int → gSt) (h : gH), okT (kS3, (3, f), bu) → isJ (gRe E0 b) h x (kS3, (3, f), bu) → R h → Z E0 b fz F mL_keys Q n none h 636 3031 238 [(0, .ref x)] [] := by
  intro f h hok hJ hr
  have C := B.1
  refine z_aload_n 239 C dL_keys_238 rfl rfl ?_
  refine z_iconst 240 C dL_keys_239 rfl ?_
  refine z_iconst 241 C dL_keys_240 rfl ?_
  refine z_iconst 242 C dL_keys_241 rfl ?_
  refine zu_Pull 1 0 1 0 kS4 kk242_18 245 641 3061 B dL_keys_242 ⟨⟨by decide, by decide⟩, by decide, by decide⟩ (Nat.le_of_ble_eq_true rfl) rfl rfl rfl hok hJ hr (fun h1 o1 J1 r1 => ?_)
  refine z_if_ne 358 248 C dL_keys_245 rfl rfl (by decide) (fun c8 => absurd c8 (by decide)) (fun _ => ?_)
  exact k _ _ o1 J1 r1
theorem ku248 (B : zB E0 F mL_keys b x n R) (k : ∀ (f : Int → gSt) (h : gH), okT (kS4, (4, f), bu) → isJ (gRe E0 b) h x (kS4, (4, f), bu) → R h → Z E0 b fz F mL_keys Q n none h 643 3073 258 [(0, .ref x)] []) : ∀ (f : Int → gSt) (h : gH), okT (kS4, (4, f), bu) → isJ (gRe E0 b) h x (kS4, (4, f), bu) → R h → Z E0 b fz F mL_keys Q n none h 641 3061 248 [(0, .ref x)] [] := by
  intro f h hok hJ hr
  have C := B.1
  refine z_aload_n 249 C dL_keys_248 rfl rfl ?_
  refine z_iconst 250 C dL_keys_249 rfl ?_
  refine z_iconst 251 C dL_keys_250 rfl ?_
  refine zu_Key 1 1 2 kk251_19 254 643 3073 B dL_keys_251 ⟨⟨by decide, by decide⟩, by decide, by decide⟩ (Nat.le_of_ble_eq_true rfl) rfl rfl rfl hok hJ hr (fun h1 J1 r1 => ?_)
  refine z_iconst 255 C dL_keys_254 rfl ?_
  refine z_icmp_ne 358 258 C dL_keys_255 rfl rfl (by decide) (by decide) (fun c8 => absurd c8 (by decide)) (fun _ => ?_)
  exact k _ _ hok J1 r1
theorem ku258 (B : zB E0 F mL_keys b x n R) (k : ∀ (f : Int → gSt) (h : gH), okT (kS4, (4, f), bu) → isJ (gRe E0 b) h x (kS4, (4, f), bu) → R h → Z E0 b fz F mL_keys Q n none h 646 3091 269 [(0, .ref x)] []) : ∀ (f : Int → gSt) (h : gH), okT (kS4, (4, f), bu) → isJ (gRe E0 b) h x (kS4, (4, f), bu) → R h → Z E0 b fz F mL_keys Q n none h 643 3073 258 [(0, .ref x)] [] := by
  intro f h hok hJ hr
  have C := B.1
  refine z_aload_n 259 C dL_keys_258 rfl rfl ?_
  refine z_iconst 260 C dL_keys_259 rfl ?_
  refine z_iconst 261 C dL_keys_260 rfl ?_
  refine z_iconst 262 C dL_keys_261 rfl ?_
  refine zu_Vec 1 1 0 2 kk262_20 265 646 3091 B dL_keys_262 ⟨⟨by decide, by decide⟩, by decide, by decide⟩ (Nat.le_of_ble_eq_true rfl) rfl rfl rfl hok hJ hr (fun h1 J1 r1 => ?_)
  refine z_iconst 266 C dL_keys_265 rfl ?_
  refine z_icmp_ne 358 269 C dL_keys_266 rfl rfl (by decide) (by decide) (fun c8 => absurd c8 (by decide)) (fun _ => ?_)
  exact k _ _ hok J1 r1
theorem ku269 (B : zB E0 F mL_keys b x n R) (k : ∀ (f : Int → gSt) (h : gH), okT (kS4, (4, f), bu) → isJ (gRe E0 b) h x (kS4, (4, f), bu) → R h → Z E0 b fz F mL_keys Q n none h 649 3109 280 [(0, .ref x)] []) : ∀ (f : Int → gSt) (h : gH), okT (kS4, (4, f), bu) → isJ (gRe E0 b) h x (kS4, (4, f), bu) → R h → Z E0 b fz F mL_keys Q n none h 646 3091 269 [(0, .ref x)] [] := by
  intro f h hok hJ hr
  have C := B.1
  refine z_aload_n 270 C dL_keys_269 rfl rfl ?_
  refine z_iconst 271 C dL_keys_270 rfl ?_
  refine z_iconst 272 C dL_keys_271 rfl ?_
  refine z_iconst 273 C dL_keys_272 rfl ?_
  refine zu_Vec 1 1 1 1 kk273_21 276 649 3109 B dL_keys_273 ⟨⟨by decide, by decide⟩, by decide, by decide⟩ (Nat.le_of_ble_eq_true rfl) rfl rfl rfl hok hJ hr (fun h1 J1 r1 => ?_)
  refine z_iconst 277 C dL_keys_276 rfl ?_
  refine z_icmp_ne 358 280 C dL_keys_277 rfl rfl (by decide) (by decide) (fun c8 => absurd c8 (by decide)) (fun _ => ?_)
  exact k _ _ hok J1 r1
theorem ku280 (B : zB E0 F mL_keys b x n R) (k : ∀ (f : Int → gSt) (h : gH), okT (kS5, (5, f), bu) → isJ (gRe E0 b) h x (kS5, (5, f), bu) → R h → Z E0 b fz F mL_keys Q n none h 652 3127 291 [(0, .ref x)] []) : ∀ (f : Int → gSt) (h : gH), okT (kS4, (4, f), bu) → isJ (gRe E0 b) h x (kS4, (4, f), bu) → R h → Z E0 b fz F mL_keys Q n none h 649 3109 280 [(0, .ref x)] [] := by
  intro f h hok hJ hr
  have C := B.1
  refine z_aload_n 281 C dL_keys_280 rfl rfl ?_
  refine z_iconst 282 C dL_keys_281 rfl ?_
  refine z_iconst 283 C dL_keys_282 rfl ?_
  refine z_iconst 284 C dL_keys_283 rfl ?_
  refine zu_Read 2 1 1 2 kS5 kk284_22 287 652 3127 B dL_keys_284 ⟨⟨by decide, by decide⟩, by decide, by decide⟩ (Nat.le_of_ble_eq_true rfl) rfl rfl rfl hok hJ hr (fun h1 o1 J1 r1 => ?_)
  refine z_iconst 288 C dL_keys_287 rfl ?_
  refine z_icmp_ne 358 291 C dL_keys_288 rfl rfl (by decide) (by decide) (fun c8 => absurd c8 (by decide)) (fun _ => ?_)
  exact k _ _ o1 J1 r1
theorem ku291 (B : zB E0 F mL_keys b x n R) (k : ∀ (f : Int → gSt) (h : gH), okT (kS5, (5, f), bu) → isJ (gRe E0 b) h x (kS5, (5, f), bu) → R h → Z E0 b fz F mL_keys Q n none h 655 3145 302 [(0, .ref x)] []) : ∀ (f : Int → gSt) (h : gH), okT (kS5, (5, f), bu) → isJ (gRe E0 b) h x (kS5, (5, f), bu) → R h → Z E0 b fz F mL_keys Q n none h 652 3127 291 [(0, .ref x)] [] := by
  intro f h hok hJ hr
  have C := B.1
  refine z_aload_n 292 C dL_keys_291 rfl rfl ?_
  refine z_iconst 293 C dL_keys_292 rfl ?_
  refine z_iconst 294 C dL_keys_293 rfl ?_
  refine z_iconst 295 C dL_keys_294 rfl ?_
  refine zu_Kno 2 1 0 2 kk295_23 298 655 3145 B dL_keys_295 ⟨⟨by decide, by decide⟩, by decide, by decide⟩ (Nat.le_of_ble_eq_true rfl) rfl rfl rfl hok hJ hr (fun h1 J1 r1 => ?_)
  refine z_iconst 299 C dL_keys_298 rfl ?_
  refine z_icmp_ne 358 302 C dL_keys_299 rfl rfl (by decide) (by decide) (fun c8 => absurd c8 (by decide)) (fun _ => ?_)
  exact k _ _ hok J1 r1
theorem ku302 (B : zB E0 F mL_keys b x n R) (k : ∀ (f : Int → gSt) (h : gH), okT (kS5, (5, f), bu) → isJ (gRe E0 b) h x (kS5, (5, f), bu) → R h → Z E0 b fz F mL_keys Q n none h 658 3163 313 [(0, .ref x)] []) : ∀ (f : Int → gSt) (h : gH), okT (kS5, (5, f), bu) → isJ (gRe E0 b) h x (kS5, (5, f), bu) → R h → Z E0 b fz F mL_keys Q n none h 655 3145 302 [(0, .ref x)] [] := by
  intro f h hok hJ hr
  have C := B.1
  refine z_aload_n 303 C dL_keys_302 rfl rfl ?_
  refine z_iconst 304 C dL_keys_303 rfl ?_
  refine z_iconst 305 C dL_keys_304 rfl ?_
  refine z_iconst 306 C dL_keys_305 rfl ?_
  refine zu_Kno 2 1 1 1 kk306_24 309 658 3163 B dL_keys_306 ⟨⟨by decide, by decide⟩, by decide, by decide⟩ (Nat.le_of_ble_eq_true rfl) rfl rfl rfl hok hJ hr (fun h1 J1 r1 => ?_)
  refine z_iconst 310 C dL_keys_309 rfl ?_
  refine z_icmp_ne 358 313 C dL_keys_310 rfl rfl (by decide) (by decide) (fun c8 => absurd c8 (by decide)) (fun _ => ?_)
  exact k _ _ hok J1 r1
theorem ku313 (B : zB E0 F mL_keys b x n R) (k : ∀ (f : Int → gSt) (h : gH), okT (kS5, (5, f), bu) → isJ (gRe E0 b) h x (kS5, (5, f), bu) → R h → Z E0 b fz F mL_keys Q n none h 678 3283 329 [(0, .ref x)] []) : ∀ (f : Int → gSt) (h : gH), okT (kS5, (5, f), bu) → isJ (gRe E0 b) h x (kS5, (5, f), bu) → R h → Z E0 b fz F mL_keys Q n none h 658 3163 313 [(0, .ref x)] [] := by
  intro f h hok hJ hr
  have C := B.1
  refine z_aload_n 314 C dL_keys_313 rfl rfl ?_
  refine z_iconst 315 C dL_keys_314 rfl ?_
  refine z_iconst 316 C dL_keys_315 rfl ?_
  refine z_iconst 317 C dL_keys_316 rfl ?_
  refine z_iconst 318 C dL_keys_317 rfl ?_
  refine z_iconst 319 C dL_keys_318 rfl ?_
  refine z_bipush 321 C dL_keys_319 (by decide) rfl ?_
  refine z_iconst 322 C dL_keys_321 rfl ?_
  refine z_iconst 323 C dL_keys_322 rfl ?_
  refine zu_isSib 0 1 0 0 2 11 5 3 ks323 (by decide) 326 678 3283 B dL_keys_323 ⟨⟨by decide, by decide⟩, by decide, by decide⟩ (Nat.le_of_ble_eq_true rfl) rfl rfl rfl hok hJ hr (fun h1 J1 r1 => ?_)
  refine z_if_eq 358 329 C dL_keys_326 rfl rfl (by decide) (fun c8 => absurd c8 (by decide)) (fun _ => ?_)
  exact k _ _ hok J1 r1
theorem ku329 (B : zB E0 F mL_keys b x n R) (k : ∀ (f : Int → gSt) (h : gH), okT (kS6, (6, f), bu) → isJ (gRe E0 b) h x (kS6, (6, f), bu) → R h → Z E0 b fz F mL_keys Q n none h 683 3313 342 [(0, .ref x)] []) : ∀ (f : Int → gSt) (h : gH), okT (kS5, (5, f), bu) → isJ (gRe E0 b) h x (kS5, (5, f), bu) → R h → Z E0 b fz F mL_keys Q n none h 678 3283 329 [(0, .ref x)] [] := by
  intro f h hok hJ hr
  have C := B.1
  refine z_aload_n 330 C dL_keys_329 rfl rfl ?_
  refine z_iconst 331 C dL_keys_330 rfl ?_
  refine z_iconst 332 C dL_keys_331 rfl ?_
  refine z_iconst 333 C dL_keys_332 rfl ?_
  refine z_bipush 335 C dL_keys_333 (by decide) rfl ?_
  refine zu_Write 2 1 1 30 2 kS6 kk335_26 338 683 3313 B dL_keys_335 ⟨⟨by decide, by decide⟩, by decide, by decide⟩ (Nat.le_of_ble_eq_true rfl) rfl rfl rfl hok hJ hr (fun h1 o1 J1 r1 => ?_)
  refine z_iconst 339 C dL_keys_338 rfl ?_
  refine z_icmp_ne 358 342 C dL_keys_339 rfl rfl (by decide) (by decide) (fun c8 => absurd c8 (by decide)) (fun _ => ?_)
  exact k _ _ o1 J1 r1
theorem ku342 (B : zB E0 F mL_keys b x n R) (k : ∀ (f : Int → gSt) (h : gH), okT (kS6, (6, f), bu) → isJ (gRe E0 b) h x (kS6, (6, f), bu) → R h → Z E0 b fz F mL_keys Q n none h 703 3433 360 [(0, .ref x)] []) : ∀ (f : Int → gSt) (h : gH), okT (kS6, (6, f), bu) → isJ (gRe E0 b) h x (kS6, (6, f), bu) → R h → Z E0 b fz F mL_keys Q n none h 683 3313 342 [(0, .ref x)] [] := by
  intro f h hok hJ hr
  have C := B.1
  refine z_aload_n 343 C dL_keys_342 rfl rfl ?_
  refine z_iconst 344 C dL_keys_343 rfl ?_
  refine z_iconst 345 C dL_keys_344 rfl ?_
  refine z_iconst 346 C dL_keys_345 rfl ?_
  refine z_iconst 347 C dL_keys_346 rfl ?_
  refine z_iconst 348 C dL_keys_347 rfl ?_
  refine z_bipush 350 C dL_keys_348 (by decide) rfl ?_
  refine z_iconst 351 C dL_keys_350 rfl ?_
  refine z_iconst 352 C dL_keys_351 rfl ?_
  refine zu_isSib 1 1 0 2 1 30 4 2 ks352 (by decide) 355 703 3433 B dL_keys_352 ⟨⟨by decide, by decide⟩, by decide, by decide⟩ (Nat.le_of_ble_eq_true rfl) rfl rfl rfl hok hJ hr (fun h1 J1 r1 => ?_)
  refine z_if_ne 360 358 C dL_keys_355 rfl rfl (by decide) (fun _ => ?_) (fun c8 => absurd c8 (by decide))
  exact k _ _ hok J1 r1
theorem ku360 (B : zB E0 F mL_keys b x n R) (k : ∀ (f : Int → gSt) (h : gH), okT (kS6, (6, f), bu) → isJ (gRe E0 b) h x (kS6, (6, f), bu) → R h → Z E0 b fz F mL_keys Q n none h 708 3463 372 [(0, .ref x)] []) : ∀ (f : Int → gSt) (h : gH), okT (kS6, (6, f), bu) → isJ (gRe E0 b) h x (kS6, (6, f), bu) → R h → Z E0 b fz F mL_keys Q n none h 703 3433 360 [(0, .ref x)] [] := by
  intro f h hok hJ hr
  have C := B.1
  refine z_aload_n 361 C dL_keys_360 rfl rfl ?_
  refine z_iconst 362 C dL_keys_361 rfl ?_
  refine z_iconst 363 C dL_keys_362 rfl ?_
  refine z_iconst 364 C dL_keys_363 rfl ?_
  refine z_iconst 365 C dL_keys_364 rfl ?_
  refine zu_IfP 0 1 1 0 2 kk365_28 368 708 3463 B dL_keys_365 ⟨⟨by decide, by decide⟩, by decide, by decide⟩ (Nat.le_of_ble_eq_true rfl) rfl rfl rfl hok hJ hr (fun h1 J1 r1 => ?_)
  refine z_iconst 369 C dL_keys_368 rfl ?_
  refine z_icmp_ne 556 372 C dL_keys_369 rfl rfl (by decide) (by decide) (fun c8 => absurd c8 (by decide)) (fun _ => ?_)
  exact k _ _ hok J1 r1
theorem ku372 (B : zB E0 F mL_keys b x n R) (k : ∀ (f : Int → gSt) (h : gH), okT (kS6, (6, f), bu) → isJ (gRe E0 b) h x (kS6, (6, f), bu) → R h → Z E0 b fz F mL_keys Q n none h 713 3493 384 [(0, .ref x)] []) : ∀ (f : Int → gSt) (h : gH), okT (kS6, (6, f), bu) → isJ (gRe E0 b) h x (kS6, (6, f), bu) → R h → Z E0 b fz F mL_keys Q n none h 708 3463 372 [(0, .ref x)] [] := by
  intro f h hok hJ hr
  have C := B.1
  refine z_aload_n 373 C dL_keys_372 rfl rfl ?_
  refine z_iconst 374 C dL_keys_373 rfl ?_
  refine z_iconst 375 C dL_keys_374 rfl ?_
  refine z_iconst 376 C dL_keys_375 rfl ?_
  refine z_iconst 377 C dL_keys_376 rfl ?_
  refine zu_IfP 0 1 1 1 1 kk377_29 380 713 3493 B dL_keys_377 ⟨⟨by decide, by decide⟩, by decide, by decide⟩ (Nat.le_of_ble_eq_true rfl) rfl rfl rfl hok hJ hr (fun h1 J1 r1 => ?_)
  refine z_iconst 381 C dL_keys_380 rfl ?_
  refine z_icmp_ne 556 384 C dL_keys_381 rfl rfl (by decide) (by decide) (fun c8 => absurd c8 (by decide)) (fun _ => ?_)
  exact k _ _ hok J1 r1
theorem ku384 (B : zB E0 F mL_keys b x n R) (k : ∀ (f : Int → gSt) (h : gH), okT (kS6, (6, f), bu) → isJ (gRe E0 b) h x (kS6, (6, f), bu) → R h → Z E0 b fz F mL_keys Q n none h 718 3523 396 [(0, .ref x)] []) : ∀ (f : Int → gSt) (h : gH), okT (kS6, (6, f), bu) → isJ (gRe E0 b) h x (kS6, (6, f), bu) → R h → Z E0 b fz F mL_keys Q n none h 713 3493 384 [(0, .ref x)] [] := by
  intro f h hok hJ hr
  have C := B.1
  refine z_aload_n 385 C dL_keys_384 rfl rfl ?_
  refine z_iconst 386 C dL_keys_385 rfl ?_
  refine z_iconst 387 C dL_keys_386 rfl ?_
  refine z_iconst 388 C dL_keys_387 rfl ?_
  refine z_iconst 389 C dL_keys_388 rfl ?_
  refine zu_IfP 0 1 1 2 1 kk389_30 392 718 3523 B dL_keys_389 ⟨⟨by decide, by decide⟩, by decide, by decide⟩ (Nat.le_of_ble_eq_true rfl) rfl rfl rfl hok hJ hr (fun h1 J1 r1 => ?_)
  refine z_iconst 393 C dL_keys_392 rfl ?_
  refine z_icmp_ne 556 396 C dL_keys_393 rfl rfl (by decide) (by decide) (fun c8 => absurd c8 (by decide)) (fun _ => ?_)
  exact k _ _ hok J1 r1
theorem ku396 (B : zB E0 F mL_keys b x n R) (k : ∀ (f : Int → gSt) (h : gH), okT (kS7, (6, f), bu) → isJ (gRe E0 b) h x (kS7, (6, f), bu) → R h → Z E0 b fz F mL_keys Q n none h 723 3553 407 [(0, .ref x)] []) : ∀ (f : Int → gSt) (h : gH), okT (kS6, (6, f), bu) → isJ (gRe E0 b) h x (kS6, (6, f), bu) → R h → Z E0 b fz F mL_keys Q n none h 718 3523 396 [(0, .ref x)] [] := by
  intro f h hok hJ hr
  have C := B.1
  refine z_aload_n 397 C dL_keys_396 rfl rfl ?_
  refine z_iconst 398 C dL_keys_397 rfl ?_
  refine z_iconst 399 C dL_keys_398 rfl ?_
  refine z_iconst 400 C dL_keys_399 rfl ?_
  refine zu_Pull 0 1 1 2 kS7 kk400_31 403 723 3553 B dL_keys_400 ⟨⟨by decide, by decide⟩, by decide, by decide⟩ (Nat.le_of_ble_eq_true rfl) rfl rfl rfl hok hJ hr (fun h1 o1 J1 r1 => ?_)
  refine z_iconst 404 C dL_keys_403 rfl ?_
  refine z_icmp_ne 556 407 C dL_keys_404 rfl rfl (by decide) (by decide) (fun c8 => absurd c8 (by decide)) (fun _ => ?_)
  exact k _ _ o1 J1 r1
theorem ku407 (B : zB E0 F mL_keys b x n R) (k : ∀ (f : Int → gSt) (h : gH), okT (kS7, (6, f), bu) → isJ (gRe E0 b) h x (kS7, (6, f), bu) → R h → Z E0 b fz F mL_keys Q n none h 725 3565 417 [(0, .ref x)] []) : ∀ (f : Int → gSt) (h : gH), okT (kS7, (6, f), bu) → isJ (gRe E0 b) h x (kS7, (6, f), bu) → R h → Z E0 b fz F mL_keys Q n none h 723 3553 407 [(0, .ref x)] [] := by
  intro f h hok hJ hr
  have C := B.1
  refine z_aload_n 408 C dL_keys_407 rfl rfl ?_
  refine z_iconst 409 C dL_keys_408 rfl ?_
  refine z_iconst 410 C dL_keys_409 rfl ?_
  refine zu_Key 1 0 1 kk410_32 413 725 3565 B dL_keys_410 ⟨⟨by decide, by decide⟩, by decide, by decide⟩ (Nat.le_of_ble_eq_true rfl) rfl rfl rfl hok hJ hr (fun h1 J1 r1 => ?_)
  refine z_iconst 414 C dL_keys_413 rfl ?_
  refine z_icmp_ne 556 417 C dL_keys_414 rfl rfl (by decide) (by decide) (fun c8 => absurd c8 (by decide)) (fun _ => ?_)
  exact k _ _ hok J1 r1
theorem ku417 (B : zB E0 F mL_keys b x n R) (k : ∀ (f : Int → gSt) (h : gH), okT (kS7, (6, f), bu) → isJ (gRe E0 b) h x (kS7, (6, f), bu) → R h → Z E0 b fz F mL_keys Q n none h 727 3577 426 [(0, .ref x)] []) : ∀ (f : Int → gSt) (h : gH), okT (kS7, (6, f), bu) → isJ (gRe E0 b) h x (kS7, (6, f), bu) → R h → Z E0 b fz F mL_keys Q n none h 725 3565 417 [(0, .ref x)] [] := by
  intro f h hok hJ hr
  have C := B.1
  refine z_aload_n 418 C dL_keys_417 rfl rfl ?_
  refine z_iconst 419 C dL_keys_418 rfl ?_
  refine z_iconst 420 C dL_keys_419 rfl ?_
  refine zu_Key 1 5 0 kk420_33 423 727 3577 B dL_keys_420 ⟨⟨by decide, by decide⟩, by decide, by decide⟩ (Nat.le_of_ble_eq_true rfl) rfl rfl rfl hok hJ hr (fun h1 J1 r1 => ?_)
  refine z_if_ne 556 426 C dL_keys_423 rfl rfl (by decide) (fun c8 => absurd c8 (by decide)) (fun _ => ?_)
  exact k _ _ hok J1 r1
theorem ku426 (B : zB E0 F mL_keys b x n R) (k : ∀ (f : Int → gSt) (h : gH), okT (kS8, (6, f), bu) → isJ (gRe E0 b) h x (kS8, (6, f), bu) → R h → Z E0 b fz F mL_keys Q n none h 732 3607 436 [(0, .ref x)] []) : ∀ (f : Int → gSt) (h : gH), okT (kS7, (6, f), bu) → isJ (gRe E0 b) h x (kS7, (6, f), bu) → R h → Z E0 b fz F mL_keys Q n none h 727 3577 426 [(0, .ref x)] [] := by
  intro f h hok hJ hr
  have C := B.1
  refine z_aload_n 427 C dL_keys_426 rfl rfl ?_
  refine z_iconst 428 C dL_keys_427 rfl ?_
  refine z_iconst 429 C dL_keys_428 rfl ?_
  refine z_iconst 430 C dL_keys_429 rfl ?_
  refine zu_Pull 2 0 1 0 kS8 kk430_34 433 732 3607 B dL_keys_430 ⟨⟨by decide, by decide⟩, by decide, by decide⟩ (Nat.le_of_ble_eq_true rfl) rfl rfl rfl hok hJ hr (fun h1 o1 J1 r1 => ?_)
  refine z_if_ne 556 436 C dL_keys_433 rfl rfl (by decide) (fun c8 => absurd c8 (by decide)) (fun _ => ?_)
  exact k _ _ o1 J1 r1
theorem ku436 (B : zB E0 F mL_keys b x n R) (k : ∀ (f : Int → gSt) (h : gH), okT (kS8, (6, f), bu) → isJ (gRe E0 b) h x (kS8, (6, f), bu) → R h → Z E0 b fz F mL_keys Q n none h 734 3619 446 [(0, .ref x)] []) : ∀ (f : Int → gSt) (h : gH), okT (kS8, (6, f), bu) → isJ (gRe E0 b) h x (kS8, (6, f), bu) → R h → Z E0 b fz F mL_keys Q n none h 732 3607 436 [(0, .ref x)] [] := by
  intro f h hok hJ hr
  have C := B.1
  refine z_aload_n 437 C dL_keys_436 rfl rfl ?_
  refine z_iconst 438 C dL_keys_437 rfl ?_
  refine z_iconst 439 C dL_keys_438 rfl ?_
  refine zu_Key 1 5 1 kk439_35 442 734 3619 B dL_keys_439 ⟨⟨by decide, by decide⟩, by decide, by decide⟩ (Nat.le_of_ble_eq_true rfl) rfl rfl rfl hok hJ hr (fun h1 J1 r1 => ?_)
  refine z_iconst 443 C dL_keys_442 rfl ?_
  refine z_icmp_ne 556 446 C dL_keys_443 rfl rfl (by decide) (by decide) (fun c8 => absurd c8 (by decide)) (fun _ => ?_)
  exact k _ _ hok J1 r1
theorem ku446 (B : zB E0 F mL_keys b x n R) (k : ∀ (f : Int → gSt) (h : gH), okT (kS8, (6, f), bu) → isJ (gRe E0 b) h x (kS8, (6, f), bu) → R h → Z E0 b fz F mL_keys Q n none h 736 3631 457 [(0, .ref x)] []) : ∀ (f : Int → gSt) (h : gH), okT (kS8, (6, f), bu) → isJ (gRe E0 b) h x (kS8, (6, f), bu) → R h → Z E0 b fz F mL_keys Q n none h 734 3619 446 [(0, .ref x)] [] := by
  intro f h hok hJ hr
  have C := B.1
  refine z_aload_n 447 C dL_keys_446 rfl rfl ?_
  refine z_iconst 448 C dL_keys_447 rfl ?_
  refine z_bipush 450 C dL_keys_448 (by decide) rfl ?_
  refine zu_Key 1 6 1 kk450_36 453 736 3631 B dL_keys_450 ⟨⟨by decide, by decide⟩, by decide, by decide⟩ (Nat.le_of_ble_eq_true rfl) rfl rfl rfl hok hJ hr (fun h1 J1 r1 => ?_)
  refine z_iconst 454 C dL_keys_453 rfl ?_
  refine z_icmp_ne 556 457 C dL_keys_454 rfl rfl (by decide) (by decide) (fun c8 => absurd c8 (by decide)) (fun _ => ?_)
  exact k _ _ hok J1 r1
theorem ku457 (B : zB E0 F mL_keys b x n R) (k : ∀ (f : Int → gSt) (h : gH), okT (kS8, (6, f), bu) → isJ (gRe E0 b) h x (kS8, (6, f), bu) → R h → Z E0 b fz F mL_keys Q n none h 738 3643 467 [(0, .ref x)] []) : ∀ (f : Int → gSt) (h : gH), okT (kS8, (6, f), bu) → isJ (gRe E0 b) h x (kS8, (6, f), bu) → R h → Z E0 b fz F mL_keys Q n none h 736 3631 457 [(0, .ref x)] [] := by
  intro f h hok hJ hr
  have C := B.1
  refine z_aload_n 458 C dL_keys_457 rfl rfl ?_
  refine z_iconst 459 C dL_keys_458 rfl ?_
  refine z_iconst 460 C dL_keys_459 rfl ?_
  refine zu_Key 1 3 1 kk460_37 463 738 3643 B dL_keys_460 ⟨⟨by decide, by decide⟩, by decide, by decide⟩ (Nat.le_of_ble_eq_true rfl) rfl rfl rfl hok hJ hr (fun h1 J1 r1 => ?_)
  refine z_iconst 464 C dL_keys_463 rfl ?_
  refine z_icmp_ne 556 467 C dL_keys_464 rfl rfl (by decide) (by decide) (fun c8 => absurd c8 (by decide)) (fun _ => ?_)
  exact k _ _ hok J1 r1
theorem ku467 (B : zB E0 F mL_keys b x n R) (k : ∀ (f : Int → gSt) (h : gH), okT (kS8, (6, f), bu) → isJ (gRe E0 b) h x (kS8, (6, f), bu) → R h → Z E0 b fz F mL_keys Q n none h 740 3655 478 [(0, .ref x)] []) : ∀ (f : Int → gSt) (h : gH), okT (kS8, (6, f), bu) → isJ (gRe E0 b) h x (kS8, (6, f), bu) → R h → Z E0 b fz F mL_keys Q n none h 738 3643 467 [(0, .ref x)] [] := by
  intro f h hok hJ hr
  have C := B.1
  refine z_aload_n 468 C dL_keys_467 rfl rfl ?_
  refine z_iconst 469 C dL_keys_468 rfl ?_
  refine z_bipush 471 C dL_keys_469 (by decide) rfl ?_
  refine zu_Key 1 7 3 kk471_38 474 740 3655 B dL_keys_471 ⟨⟨by decide, by decide⟩, by decide, by decide⟩ (Nat.le_of_ble_eq_true rfl) rfl rfl rfl hok hJ hr (fun h1 J1 r1 => ?_)
  refine z_iconst 475 C dL_keys_474 rfl ?_
  refine z_icmp_ne 556 478 C dL_keys_475 rfl rfl (by decide) (by decide) (fun c8 => absurd c8 (by decide)) (fun _ => ?_)
  exact k _ _ hok J1 r1
theorem ku478 (B : zB E0 F mL_keys b x n R) (k : ∀ (f : Int → gSt) (h : gH), okT (kS8, (6, f), bu) → isJ (gRe E0 b) h x (kS8, (6, f), bu) → R h → Z E0 b fz F mL_keys Q n none h 740 3655 487 [(0, .ref x)] []) : ∀ (f : Int → gSt) (h : gH), okT (kS8, (6, f), bu) → isJ (gRe E0 b) h x (kS8, (6, f), bu) → R h → Z E0 b fz F mL_keys Q n none h 740 3655 478 [(0, .ref x)] [] := by
  intro f h hok hJ hr
  have C := B.1
  refine z_aload_n 479 C dL_keys_478 rfl rfl ?_
  refine zu_Agr 482 B dL_keys_479 ⟨⟨by decide, by decide⟩, by decide, by decide⟩ (Nat.le_of_ble_eq_true rfl) rfl hok hJ ?_
  refine z_dconst1 483 C dL_keys_482 rfl ?_
  refine z_dcmp (c := 0) 484 C dL_keys_483 kd483 rfl ?_
  refine z_if_ne 556 487 C dL_keys_484 rfl rfl (by decide) (fun c8 => absurd c8 (by decide)) (fun _ => ?_)
  exact k _ _ hok hJ hr
theorem ku487 (B : zB E0 F mL_keys b x n R) (k : ∀ (f : Int → gSt) (h : gH), okT (kS8, (6, f), bu) → isJ (gRe E0 b) h x (kS8, (6, f), bu) → R h → Z E0 b fz F mL_keys Q n none h 742 3667 496 [(0, .ref x)] []) : ∀ (f : Int → gSt) (h : gH), okT (kS8, (6, f), bu) → isJ (gRe E0 b) h x (kS8, (6, f), bu) → R h → Z E0 b fz F mL_keys Q n none h 740 3655 487 [(0, .ref x)] [] := by
  intro f h hok hJ hr
  have C := B.1
  refine z_aload_n 488 C dL_keys_487 rfl rfl ?_
  refine z_iconst 489 C dL_keys_488 rfl ?_
  refine z_iconst 490 C dL_keys_489 rfl ?_
  refine zu_Why 0 1 0 kk490_40 493 742 3667 B dL_keys_490 ⟨⟨by decide, by decide⟩, by decide, by decide⟩ (Nat.le_of_ble_eq_true rfl) rfl rfl rfl hok hJ hr (fun h1 J1 r1 => ?_)
  refine z_if_ne 556 496 C dL_keys_493 rfl rfl (by decide) (fun c8 => absurd c8 (by decide)) (fun _ => ?_)
  exact k _ _ hok J1 r1
theorem ku496 (B : zB E0 F mL_keys b x n R) (k : ∀ (f : Int → gSt) (h : gH), okT (kS8, (6, f), bu) → isJ (gRe E0 b) h x (kS8, (6, f), bu) → R h → Z E0 b fz F mL_keys Q n none h 744 3679 506 [(0, .ref x)] []) : ∀ (f : Int → gSt) (h : gH), okT (kS8, (6, f), bu) → isJ (gRe E0 b) h x (kS8, (6, f), bu) → R h → Z E0 b fz F mL_keys Q n none h 742 3667 496 [(0, .ref x)] [] := by
  intro f h hok hJ hr
  have C := B.1
  refine z_aload_n 497 C dL_keys_496 rfl rfl ?_
  refine z_iconst 498 C dL_keys_497 rfl ?_
  refine z_iconst 499 C dL_keys_498 rfl ?_
  refine zu_Why 2 1 1 kk499_41 502 744 3679 B dL_keys_499 ⟨⟨by decide, by decide⟩, by decide, by decide⟩ (Nat.le_of_ble_eq_true rfl) rfl rfl rfl hok hJ hr (fun h1 J1 r1 => ?_)
  refine z_iconst 503 C dL_keys_502 rfl ?_
  refine z_icmp_ne 556 506 C dL_keys_503 rfl rfl (by decide) (by decide) (fun c8 => absurd c8 (by decide)) (fun _ => ?_)
  exact k _ _ hok J1 r1
theorem ku506 (B : zB E0 F mL_keys b x n R) (k : ∀ (f : Int → gSt) (h : gH), okT (kS8, (6, f), bu) → isJ (gRe E0 b) h x (kS8, (6, f), bu) → R h → Z E0 b fz F mL_keys Q n none h 746 3691 515 [(0, .ref x)] []) : ∀ (f : Int → gSt) (h : gH), okT (kS8, (6, f), bu) → isJ (gRe E0 b) h x (kS8, (6, f), bu) → R h → Z E0 b fz F mL_keys Q n none h 744 3679 506 [(0, .ref x)] [] := by
  intro f h hok hJ hr
  have C := B.1
  refine z_aload_n 507 C dL_keys_506 rfl rfl ?_
  refine z_iconst 508 C dL_keys_507 rfl ?_
  refine z_iconst 509 C dL_keys_508 rfl ?_
  refine zu_Why 3 1 0 kk509_42 512 746 3691 B dL_keys_509 ⟨⟨by decide, by decide⟩, by decide, by decide⟩ (Nat.le_of_ble_eq_true rfl) rfl rfl rfl hok hJ hr (fun h1 J1 r1 => ?_)
  refine z_if_ne 556 515 C dL_keys_512 rfl rfl (by decide) (fun c8 => absurd c8 (by decide)) (fun _ => ?_)
  exact k _ _ hok J1 r1
theorem ku515 (B : zB E0 F mL_keys b x n R) (k : ∀ (f : Int → gSt) (h : gH), okT (kS8, (6, f), bu) → isJ (gRe E0 b) h x (kS8, (6, f), bu) → R h → Z E0 b fz F mL_keys Q n none h 751 3721 529 [(0, .ref x)] []) : ∀ (f : Int → gSt) (h : gH), okT (kS8, (6, f), bu) → isJ (gRe E0 b) h x (kS8, (6, f), bu) → R h → Z E0 b fz F mL_keys Q n none h 746 3691 515 [(0, .ref x)] [] := by
  intro f h hok hJ hr
  have C := B.1
  refine z_aload_n 516 C dL_keys_515 rfl rfl ?_
  refine z_iconst 517 C dL_keys_516 rfl ?_
  refine z_iconst 518 C dL_keys_517 rfl ?_
  refine z_iconst 519 C dL_keys_518 rfl ?_
  refine z_iconst 520 C dL_keys_519 rfl ?_
  refine z_iconst 521 C dL_keys_520 rfl ?_
  refine zu_told 5 2 1 0 0 (-13, 0, _) 524 751 3721 (kt521 _ _ _) B dL_keys_521 ⟨⟨by decide, by decide⟩, by decide, by decide⟩ (Nat.le_of_ble_eq_true rfl) rfl rfl rfl hok hJ hr (by decide) (by decide) (by decide) (by decide) (by decide) (fun h1 J1 r1 => ?_)
  refine z_val (-13) (tO_r (-13) (by decide)) ?_
  refine z_bipush 526 C dL_keys_524 (by decide) rfl ?_
  refine z_icmp_ne 556 529 C dL_keys_526 rfl rfl (by decide) (by decide) (fun c8 => absurd c8 (by decide)) (fun _ => ?_)
  exact k _ _ hok J1 r1
theorem ku529 (B : zB E0 F mL_keys b x n R) (k : ∀ (f : Int → gSt) (h : gH), okT (kS8, (6, f), bu) → isJ (gRe E0 b) h x (kS8, (6, f), bu) → R h → Z E0 b fz F mL_keys Q n none h 752 3727 538 [(0, .ref x)] []) : ∀ (f : Int → gSt) (h : gH), okT (kS8, (6, f), bu) → isJ (gRe E0 b) h x (kS8, (6, f), bu) → R h → Z E0 b fz F mL_keys Q n none h 751 3721 529 [(0, .ref x)] [] := by
  intro f h hok hJ hr
  have C := B.1
  refine z_aload_n 530 C dL_keys_529 rfl rfl ?_
  refine z_iconst 531 C dL_keys_530 rfl ?_
  refine zu_Cnt 2 4 kk531_44 534 752 3727 B dL_keys_531 ⟨⟨by decide, by decide⟩, by decide, by decide⟩ (Nat.le_of_ble_eq_true rfl) rfl rfl rfl hok hJ hr (fun h1 J1 r1 => ?_)
  refine z_iconst 535 C dL_keys_534 rfl ?_
  refine z_icmp_ne 556 538 C dL_keys_535 rfl rfl (by decide) (by decide) (fun c8 => absurd c8 (by decide)) (fun _ => ?_)
  exact k _ _ hok J1 r1
theorem ku538 (B : zB E0 F mL_keys b x n R) (k : ∀ (f : Int → gSt) (h : gH), okT (kS8, (6, f), bu) → isJ (gRe E0 b) h x (kS8, (6, f), bu) → R h → Z E0 b fz F mL_keys Q n none h 753 3733 547 [(0, .ref x)] []) : ∀ (f : Int → gSt) (h : gH), okT (kS8, (6, f), bu) → isJ (gRe E0 b) h x (kS8, (6, f), bu) → R h → Z E0 b fz F mL_keys Q n none h 752 3727 538 [(0, .ref x)] [] := by
  intro f h hok hJ hr
  have C := B.1
  refine z_aload_n 539 C dL_keys_538 rfl rfl ?_
  refine z_iconst 540 C dL_keys_539 rfl ?_
  refine zu_Cnt 3 3 kk540_45 543 753 3733 B dL_keys_540 ⟨⟨by decide, by decide⟩, by decide, by decide⟩ (Nat.le_of_ble_eq_true rfl) rfl rfl rfl hok hJ hr (fun h1 J1 r1 => ?_)
  refine z_iconst 544 C dL_keys_543 rfl ?_
  refine z_icmp_ne 556 547 C dL_keys_544 rfl rfl (by decide) (by decide) (fun c8 => absurd c8 (by decide)) (fun _ => ?_)
  exact k _ _ hok J1 r1
theorem ku547 (B : zB E0 F mL_keys b x n R) (k : ∀ (f : Int → gSt) (h : gH), okT (kS8, (6, f), bu) → isJ (gRe E0 b) h x (kS8, (6, f), bu) → R h → Z E0 b fz F mL_keys Q n none h 754 3739 558 [(0, .ref x)] []) : ∀ (f : Int → gSt) (h : gH), okT (kS8, (6, f), bu) → isJ (gRe E0 b) h x (kS8, (6, f), bu) → R h → Z E0 b fz F mL_keys Q n none h 753 3733 547 [(0, .ref x)] [] := by
  intro f h hok hJ hr
  have C := B.1
  refine z_aload_n 548 C dL_keys_547 rfl rfl ?_
  refine z_iconst 549 C dL_keys_548 rfl ?_
  refine zu_Cnt 4 2 kk549_46 552 754 3739 B dL_keys_549 ⟨⟨by decide, by decide⟩, by decide, by decide⟩ (Nat.le_of_ble_eq_true rfl) rfl rfl rfl hok hJ hr (fun h1 J1 r1 => ?_)
  refine z_iconst 553 C dL_keys_552 rfl ?_
  refine z_icmp_eq 558 556 C dL_keys_553 rfl rfl (by decide) (by decide) (fun _ => ?_) (fun c8 => absurd c8 (by decide))
  exact k _ _ hok J1 r1
theorem ku558 (B : zB E0 F mL_keys b x n R) (k : ∀ (f : Int → gSt) (h : gH), okT (kS8, (6, f), bu) → isJ (gRe E0 b) h x (kS8, (6, f), bu) → R h → Z E0 b fz F mL_keys Q n none h 3916 22711 565 [(0, .ref x)] []) : ∀ (f : Int → gSt) (h : gH), okT (kS8, (6, f), bu) → isJ (gRe E0 b) h x (kS8, (6, f), bu) → R h → Z E0 b fz F mL_keys Q n none h 754 3739 558 [(0, .ref x)] [] := by
  intro f h hok hJ hr
  have C := B.1
  refine z_aload_n 559 C dL_keys_558 rfl rfl ?_
  refine zu_refused 562 3916 22711 B dL_keys_559 ⟨⟨by decide, by decide⟩, by decide, by decide⟩ (Nat.le_of_ble_eq_true rfl) rfl rfl rfl hok hJ hr (fun h1 J1 r1 => ?_)
  refine z_if_eq 689 565 C dL_keys_562 rfl rfl (by decide) (fun c8 => absurd c8 (by decide)) (fun _ => ?_)
  exact k _ _ hok J1 r1
theorem ku565 (B : zB E0 F mL_keys b x n R) (k : ∀ (f : Int → gSt) (h : gH), okT (kS9, (6, f), bu) → isJ (gRe E0 b) h x (kS9, (6, f), bu) → R h → Z E0 b fz F mL_keys Q n none h 3919 22729 575 [(0, .ref x)] []) : ∀ (f : Int → gSt) (h : gH), okT (kS8, (6, f), bu) → isJ (gRe E0 b) h x (kS8, (6, f), bu) → R h → Z E0 b fz F mL_keys Q n none h 3916 22711 565 [(0, .ref x)] [] := by
  intro f h hok hJ hr
  have C := B.1
  refine z_aload_n 566 C dL_keys_565 rfl rfl ?_
  refine z_iconst 567 C dL_keys_566 rfl ?_
  refine z_iconst 568 C dL_keys_567 rfl ?_
  refine zu_Forget 0 1 2 kS9 kk568_47 571 3919 22729 B dL_keys_568 ⟨⟨by decide, by decide⟩, by decide, by decide⟩ (Nat.le_of_ble_eq_true rfl) rfl rfl rfl hok hJ hr (fun h1 o1 J1 r1 => ?_)
  refine z_iconst 572 C dL_keys_571 rfl ?_
  refine z_icmp_ne 689 575 C dL_keys_572 rfl rfl (by decide) (by decide) (fun c8 => absurd c8 (by decide)) (fun _ => ?_)
  exact k _ _ o1 J1 r1
theorem ku575 (B : zB E0 F mL_keys b x n R) (k : ∀ (f : Int → gSt) (h : gH), okT (kS9, (6, f), bu) → isJ (gRe E0 b) h x (kS9, (6, f), bu) → R h → Z E0 b fz F mL_keys Q n none h 3922 22747 585 [(0, .ref x)] []) : ∀ (f : Int → gSt) (h : gH), okT (kS9, (6, f), bu) → isJ (gRe E0 b) h x (kS9, (6, f), bu) → R h → Z E0 b fz F mL_keys Q n none h 3919 22729 575 [(0, .ref x)] [] := by
  intro f h hok hJ hr
  have C := B.1
  refine z_aload_n 576 C dL_keys_575 rfl rfl ?_
  refine z_iconst 577 C dL_keys_576 rfl ?_
  refine z_iconst 578 C dL_keys_577 rfl ?_
  refine z_iconst 579 C dL_keys_578 rfl ?_
  refine zu_Vec 0 1 0 0 kk579_48 582 3922 22747 B dL_keys_579 ⟨⟨by decide, by decide⟩, by decide, by decide⟩ (Nat.le_of_ble_eq_true rfl) rfl rfl rfl hok hJ hr (fun h1 J1 r1 => ?_)
  refine z_if_ne 689 585 C dL_keys_582 rfl rfl (by decide) (fun c8 => absurd c8 (by decide)) (fun _ => ?_)
  exact k _ _ hok J1 r1
theorem ku585 (B : zB E0 F mL_keys b x n R) (k : ∀ (f : Int → gSt) (h : gH), okT (kS9, (6, f), bu) → isJ (gRe E0 b) h x (kS9, (6, f), bu) → R h → Z E0 b fz F mL_keys Q n none h 3925 22765 595 [(0, .ref x)] []) : ∀ (f : Int → gSt) (h : gH), okT (kS9, (6, f), bu) → isJ (gRe E0 b) h x (kS9, (6, f), bu) → R h → Z E0 b fz F mL_keys Q n none h 3922 22747 585 [(0, .ref x)] [] := by
  intro f h hok hJ hr
  have C := B.1
  refine z_aload_n 586 C dL_keys_585 rfl rfl ?_
  refine z_iconst 587 C dL_keys_586 rfl ?_
  refine z_iconst 588 C dL_keys_587 rfl ?_
  refine z_iconst 589 C dL_keys_588 rfl ?_
  refine zu_Kno 2 1 0 0 kk589_49 592 3925 22765 B dL_keys_589 ⟨⟨by decide, by decide⟩, by decide, by decide⟩ (Nat.le_of_ble_eq_true rfl) rfl rfl rfl hok hJ hr (fun h1 J1 r1 => ?_)
  refine z_if_ne 689 595 C dL_keys_592 rfl rfl (by decide) (fun c8 => absurd c8 (by decide)) (fun _ => ?_)
  exact k _ _ hok J1 r1
theorem ku595 (B : zB E0 F mL_keys b x n R) (k : ∀ (f : Int → gSt) (h : gH), okT (kS9, (6, f), bu) → isJ (gRe E0 b) h x (kS9, (6, f), bu) → R h → Z E0 b fz F mL_keys Q n none h 3928 22783 605 [(0, .ref x)] []) : ∀ (f : Int → gSt) (h : gH), okT (kS9, (6, f), bu) → isJ (gRe E0 b) h x (kS9, (6, f), bu) → R h → Z E0 b fz F mL_keys Q n none h 3925 22765 595 [(0, .ref x)] [] := by
  intro f h hok hJ hr
  have C := B.1
  refine z_aload_n 596 C dL_keys_595 rfl rfl ?_
  refine z_iconst 597 C dL_keys_596 rfl ?_
  refine z_iconst 598 C dL_keys_597 rfl ?_
  refine z_iconst 599 C dL_keys_598 rfl ?_
  refine zu_Kno 0 1 0 0 kk599_50 602 3928 22783 B dL_keys_599 ⟨⟨by decide, by decide⟩, by decide, by decide⟩ (Nat.le_of_ble_eq_true rfl) rfl rfl rfl hok hJ hr (fun h1 J1 r1 => ?_)
  refine z_if_ne 689 605 C dL_keys_602 rfl rfl (by decide) (fun c8 => absurd c8 (by decide)) (fun _ => ?_)
  exact k _ _ hok J1 r1
theorem ku605 (B : zB E0 F mL_keys b x n R) (k : ∀ (f : Int → gSt) (h : gH), okT (kS9, (6, f), bu) → isJ (gRe E0 b) h x (kS9, (6, f), bu) → R h → Z E0 b fz F mL_keys Q n none h 3930 22795 615 [(0, .ref x)] []) : ∀ (f : Int → gSt) (h : gH), okT (kS9, (6, f), bu) → isJ (gRe E0 b) h x (kS9, (6, f), bu) → R h → Z E0 b fz F mL_keys Q n none h 3928 22783 605 [(0, .ref x)] [] := by
  intro f h hok hJ hr
  have C := B.1
  refine z_aload_n 606 C dL_keys_605 rfl rfl ?_
  refine z_iconst 607 C dL_keys_606 rfl ?_
  refine z_iconst 608 C dL_keys_607 rfl ?_
  refine zu_Key 1 4 2 kk608_51 611 3930 22795 B dL_keys_608 ⟨⟨by decide, by decide⟩, by decide, by decide⟩ (Nat.le_of_ble_eq_true rfl) rfl rfl rfl hok hJ hr (fun h1 J1 r1 => ?_)
  refine z_iconst 612 C dL_keys_611 rfl ?_
  refine z_icmp_ne 689 615 C dL_keys_612 rfl rfl (by decide) (by decide) (fun c8 => absurd c8 (by decide)) (fun _ => ?_)
  exact k _ _ hok J1 r1
theorem ku615 (B : zB E0 F mL_keys b x n R) (k : ∀ (f : Int → gSt) (h : gH), okT (kS9, (6, f), bu) → isJ (gRe E0 b) h x (kS9, (6, f), bu) → R h → Z E0 b fz F mL_keys Q n none h 3931 22801 625 [(0, .ref x)] []) : ∀ (f : Int → gSt) (h : gH), okT (kS9, (6, f), bu) → isJ (gRe E0 b) h x (kS9, (6, f), bu) → R h → Z E0 b fz F mL_keys Q n none h 3930 22795 615 [(0, .ref x)] [] := by
  intro f h hok hJ hr
  have C := B.1
  refine z_aload_n 616 C dL_keys_615 rfl rfl ?_
  refine z_bipush 618 C dL_keys_616 (by decide) rfl ?_
  refine zu_Cnt 6 1 kk618_52 621 3931 22801 B dL_keys_618 ⟨⟨by decide, by decide⟩, by decide, by decide⟩ (Nat.le_of_ble_eq_true rfl) rfl rfl rfl hok hJ hr (fun h1 J1 r1 => ?_)
  refine z_iconst 622 C dL_keys_621 rfl ?_
  refine z_icmp_ne 689 625 C dL_keys_622 rfl rfl (by decide) (by decide) (fun c8 => absurd c8 (by decide)) (fun _ => ?_)
  exact k _ _ hok J1 r1
theorem ku625 (B : zB E0 F mL_keys b x n R) (k : ∀ (f : Int → gSt) (h : gH), okT (kS10, (6, f), bu) → isJ (gRe E0 b) h x (kS10, (6, f), bu) → R h → Z E0 b fz F mL_keys Q n none h 3936 22831 637 [(0, .ref x)] []) : ∀ (f : Int → gSt) (h : gH), okT (kS9, (6, f), bu) → isJ (gRe E0 b) h x (kS9, (6, f), bu) → R h → Z E0 b fz F mL_keys Q n none h 3931 22801 625 [(0, .ref x)] [] := by
  intro f h hok hJ hr
  have C := B.1
  refine z_aload_n 626 C dL_keys_625 rfl rfl ?_
  refine z_iconst 627 C dL_keys_626 rfl ?_
  refine z_iconst 628 C dL_keys_627 rfl ?_
  refine z_iconst 629 C dL_keys_628 rfl ?_
  refine z_bipush 631 C dL_keys_629 (by decide) rfl ?_
  refine zu_Write 0 1 2 99 0 kS10 kk631_53 634 3936 22831 B dL_keys_631 ⟨⟨by decide, by decide⟩, by decide, by decide⟩ (Nat.le_of_ble_eq_true rfl) rfl rfl rfl hok hJ hr (fun h1 o1 J1 r1 => ?_)
  refine z_if_ne 689 637 C dL_keys_634 rfl rfl (by decide) (fun c8 => absurd c8 (by decide)) (fun _ => ?_)
  exact k _ _ o1 J1 r1
theorem ku637 (B : zB E0 F mL_keys b x n R) (k : ∀ (f : Int → gSt) (h : gH), okT (kS10, (6, f), bu) → isJ (gRe E0 b) h x (kS10, (6, f), bu) → R h → Z E0 b fz F mL_keys Q n none h 3956 22951 653 [(0, .ref x)] []) : ∀ (f : Int → gSt) (h : gH), okT (kS10, (6, f), bu) → isJ (gRe E0 b) h x (kS10, (6, f), bu) → R h → Z E0 b fz F mL_keys Q n none h 3936 22831 637 [(0, .ref x)] [] := by
  intro f h hok hJ hr
  have C := B.1
  refine z_aload_n 638 C dL_keys_637 rfl rfl ?_
  refine z_iconst 639 C dL_keys_638 rfl ?_
  refine z_iconst 640 C dL_keys_639 rfl ?_
  refine z_iconst 641 C dL_keys_640 rfl ?_
  refine z_iconst 642 C dL_keys_641 rfl ?_
  refine z_iconst 643 C dL_keys_642 rfl ?_
  refine z_bipush 645 C dL_keys_643 (by decide) rfl ?_
  refine z_iconst 646 C dL_keys_645 rfl ?_
  refine z_iconst 647 C dL_keys_646 rfl ?_
  refine zu_isSib 2 1 0 0 1 99 1 4 ks647 (by decide) 650 3956 22951 B dL_keys_647 ⟨⟨by decide, by decide⟩, by decide, by decide⟩ (Nat.le_of_ble_eq_true rfl) rfl rfl rfl hok hJ hr (fun h1 J1 r1 => ?_)
  refine z_if_eq 689 653 C dL_keys_650 rfl rfl (by decide) (fun c8 => absurd c8 (by decide)) (fun _ => ?_)
  exact k _ _ hok J1 r1
theorem ku653 (B : zB E0 F mL_keys b x n R) (k : ∀ (f : Int → gSt) (h : gH), okT (kS10, (6, f), bu) → isJ (gRe E0 b) h x (kS10, (6, f), bu) → R h → Z E0 b fz F mL_keys Q n none h 3976 23071 670 [(0, .ref x)] []) : ∀ (f : Int → gSt) (h : gH), okT (kS10, (6, f), bu) → isJ (gRe E0 b) h x (kS10, (6, f), bu) → R h → Z E0 b fz F mL_keys Q n none h 3956 22951 653 [(0, .ref x)] [] := by
  intro f h hok hJ hr
  have C := B.1
  refine z_aload_n 654 C dL_keys_653 rfl rfl ?_
  refine z_iconst 655 C dL_keys_654 rfl ?_
  refine z_iconst 656 C dL_keys_655 rfl ?_
  refine z_iconst 657 C dL_keys_656 rfl ?_
  refine z_iconst 658 C dL_keys_657 rfl ?_
  refine z_iconst 659 C dL_keys_658 rfl ?_
  refine z_bipush 661 C dL_keys_659 (by decide) rfl ?_
  refine z_iconst 662 C dL_keys_661 rfl ?_
  refine z_bipush 664 C dL_keys_662 (by decide) rfl ?_
  refine zu_isSib 2 1 1 2 1 30 4 7 ks664 (by decide) 667 3976 23071 B dL_keys_664 ⟨⟨by decide, by decide⟩, by decide, by decide⟩ (Nat.le_of_ble_eq_true rfl) rfl rfl rfl hok hJ hr (fun h1 J1 r1 => ?_)
  refine z_if_eq 689 670 C dL_keys_667 rfl rfl (by decide) (fun c8 => absurd c8 (by decide)) (fun _ => ?_)
  exact k _ _ hok J1 r1
theorem ku670 (B : zB E0 F mL_keys b x n R) (k : ∀ (f : Int → gSt) (h : gH), okT (kS10, (6, f), bu) → isJ (gRe E0 b) h x (kS10, (6, f), bu) → R h → Z E0 b fz F mL_keys Q n none h 3978 23083 680 [(0, .ref x)] []) : ∀ (f : Int → gSt) (h : gH), okT (kS10, (6, f), bu) → isJ (gRe E0 b) h x (kS10, (6, f), bu) → R h → Z E0 b fz F mL_keys Q n none h 3976 23071 670 [(0, .ref x)] [] := by
  intro f h hok hJ hr
  have C := B.1
  refine z_aload_n 671 C dL_keys_670 rfl rfl ?_
  refine z_iconst 672 C dL_keys_671 rfl ?_
  refine z_iconst 673 C dL_keys_672 rfl ?_
  refine zu_Why 0 1 1 kk673_56 676 3978 23083 B dL_keys_673 ⟨⟨by decide, by decide⟩, by decide, by decide⟩ (Nat.le_of_ble_eq_true rfl) rfl rfl rfl hok hJ hr (fun h1 J1 r1 => ?_)
  refine z_iconst 677 C dL_keys_676 rfl ?_
  refine z_icmp_ne 689 680 C dL_keys_677 rfl rfl (by decide) (by decide) (fun c8 => absurd c8 (by decide)) (fun _ => ?_)
  exact k _ _ hok J1 r1
theorem ku680 (B : zB E0 F mL_keys b x n R) (k : ∀ (f : Int → gSt) (h : gH), okT (kS10, (6, f), bu) → isJ (gRe E0 b) h x (kS10, (6, f), bu) → R h → Z E0 b fz F mL_keys Q n none h 3980 23095 691 [(0, .ref x)] []) : ∀ (f : Int → gSt) (h : gH), okT (kS10, (6, f), bu) → isJ (gRe E0 b) h x (kS10, (6, f), bu) → R h → Z E0 b fz F mL_keys Q n none h 3978 23083 680 [(0, .ref x)] [] := by
  intro f h hok hJ hr
  have C := B.1
  refine z_aload_n 681 C dL_keys_680 rfl rfl ?_
  refine z_iconst 682 C dL_keys_681 rfl ?_
  refine z_iconst 683 C dL_keys_682 rfl ?_
  refine zu_Why 1 1 0 kk683_57 686 3980 23095 B dL_keys_683 ⟨⟨by decide, by decide⟩, by decide, by decide⟩ (Nat.le_of_ble_eq_true rfl) rfl rfl rfl hok hJ hr (fun h1 J1 r1 => ?_)
  refine z_if_eq 691 689 C dL_keys_686 rfl rfl (by decide) (fun _ => ?_) (fun c8 => absurd c8 (by decide))
  exact k _ _ hok J1 r1
theorem ku691 (B : zB E0 F mL_keys b x n R) (k : ∀ (f : Int → gSt) (h : gH), okT (kS11, (6, f), bu) → isJ (gRe E0 b) h x (kS11, (6, f), bu) → R h → Z E0 b fz F mL_keys Q n none h 3985 23125 704 [(0, .ref x)] []) : ∀ (f : Int → gSt) (h : gH), okT (kS10, (6, f), bu) → isJ (gRe E0 b) h x (kS10, (6, f), bu) → R h → Z E0 b fz F mL_keys Q n none h 3980 23095 691 [(0, .ref x)] [] := by
  intro f h hok hJ hr
  have C := B.1
  refine z_aload_n 692 C dL_keys_691 rfl rfl ?_
  refine z_iconst 693 C dL_keys_692 rfl ?_
  refine z_iconst 694 C dL_keys_693 rfl ?_
  refine z_iconst 695 C dL_keys_694 rfl ?_
  refine z_iconst 696 C dL_keys_695 rfl ?_
  refine zu_Join 3 1 2 2 29 kS11 kk696_58 699 3985 23125 B dL_keys_696 ⟨⟨by decide, by decide⟩, by decide, by decide⟩ (Nat.le_of_ble_eq_true rfl) rfl rfl rfl hok hJ hr (fun h1 o1 J1 r1 => ?_)
  refine z_bipush 701 C dL_keys_699 (by decide) rfl ?_
  refine z_icmp_ne 833 704 C dL_keys_701 rfl rfl (by decide) (by decide) (fun c8 => absurd c8 (by decide)) (fun _ => ?_)
  exact k _ _ o1 J1 r1
theorem ku704 (B : zB E0 F mL_keys b x n R) (k : ∀ (f : Int → gSt) (h : gH), okT (kS11, (6, f), bu) → isJ (gRe E0 b) h x (kS11, (6, f), bu) → R h → Z E0 b fz F mL_keys Q n none h 3987 23137 714 [(0, .ref x)] []) : ∀ (f : Int → gSt) (h : gH), okT (kS11, (6, f), bu) → isJ (gRe E0 b) h x (kS11, (6, f), bu) → R h → Z E0 b fz F mL_keys Q n none h 3985 23125 704 [(0, .ref x)] [] := by
  intro f h hok hJ hr
  have C := B.1
  refine z_aload_n 705 C dL_keys_704 rfl rfl ?_
  refine z_iconst 706 C dL_keys_705 rfl ?_
  refine z_iconst 707 C dL_keys_706 rfl ?_
  refine zu_Key 1 2 1 kk707_59 710 3987 23137 B dL_keys_707 ⟨⟨by decide, by decide⟩, by decide, by decide⟩ (Nat.le_of_ble_eq_true rfl) rfl rfl rfl hok hJ hr (fun h1 J1 r1 => ?_)
  refine z_iconst 711 C dL_keys_710 rfl ?_
  refine z_icmp_ne 833 714 C dL_keys_711 rfl rfl (by decide) (by decide) (fun c8 => absurd c8 (by decide)) (fun _ => ?_)
  exact k _ _ hok J1 r1
theorem ku714 (B : zB E0 F mL_keys b x n R) (k : ∀ (f : Int → gSt) (h : gH), okT (kS11, (6, f), bu) → isJ (gRe E0 b) h x (kS11, (6, f), bu) → R h → Z E0 b fz F mL_keys Q n none h 4007 23257 731 [(0, .ref x)] []) : ∀ (f : Int → gSt) (h : gH), okT (kS11, (6, f), bu) → isJ (gRe E0 b) h x (kS11, (6, f), bu) → R h → Z E0 b fz F mL_keys Q n none h 3987 23137 714 [(0, .ref x)] [] := by
  intro f h hok hJ hr
  have C := B.1
  refine z_aload_n 715 C dL_keys_714 rfl rfl ?_
  refine z_iconst 716 C dL_keys_715 rfl ?_
  refine z_iconst 717 C dL_keys_716 rfl ?_
  refine z_iconst 718 C dL_keys_717 rfl ?_
  refine z_iconst 719 C dL_keys_718 rfl ?_
  refine z_iconst 720 C dL_keys_719 rfl ?_
  refine z_bipush 722 C dL_keys_720 (by decide) rfl ?_
  refine z_bipush 724 C dL_keys_722 (by decide) rfl ?_
  refine z_iconst 725 C dL_keys_724 rfl ?_
  refine zu_isSib 2 1 0 3 1 29 8 4 ks725 (by decide) 728 4007 23257 B dL_keys_725 ⟨⟨by decide, by decide⟩, by decide, by decide⟩ (Nat.le_of_ble_eq_true rfl) rfl rfl rfl hok hJ hr (fun h1 J1 r1 => ?_)
  refine z_if_eq 833 731 C dL_keys_728 rfl rfl (by decide) (fun c8 => absurd c8 (by decide)) (fun _ => ?_)
  exact k _ _ hok J1 r1
theorem ku731 (B : zB E0 F mL_keys b x n R) (k : ∀ (f : Int → gSt) (h : gH), okT (kS11, (6, f), bu) → isJ (gRe E0 b) h x (kS11, (6, f), bu) → R h → Z E0 b fz F mL_keys Q n none h 4010 23275 742 [(0, .ref x)] []) : ∀ (f : Int → gSt) (h : gH), okT (kS11, (6, f), bu) → isJ (gRe E0 b) h x (kS11, (6, f), bu) → R h → Z E0 b fz F mL_keys Q n none h 4007 23257 731 [(0, .ref x)] [] := by
  intro f h hok hJ hr
  have C := B.1
  refine z_aload_n 732 C dL_keys_731 rfl rfl ?_
  refine z_iconst 733 C dL_keys_732 rfl ?_
  refine z_iconst 734 C dL_keys_733 rfl ?_
  refine z_iconst 735 C dL_keys_734 rfl ?_
  refine zu_Kno 3 1 0 1 kk735_61 738 4010 23275 B dL_keys_735 ⟨⟨by decide, by decide⟩, by decide, by decide⟩ (Nat.le_of_ble_eq_true rfl) rfl rfl rfl hok hJ hr (fun h1 J1 r1 => ?_)
  refine z_iconst 739 C dL_keys_738 rfl ?_
  refine z_icmp_ne 833 742 C dL_keys_739 rfl rfl (by decide) (by decide) (fun c8 => absurd c8 (by decide)) (fun _ => ?_)
  exact k _ _ hok J1 r1
theorem ku742 (B : zB E0 F mL_keys b x n R) (k : ∀ (f : Int → gSt) (h : gH), okT (kS11, (6, f), bu) → isJ (gRe E0 b) h x (kS11, (6, f), bu) → R h → Z E0 b fz F mL_keys Q n none h 4013 23293 753 [(0, .ref x)] []) : ∀ (f : Int → gSt) (h : gH), okT (kS11, (6, f), bu) → isJ (gRe E0 b) h x (kS11, (6, f), bu) → R h → Z E0 b fz F mL_keys Q n none h 4010 23275 742 [(0, .ref x)] [] := by
  intro f h hok hJ hr
  have C := B.1
  refine z_aload_n 743 C dL_keys_742 rfl rfl ?_
  refine z_iconst 744 C dL_keys_743 rfl ?_
  refine z_iconst 745 C dL_keys_744 rfl ?_
  refine z_iconst 746 C dL_keys_745 rfl ?_
  refine zu_Kno 3 1 3 1 kk746_62 749 4013 23293 B dL_keys_746 ⟨⟨by decide, by decide⟩, by decide, by decide⟩ (Nat.le_of_ble_eq_true rfl) rfl rfl rfl hok hJ hr (fun h1 J1 r1 => ?_)
  refine z_iconst 750 C dL_keys_749 rfl ?_
  refine z_icmp_ne 833 753 C dL_keys_750 rfl rfl (by decide) (by decide) (fun c8 => absurd c8 (by decide)) (fun _ => ?_)
  exact k _ _ hok J1 r1
theorem ku753 (B : zB E0 F mL_keys b x n R) (k : ∀ (f : Int → gSt) (h : gH), okT (kS11, (6, f), bu) → isJ (gRe E0 b) h x (kS11, (6, f), bu) → R h → Z E0 b fz F mL_keys Q n none h 4015 23305 763 [(0, .ref x)] []) : ∀ (f : Int → gSt) (h : gH), okT (kS11, (6, f), bu) → isJ (gRe E0 b) h x (kS11, (6, f), bu) → R h → Z E0 b fz F mL_keys Q n none h 4013 23293 753 [(0, .ref x)] [] := by
  intro f h hok hJ hr
  have C := B.1
  refine z_aload_n 754 C dL_keys_753 rfl rfl ?_
  refine z_iconst 755 C dL_keys_754 rfl ?_
  refine z_iconst 756 C dL_keys_755 rfl ?_
  refine zu_Why 0 1 2 kk756_63 759 4015 23305 B dL_keys_756 ⟨⟨by decide, by decide⟩, by decide, by decide⟩ (Nat.le_of_ble_eq_true rfl) rfl rfl rfl hok hJ hr (fun h1 J1 r1 => ?_)
  refine z_iconst 760 C dL_keys_759 rfl ?_
  refine z_icmp_ne 833 763 C dL_keys_760 rfl rfl (by decide) (by decide) (fun c8 => absurd c8 (by decide)) (fun _ => ?_)
  exact k _ _ hok J1 r1
theorem ku763 (B : zB E0 F mL_keys b x n R) (k : ∀ (f : Int → gSt) (h : gH), okT (kS12, (6, f), bu) → isJ (gRe E0 b) h x (kS12, (6, f), bu) → R h → Z E0 b fz F mL_keys Q n none h 4017 23317 773 [(0, .ref x)] []) : ∀ (f : Int → gSt) (h : gH), okT (kS11, (6, f), bu) → isJ (gRe E0 b) h x (kS11, (6, f), bu) → R h → Z E0 b fz F mL_keys Q n none h 4015 23305 763 [(0, .ref x)] [] := by
  intro f h hok hJ hr
  have C := B.1
  refine z_aload_n 764 C dL_keys_763 rfl rfl ?_
  refine z_iconst 765 C dL_keys_764 rfl ?_
  refine z_iconst 766 C dL_keys_765 rfl ?_
  refine zu_Lose 3 1 3 kS12 kk766_64 769 4017 23317 B dL_keys_766 ⟨⟨by decide, by decide⟩, by decide, by decide⟩ (Nat.le_of_ble_eq_true rfl) rfl rfl rfl hok hJ hr (fun h1 o1 J1 r1 => ?_)
  refine z_iconst 770 C dL_keys_769 rfl ?_
  refine z_icmp_ne 833 773 C dL_keys_770 rfl rfl (by decide) (by decide) (fun c8 => absurd c8 (by decide)) (fun _ => ?_)
  exact k _ _ o1 J1 r1
theorem ku773 (B : zB E0 F mL_keys b x n R) (k : ∀ (f : Int → gSt) (h : gH), okT (kS12, (6, f), bu) → isJ (gRe E0 b) h x (kS12, (6, f), bu) → R h → Z E0 b fz F mL_keys Q n none h 4020 23335 784 [(0, .ref x)] []) : ∀ (f : Int → gSt) (h : gH), okT (kS12, (6, f), bu) → isJ (gRe E0 b) h x (kS12, (6, f), bu) → R h → Z E0 b fz F mL_keys Q n none h 4017 23317 773 [(0, .ref x)] [] := by
  intro f h hok hJ hr
  have C := B.1
  refine z_aload_n 774 C dL_keys_773 rfl rfl ?_
  refine z_iconst 775 C dL_keys_774 rfl ?_
  refine z_iconst 776 C dL_keys_775 rfl ?_
  refine z_iconst 777 C dL_keys_776 rfl ?_
  refine zu_Kno 3 1 3 1 kk777_65 780 4020 23335 B dL_keys_777 ⟨⟨by decide, by decide⟩, by decide, by decide⟩ (Nat.le_of_ble_eq_true rfl) rfl rfl rfl hok hJ hr (fun h1 J1 r1 => ?_)
  refine z_iconst 781 C dL_keys_780 rfl ?_
  refine z_icmp_ne 833 784 C dL_keys_781 rfl rfl (by decide) (by decide) (fun c8 => absurd c8 (by decide)) (fun _ => ?_)
  exact k _ _ hok J1 r1
theorem ku784 (B : zB E0 F mL_keys b x n R) (k : ∀ (f : Int → gSt) (h : gH), okT (kS12, (6, f), bu) → isJ (gRe E0 b) h x (kS12, (6, f), bu) → R h → Z E0 b fz F mL_keys Q n none h 4023 23353 794 [(0, .ref x)] []) : ∀ (f : Int → gSt) (h : gH), okT (kS12, (6, f), bu) → isJ (gRe E0 b) h x (kS12, (6, f), bu) → R h → Z E0 b fz F mL_keys Q n none h 4020 23335 784 [(0, .ref x)] [] := by
  intro f h hok hJ hr
  have C := B.1
  refine z_aload_n 785 C dL_keys_784 rfl rfl ?_
  refine z_iconst 786 C dL_keys_785 rfl ?_
  refine z_iconst 787 C dL_keys_786 rfl ?_
  refine z_iconst 788 C dL_keys_787 rfl ?_
  refine zu_Kno 3 1 2 0 kk788_66 791 4023 23353 B dL_keys_788 ⟨⟨by decide, by decide⟩, by decide, by decide⟩ (Nat.le_of_ble_eq_true rfl) rfl rfl rfl hok hJ hr (fun h1 J1 r1 => ?_)
  refine z_if_ne 833 794 C dL_keys_791 rfl rfl (by decide) (fun c8 => absurd c8 (by decide)) (fun _ => ?_)
  exact k _ _ hok J1 r1
theorem ku794 (B : zB E0 F mL_keys b x n R) (k : ∀ (f : Int → gSt) (h : gH), okT (kS12, (6, f), bu) → isJ (gRe E0 b) h x (kS12, (6, f), bu) → R h → Z E0 b fz F mL_keys Q n none h 4024 23359 803 [(0, .ref x)] []) : ∀ (f : Int → gSt) (h : gH), okT (kS12, (6, f), bu) → isJ (gRe E0 b) h x (kS12, (6, f), bu) → R h → Z E0 b fz F mL_keys Q n none h 4023 23353 794 [(0, .ref x)] [] := by
  intro f h hok hJ hr
  have C := B.1
  refine z_aload_n 795 C dL_keys_794 rfl rfl ?_
  refine z_iconst 796 C dL_keys_795 rfl ?_
  refine zu_Cnt 5 1 kk796_67 799 4024 23359 B dL_keys_796 ⟨⟨by decide, by decide⟩, by decide, by decide⟩ (Nat.le_of_ble_eq_true rfl) rfl rfl rfl hok hJ hr (fun h1 J1 r1 => ?_)
  refine z_iconst 800 C dL_keys_799 rfl ?_
  refine z_icmp_ne 833 803 C dL_keys_800 rfl rfl (by decide) (by decide) (fun c8 => absurd c8 (by decide)) (fun _ => ?_)
  exact k _ _ hok J1 r1
theorem ku803 (B : zB E0 F mL_keys b x n R) (k : ∀ (f : Int → gSt) (h : gH), okT (kS12, (6, f), bu) → isJ (gRe E0 b) h x (kS12, (6, f), bu) → R h → Z E0 b fz F mL_keys Q n none h 4025 23365 813 [(0, .ref x)] []) : ∀ (f : Int → gSt) (h : gH), okT (kS12, (6, f), bu) → isJ (gRe E0 b) h x (kS12, (6, f), bu) → R h → Z E0 b fz F mL_keys Q n none h 4024 23359 803 [(0, .ref x)] [] := by
  intro f h hok hJ hr
  have C := B.1
  refine z_aload_n 804 C dL_keys_803 rfl rfl ?_
  refine z_iconst 805 C dL_keys_804 rfl ?_
  refine zu_Cnt 2 6 kk805_68 808 4025 23365 B dL_keys_805 ⟨⟨by decide, by decide⟩, by decide, by decide⟩ (Nat.le_of_ble_eq_true rfl) rfl rfl rfl hok hJ hr (fun h1 J1 r1 => ?_)
  refine z_bipush 810 C dL_keys_808 (by decide) rfl ?_
  refine z_icmp_ne 833 813 C dL_keys_810 rfl rfl (by decide) (by decide) (fun c8 => absurd c8 (by decide)) (fun _ => ?_)
  exact k _ _ hok J1 r1
theorem ku813 (B : zB E0 F mL_keys b x n R) (k : ∀ (f : Int → gSt) (h : gH), okT (kS12, (6, f), bu) → isJ (gRe E0 b) h x (kS12, (6, f), bu) → R h → Z E0 b fz F mL_keys Q n none h 4026 23371 822 [(0, .ref x)] []) : ∀ (f : Int → gSt) (h : gH), okT (kS12, (6, f), bu) → isJ (gRe E0 b) h x (kS12, (6, f), bu) → R h → Z E0 b fz F mL_keys Q n none h 4025 23365 813 [(0, .ref x)] [] := by
  intro f h hok hJ hr
  have C := B.1
  refine z_aload_n 814 C dL_keys_813 rfl rfl ?_
  refine z_iconst 815 C dL_keys_814 rfl ?_
  refine zu_Cnt 3 5 kk815_69 818 4026 23371 B dL_keys_815 ⟨⟨by decide, by decide⟩, by decide, by decide⟩ (Nat.le_of_ble_eq_true rfl) rfl rfl rfl hok hJ hr (fun h1 J1 r1 => ?_)
  refine z_iconst 819 C dL_keys_818 rfl ?_
  refine z_icmp_ne 833 822 C dL_keys_819 rfl rfl (by decide) (by decide) (fun c8 => absurd c8 (by decide)) (fun _ => ?_)
  exact k _ _ hok J1 r1
theorem ku822 (B : zB E0 F mL_keys b x n R) (k : ∀ (f : Int → gSt) (h : gH), okT (kS12, (6, f), bu) → isJ (gRe E0 b) h x (kS12, (6, f), bu) → R h → Z E0 b fz F mL_keys Q n none h 4027 23377 835 [(0, .ref x)] []) : ∀ (f : Int → gSt) (h : gH), okT (kS12, (6, f), bu) → isJ (gRe E0 b) h x (kS12, (6, f), bu) → R h → Z E0 b fz F mL_keys Q n none h 4026 23371 822 [(0, .ref x)] [] := by
  intro f h hok hJ hr
  have C := B.1
  refine z_aload_n 823 C dL_keys_822 rfl rfl ?_
  refine z_bipush 825 C dL_keys_823 (by decide) rfl ?_
  refine zu_Cnt7 828 4027 23377 B dL_keys_825 ⟨⟨by decide, by decide⟩, by decide, by decide⟩ (Nat.le_of_ble_eq_true rfl) rfl rfl rfl hok hJ hr (fun h1 J1 r1 => ?_)
  refine z_bipush 830 C dL_keys_828 (by decide) rfl ?_
  refine z_icmp_eq 835 833 C dL_keys_830 rfl rfl (by decide) (by decide) (fun _ => ?_) (fun c8 => absurd c8 (by decide))
  exact k _ _ hok J1 r1
end KU
