/-! SiblingJoinsModel: its public calls, continued -/
theorem fl_len (q : Int × Int → Bool) (l : List (Int × Int)) : ((l.filter (fun p => !(q p))).length : Int) = (l.length : Int) - (l.countP q : Int) := by
  induction l with
  | nil => rfl
  | cons y l ih =>
    cases hq : q y
    · rw [List.filter_cons_of_pos (by rw [hq]; rfl), List.countP_cons_of_neg (by rw [hq]; decide), List.length_cons, List.length_cons]
      omega
    · rw [List.filter_cons_of_neg (by rw [hq]; decide), List.countP_cons_of_pos hq, List.length_cons]
      omega
theorem room_w {K : gKy} {w s : Int} (h : wOut K w s 1 ≤ 4) : ((K.2.2.2 s).filter (fun p => !(cov (K.2.1 w) p.1))).length < 4 := by
  have e := fl_len (fun p => cov (K.2.1 w) p.1) (K.2.2.2 s)
  have e2 : wOut K w s 1 = ((K.2.2.2 s).length : Int) - wDrop K w s + 1 := rfl
  have e3 : wDrop K w s = (((K.2.2.2 s).countP (fun p => cov (K.2.1 w) p.1) : Nat) : Int) := rfl
  omega
theorem cov_vmx {u v : Int → Int} {mark : Int} (h : cov v mark = true) : cov (vmx u v) mark = true ∧ cov (vmx v u) mark = true := by
  have z := of_decide_eq_true h
  refine ⟨decide_eq_true ?_, decide_eq_true ?_⟩
  · show mark % 1000 ≤ if u (mark / 1000) < v (mark / 1000) then v (mark / 1000) else u (mark / 1000)
    split <;> omega
  · show mark % 1000 ≤ if v (mark / 1000) < u (mark / 1000) then u (mark / 1000) else v (mark / 1000)
    split <;> omega
theorem room_j {K : gKy} {w s : Int} (hI : gIk K) (hs : 0 ≤ s ∧ s < 3) : (((kLearn K w s).2.2.2 s).filter (fun p => !(cov ((kLearn K w s).2.1 w) p.1))).length < 4 := by
  have e : ((kLearn K w s).2.2.2 s).filter (fun p => !(cov ((kLearn K w s).2.1 w) p.1)) = [] := by
    rw [List.filter_eq_nil_iff]
    intro y hy
    have z : cov (gup K.2.1 w (vmx (K.2.1 w) (K.2.2.1 s)) w) y.1 = true := by
      rw [gup_at]
      exact (cov_vmx (hI.2 s hs.1 hs.2 y hy).2).1
    show ¬ (!(cov (gup K.2.1 w (vmx (K.2.1 w) (K.2.2.1 s)) w) y.1)) = true
    rw [z]
    decide
  rw [e]
  decide
theorem mxs_r {l : List (Int × Int)} : ∀ a : Int, (∀ p ∈ l, 0 ≤ p.2 ∧ p.2 ≤ 99) → 0 ≤ a ∧ a ≤ 99 → 0 ≤ mxs l a ∧ mxs l a ≤ 99 := by
  induction l with
  | nil => intro a _ h; exact h
  | cons y l ih =>
    intro a h ha
    have hy := h y List.mem_cons_self
    refine ih _ (fun p hp => h p (List.mem_cons_of_mem _ hp)) ?_
    dsimp only
    split <;> omega
theorem mns_r {l : List (Int × Int)} : ∀ a : Int, (∀ p ∈ l, 0 ≤ p.2 ∧ p.2 ≤ 99) → 0 ≤ a ∧ a ≤ 99 → 0 ≤ mns l a ∧ mns l a ≤ 99 := by
  induction l with
  | nil => intro a _ h; exact h
  | cons y l ih =>
    intro a h ha
    have hy := h y List.mem_cons_self
    refine ih _ (fun p hp => h p (List.mem_cons_of_mem _ hp)) ?_
    dsimp only
    split <;> omega
theorem jval_r {l : List (Int × Int)} {rule a : Int} (h : ∀ p ∈ l, 0 ≤ p.2 ∧ p.2 ≤ 99) (ha : 0 ≤ a ∧ a ≤ 99) : 0 ≤ jval rule a l ∧ jval rule a l ≤ 99 := by
  unfold jval
  split
  · exact mxs_r a h ha
  · split
    · exact mns_r a h ha
    · split
      · omega
      · exact ha
theorem tKey_at {S : gSt} {k : Int} {K : gKy} : (tKey S k K).1 k = K := gup_at
set_option maxRecDepth 100000 in
set_option maxHeartbeats 4000000 in
theorem c_X5_write {E : gEnv} {n : Nat} {σ : Option Nat} {h : gH} (m : Nat) (T : gTt) (c0 : Int) (w k s v : Int) (hmb : gB E ≤ m ∧ m + 7 ≤ gB E + n) (hM : isM E h m T c0) (hok : okT T) (hI : gIv T.1) (hwr : -2147483648 ≤ w ∧ w < 2147483648) (hkr : -2147483648 ≤ k ∧ k < 2147483648) (hsr : -2147483648 ≤ s ∧ s < 2147483648) (hvr : -2147483648 ≤ v ∧ v < 2147483648) : gM E mX5_write [.ref m, .int (gi w), .int (gi k), .int (gi s), .int (gi v)] n σ h (gRM E h m n σ (oWrite T w k s v)) (gNo) := by
  obtain ⟨g, hs, f, fp, X0, -⟩ := hM
  have m0 := X0.1
  unfold isMo at m0
  have hokS := hok.1
  refine gM_of (by decide) (Nat.le_of_ble_eq_true rfl) (fun F C => ?_)
  refine g_aload_n 1 C dX5_write_0 rfl rfl ?_
  refine g_iconst 2 C dX5_write_1 rfl ?_
  refine g_putf 5 C dX5_write_2 fp_RX5_32 rfl (by omega) m0 rfl rfl (Nat.le_of_ble_eq_true rfl) rfl ?_
  refine g_ab (fun z => isMx E z m T (gup g 6 0) hs f fp ∧ gKp m (m + 7) h z) ⟨X0.obj up_s (gKp_up (by omega)) (gup_ne (by decide)) (gup_ne (by decide)), gKp_up (by omega)⟩ (fun h1 q1 => ?_)
  obtain ⟨X1, K1⟩ := q1
  obtain ⟨x1, z1, x3, ⟨fs, x4⟩, x5, x6, x7, ⟨ft, x8, x8e⟩, x9, ⟨fm, x10⟩, ⟨fo, x11⟩⟩ := id X1
  have m1 := x1
  unfold isMo at m1
  have g6 : gup g 6 0 6 = 0 := gup_at
  refine g_iload_n 6 C dX5_write_5 rfl rfl ?_
  refine g_iload_n 7 C dX5_write_6 rfl rfl ?_
  refine g_iload_n 8 C dX5_write_7 rfl rfl ?_
  refine g_S3r 11 0 0 C dX5_write_8 rfl lk_RX5_92 gs_X5_areThere ⟨⟨by decide, by decide⟩, by decide, by decide⟩ (Nat.le_of_ble_eq_true rfl) rfl rfl rfl (c_X5_areThere w k s hwr hkr hsr) g_no (fun h9 e8 => ?_)
  replace e8 := e8.symm
  subst e8
  refine g_if_ne 20 14 C dX5_write_11 rfl rfl (gbi_r _) (fun c11 => ?_) (fun c11 => ?_)
  · skip
    have hv := of_decide_eq_true (gbi_1 c11)
    have hRk := x3.1 k (by omega) (by omega)
    have hoK := hokS k (by omega) (by omega)
    refine g_iload 22 C dX5_write_20 rfl rfl ?_
    refine g_iconst 23 C dX5_write_22 rfl ?_
    refine g_bipush 25 C dX5_write_23 (by decide) rfl ?_
    refine g_S3r 28 0 0 C dX5_write_25 rfl lk_RX5_35 gs_X5_in ⟨⟨by decide, by decide⟩, by decide, by decide⟩ (Nat.le_of_ble_eq_true rfl) rfl rfl rfl (c_X5_in v 0 99 hvr (by decide) (by decide)) g_no (fun h9 e25 => ?_)
    replace e25 := e25.symm
    subst e25
    refine g_if_ne 37 31 C dX5_write_28 rfl rfl (gbi_r _) (fun c28 => ?_) (fun c28 => ?_)
    · skip
      have hv2 := of_decide_eq_true (gbi_1 c28)
      refine g_aload_n 38 C dX5_write_37 rfl rfl ?_
      refine g_iload_n 39 C dX5_write_38 rfl rfl ?_
      refine g_iload_n 40 C dX5_write_39 rfl rfl ?_
      refine g_iload_n 41 C dX5_write_40 rfl rfl ?_
      refine g_V3r 44 0 0 C dX5_write_41 rfl lk_RX5_99 gi_X5_mayWrite gv_X5_mayWrite ⟨_, _, rfl⟩ (by omega) m1 ⟨⟨by decide, by decide⟩, by decide, by decide⟩ (Nat.le_of_ble_eq_true rfl) rfl rfl rfl (c_X5_mayWrite m (gup g 6 0) hs f k (T.1.1 k) w s hmb x1 z1 hv.2.1 hRk hoK hv.1 hv.2.2) g_no (fun h9 e41 => ?_)
      replace e41 := e41.symm
      subst e41
      refine g_if_ne 53 47 C dX5_write_44 rfl rfl (gbi_r _) (fun c44 => ?_) (fun c44 => ?_)
      · skip
        have hv3 := of_decide_eq_true (gbi_1 c44)
        refine g_aload_n 54 C dX5_write_53 rfl rfl ?_
        refine g_aload_n 55 C dX5_write_54 rfl rfl ?_
        refine g_getf 58 C dX5_write_55 fl_RX5_7 rfl (by omega) m1 rfl rfl ?_
        refine g_V1v 61 0 0 C dX5_write_58 rfl lk_RX5_95 gi_X5_saves gv_X5_saves ⟨_, _, rfl⟩ (by omega) m1 ⟨⟨by decide, by decide⟩, by decide, by decide⟩ (Nat.le_of_ble_eq_true rfl) rfl rfl rfl (c_X5_saves m (gup g 6 0) hs fp T.2.1 (m + 1) f T.1 hmb x1 x5 x6 hok.2.1 x7 hok.2.2.1 (Or.inl rfl) z1 x3 hokS) g_no (fun h2 e58 => ?_)
        obtain ⟨y1, ⟨fp2, y2, y3⟩, y4⟩ := e58
        have X2 : isMx E h2 m (tSave T) (gup (gup g 6 0) 3 (((tDrop T.2.1).1 : Int) + 1)) hs f fp2 := X1.sav y1 y2 y3 y4 gup_at (gup_ne (by decide))
        have K2 : gKp m (m + 7) h h2 := gKp_tr K1 (fun q hq => y4 q (by omega) (by omega))
        have g62 : gup (gup g 6 0) 3 (((tDrop T.2.1).1 : Int) + 1) 6 = 0 := (gup_ne (by decide)).trans g6
        obtain ⟨x1, z1, x3, ⟨fs, x4⟩, x5, x6, x7, ⟨ft, x8, x8e⟩, x9, ⟨fm, x10⟩, ⟨fo, x11⟩⟩ := id X2
        have m1 := x1
        unfold isMo at m1
        have x3 : Rz f T.1 := x3
        refine g_aload_n 62 C dX5_write_61 rfl rfl ?_
        refine g_iload_n 63 C dX5_write_62 rfl rfl ?_
        refine g_iload_n 64 C dX5_write_63 rfl rfl ?_
        refine g_iload_n 65 C dX5_write_64 rfl rfl ?_
        refine g_iload 67 C dX5_write_65 rfl rfl ?_
        refine g_V4r 70 0 0 C dX5_write_67 rfl lk_RX5_102 gi_X5_writes gv_X5_writes ⟨_, _, rfl⟩ (by omega) m1 ⟨⟨by decide, by decide⟩, by decide, by decide⟩ (Nat.le_of_ble_eq_true rfl) rfl rfl rfl (c_X5_writes m (gup (gup g 6 0) 3 (((tDrop T.2.1).1 : Int) + 1)) hs f T.1 w k s v hmb x1 z1 x3 hokS hv.2.1 hv.1 hv.2.2 hv2 hv3.1 (room_w hv3.2)) g_no (fun h3 e67 => ?_)
        obtain ⟨⟨f3, z3, Z3⟩, k3⟩ := e67
        have X3 := X2.zed z3 Z3 k3
        have K3 := gKp_tr K2 (gKp_wd k3 (by omega) (by omega))
        exact g_iret C dX5_write_70 rfl ⟨by decide, by decide⟩ (mret (by unfold oWrite; rw [if_pos hv, if_pos hv2]; exact if_pos hv3) rfl ⟨_, _, _, _, X3, g62⟩ (K3))
      · skip
        have hn3 := of_decide_eq_false (gbi_0 c44)
        refine g_aload_n 48 C dX5_write_47 rfl rfl ?_
        refine g_iconst 49 C dX5_write_48 rfl ?_
        refine g_V1r 52 0 0 C dX5_write_49 rfl lk_RX5_39 gi_X5_fails gv_X5_fails ⟨_, _, rfl⟩ (by omega) m1 ⟨⟨by decide, by decide⟩, by decide, by decide⟩ (Nat.le_of_ble_eq_true rfl) rfl rfl rfl (c_X5_fails m (gup g 6 0) hs 3 (by omega) x1) g_no (fun h2 e49 => ?_)
        obtain ⟨n1, n2⟩ := e49
        exact g_iret C dX5_write_52 rfl ⟨by decide, by decide⟩ (mret (by unfold oWrite; rw [if_pos hv, if_pos hv2]; exact if_neg hn3) rfl ⟨_, _, _, _, X1.obj n1 n2 (gup_ne (by decide)) (gup_ne (by decide)), gup_at⟩ (gKp_tr K1 (gKp_wd n2 (by omega) (by omega))))
    · skip
      have hn2 := of_decide_eq_false (gbi_0 c28)
      refine g_aload_n 32 C dX5_write_31 rfl rfl ?_
      refine g_iconst 33 C dX5_write_32 rfl ?_
      refine g_V1r 36 0 0 C dX5_write_33 rfl lk_RX5_39 gi_X5_fails gv_X5_fails ⟨_, _, rfl⟩ (by omega) m1 ⟨⟨by decide, by decide⟩, by decide, by decide⟩ (Nat.le_of_ble_eq_true rfl) rfl rfl rfl (c_X5_fails m (gup g 6 0) hs 2 (by omega) x1) g_no (fun h2 e33 => ?_)
      obtain ⟨n1, n2⟩ := e33
      exact g_iret C dX5_write_36 rfl ⟨by decide, by decide⟩ (mret (by unfold oWrite; rw [if_pos hv]; exact if_neg hn2) rfl ⟨_, _, _, _, X1.obj n1 n2 (gup_ne (by decide)) (gup_ne (by decide)), gup_at⟩ (gKp_tr K1 (gKp_wd n2 (by omega) (by omega))))
  · skip
    have hn := of_decide_eq_false (gbi_0 c11)
    refine g_aload_n 15 C dX5_write_14 rfl rfl ?_
    refine g_iconst 16 C dX5_write_15 rfl ?_
    refine g_V1r 19 0 0 C dX5_write_16 rfl lk_RX5_39 gi_X5_fails gv_X5_fails ⟨_, _, rfl⟩ (by omega) m1 ⟨⟨by decide, by decide⟩, by decide, by decide⟩ (Nat.le_of_ble_eq_true rfl) rfl rfl rfl (c_X5_fails m (gup g 6 0) hs 1 (by omega) x1) g_no (fun h2 e16 => ?_)
    obtain ⟨n1, n2⟩ := e16
    exact g_iret C dX5_write_19 rfl ⟨by decide, by decide⟩ (mret (by unfold oWrite; exact if_neg hn) rfl ⟨_, _, _, _, X1.obj n1 n2 (gup_ne (by decide)) (gup_ne (by decide)), gup_at⟩ (gKp_tr K1 (gKp_wd n2 (by omega) (by omega))))
set_option maxRecDepth 100000 in
set_option maxHeartbeats 4000000 in
theorem c_X5_join {E : gEnv} {n : Nat} {σ : Option Nat} {h : gH} (m : Nat) (T : gTt) (c0 : Int) (w k s rule : Int) (hmb : gB E ≤ m ∧ m + 7 ≤ gB E + n) (hM : isM E h m T c0) (hok : okT T) (hI : gIv T.1) (hwr : -2147483648 ≤ w ∧ w < 2147483648) (hkr : -2147483648 ≤ k ∧ k < 2147483648) (hsr : -2147483648 ≤ s ∧ s < 2147483648) (hruler : -2147483648 ≤ rule ∧ rule < 2147483648) : gM E mX5_join [.ref m, .int (gi w), .int (gi k), .int (gi s), .int (gi rule)] n σ h (gRM E h m n σ (oJoin T w k s rule)) (gNo) := by
  obtain ⟨g, hs, f, fp, X0, -⟩ := hM
  have m0 := X0.1
  unfold isMo at m0
  have hokS := hok.1
  refine gM_of (by decide) (Nat.le_of_ble_eq_true rfl) (fun F C => ?_)
  refine g_aload_n 1 C dX5_join_0 rfl rfl ?_
  refine g_iconst 2 C dX5_join_1 rfl ?_
  refine g_putf 5 C dX5_join_2 fp_RX5_32 rfl (by omega) m0 rfl rfl (Nat.le_of_ble_eq_true rfl) rfl ?_
  refine g_ab (fun z => isMx E z m T (gup g 6 0) hs f fp ∧ gKp m (m + 7) h z) ⟨X0.obj up_s (gKp_up (by omega)) (gup_ne (by decide)) (gup_ne (by decide)), gKp_up (by omega)⟩ (fun h1 q1 => ?_)
  obtain ⟨X1, K1⟩ := q1
  obtain ⟨x1, z1, x3, ⟨fs, x4⟩, x5, x6, x7, ⟨ft, x8, x8e⟩, x9, ⟨fm, x10⟩, ⟨fo, x11⟩⟩ := id X1
  have m1 := x1
  unfold isMo at m1
  have g6 : gup g 6 0 6 = 0 := gup_at
  refine g_iload_n 6 C dX5_join_5 rfl rfl ?_
  refine g_iload_n 7 C dX5_join_6 rfl rfl ?_
  refine g_iload_n 8 C dX5_join_7 rfl rfl ?_
  refine g_S3r 11 0 0 C dX5_join_8 rfl lk_RX5_92 gs_X5_areThere ⟨⟨by decide, by decide⟩, by decide, by decide⟩ (Nat.le_of_ble_eq_true rfl) rfl rfl rfl (c_X5_areThere w k s hwr hkr hsr) g_no (fun h9 e8 => ?_)
  replace e8 := e8.symm
  subst e8
  refine g_if_ne 20 14 C dX5_join_11 rfl rfl (gbi_r _) (fun c11 => ?_) (fun c11 => ?_)
  · skip
    have hv := of_decide_eq_true (gbi_1 c11)
    have hRk := x3.1 k (by omega) (by omega)
    have hoK := hokS k (by omega) (by omega)
    refine g_iload 22 C dX5_join_20 rfl rfl ?_
    refine g_iconst 23 C dX5_join_22 rfl ?_
    refine g_iconst 24 C dX5_join_23 rfl ?_
    refine g_S3r 27 0 0 C dX5_join_24 rfl lk_RX5_35 gs_X5_in ⟨⟨by decide, by decide⟩, by decide, by decide⟩ (Nat.le_of_ble_eq_true rfl) rfl rfl rfl (c_X5_in rule 0 3 hruler (by decide) (by decide)) g_no (fun h9 e24 => ?_)
    replace e24 := e24.symm
    subst e24
    refine g_if_ne 36 30 C dX5_join_27 rfl rfl (gbi_r _) (fun c27 => ?_) (fun c27 => ?_)
    · skip
      have hv2 := of_decide_eq_true (gbi_1 c27)
      have hsl : sLen T.1 k s = (((T.1.1 k).2.2.2 s).length : Int) := rfl
      have h4 := (hoK.2.2.2 s hv.2.2.1 hv.2.2.2).1
      have hWw := hoK.1 w hv.1.1 hv.1.2
      refine g_aload_n 37 C dX5_join_36 rfl rfl ?_
      refine g_iload_n 38 C dX5_join_37 rfl rfl ?_
      refine g_iload_n 39 C dX5_join_38 rfl rfl ?_
      refine g_V2r 42 0 0 C dX5_join_39 rfl lk_RX5_47 gi_X5_siblings gv_X5_siblings ⟨_, _, rfl⟩ (by omega) m1 ⟨⟨by decide, by decide⟩, by decide, by decide⟩ (Nat.le_of_ble_eq_true rfl) rfl rfl rfl (c_X5_siblings m (gup g 6 0) hs f k s ((T.1.1 k).2.2.2 s) hmb x1 z1 hv.2.1 hv.2.2 (hRk.2.2.2 s hv.2.2.1 hv.2.2.2)) g_no (fun h9 e39 => ?_)
      replace e39 := e39.symm
      subst e39
      refine g_if_eq 61 45 C dX5_join_42 rfl rfl (by omega) (fun c42 => ?_) (fun c42 => ?_)
      · skip
        have hno : sLen T.1 k s = 0 ∨ 999 ≤ (T.1.1 k).1 w := Or.inl (by rw [hsl]; omega)
        refine g_aload_n 62 C dX5_join_61 rfl rfl ?_
        refine g_iconst 63 C dX5_join_62 rfl ?_
        refine g_V1r 66 0 0 C dX5_join_63 rfl lk_RX5_39 gi_X5_fails gv_X5_fails ⟨_, _, rfl⟩ (by omega) m1 ⟨⟨by decide, by decide⟩, by decide, by decide⟩ (Nat.le_of_ble_eq_true rfl) rfl rfl rfl (c_X5_fails m (gup g 6 0) hs 3 (by omega) x1) g_no (fun h2 e63 => ?_)
        obtain ⟨n1, n2⟩ := e63
        exact g_iret C dX5_join_66 rfl ⟨by decide, by decide⟩ (mret (by unfold oJoin; rw [if_pos hv, if_pos hv2]; exact if_pos hno) rfl ⟨_, _, _, _, X1.obj n1 n2 (gup_ne (by decide)) (gup_ne (by decide)), gup_at⟩ (gKp_tr K1 (gKp_wd n2 (by omega) (by omega))))
      · skip
        refine g_aload_n 46 C dX5_join_45 rfl rfl ?_
        refine g_getf 49 C dX5_join_46 fl_RX5_7 rfl (by omega) m1 rfl rfl ?_
        refine g_iload_n 50 C dX5_join_49 rfl rfl ?_
        refine g_iload_n 51 C dX5_join_50 rfl rfl ?_
        refine g_S2r 54 0 0 C dX5_join_51 rfl lk_RX5_64 gs_X5_countAt ⟨⟨by decide, by decide⟩, by decide, by decide⟩ (Nat.le_of_ble_eq_true rfl) rfl rfl rfl (c_X5_countAt k w) g_no (fun h9 e51 => ?_)
        replace e51 := e51.symm
        subst e51
        refine g_iald 55 C dX5_join_54 (by omega) z1 (by omega) (by decide) rfl ?_
        rw [show 0 + 5 * k + w = 5 * k + w by omega, hRk.1 w hv.1.1 hv.1.2]
        refine g_sipush 58 C dX5_join_55 (by decide) rfl ?_
        refine g_icmp_ne 67 61 C dX5_join_58 rfl rfl (by omega) (by omega) (fun c58 => ?_) (fun c58 => ?_)
        · skip
          have hyes : ¬ (sLen T.1 k s = 0 ∨ 999 ≤ (T.1.1 k).1 w) := by rw [hsl]; omega
          obtain ⟨x0, hx0, hx0l⟩ := get_of (l := (T.1.1 k).2.2.2 s) (i := 0) (by omega)
          have hjv : jval rule x0.2 ((T.1.1 k).2.2.2 s) = jVal (T.1.1 k) s rule := by unfold jVal jv0; rw [hx0]; rfl
          have hjr : 0 ≤ jVal (T.1.1 k) s rule ∧ jVal (T.1.1 k) s rule ≤ 99 := by
            rw [← hjv]
            exact jval_r (fun p hp => ((hoK.2.2.2 s hv.2.2.1 hv.2.2.2).2 p hp).2.2) ((hoK.2.2.2 s hv.2.2.1 hv.2.2.2).2 x0 hx0l).2.2
          refine g_aload_n 68 C dX5_join_67 rfl rfl ?_
          refine g_aload_n 69 C dX5_join_68 rfl rfl ?_
          refine g_getf 72 C dX5_join_69 fl_RX5_7 rfl (by omega) m1 rfl rfl ?_
          refine g_V1v 75 0 0 C dX5_join_72 rfl lk_RX5_95 gi_X5_saves gv_X5_saves ⟨_, _, rfl⟩ (by omega) m1 ⟨⟨by decide, by decide⟩, by decide, by decide⟩ (Nat.le_of_ble_eq_true rfl) rfl rfl rfl (c_X5_saves m (gup g 6 0) hs fp T.2.1 (m + 1) f T.1 hmb x1 x5 x6 hok.2.1 x7 hok.2.2.1 (Or.inl rfl) z1 x3 hokS) g_no (fun h2 e72 => ?_)
          obtain ⟨y1, ⟨fp2, y2, y3⟩, y4⟩ := e72
          have X2 : isMx E h2 m (tSave T) (gup (gup g 6 0) 3 (((tDrop T.2.1).1 : Int) + 1)) hs f fp2 := X1.sav y1 y2 y3 y4 gup_at (gup_ne (by decide))
          have K2 : gKp m (m + 7) h h2 := gKp_tr K1 (fun q hq => y4 q (by omega) (by omega))
          have g62 : gup (gup g 6 0) 3 (((tDrop T.2.1).1 : Int) + 1) 6 = 0 := (gup_ne (by decide)).trans g6
          obtain ⟨x1, z1, x3, ⟨fs, x4⟩, x5, x6, x7, ⟨ft, x8, x8e⟩, x9, ⟨fm, x10⟩, ⟨fo, x11⟩⟩ := id X2
          have m1 := x1
          unfold isMo at m1
          have x3 : Rz f T.1 := x3
          refine g_aload_n 76 C dX5_join_75 rfl rfl ?_
          refine g_iload_n 77 C dX5_join_76 rfl rfl ?_
          refine g_iload_n 78 C dX5_join_77 rfl rfl ?_
          refine g_iload 80 C dX5_join_78 rfl rfl ?_
          refine g_V3r 83 0 0 C dX5_join_80 rfl lk_RX5_106 gi_X5_joined gv_X5_joined ⟨_, _, rfl⟩ (by omega) m1 ⟨⟨by decide, by decide⟩, by decide, by decide⟩ (Nat.le_of_ble_eq_true rfl) rfl rfl rfl (c_X5_joined m (gup (gup g 6 0) 3 (((tDrop T.2.1).1 : Int) + 1)) hs f k (T.1.1 k) s rule x0 hmb x1 z1 hv.2.1 hRk hoK hv.2.2 hv2 hx0) g_no (fun h9 e80 => ?_)
          replace e80 := e80.symm
          subst e80
          rw [hjv]
          refine g_istore 85 [(5, _), (0, _), (1, _), (2, _), (3, _), (4, _)] C dX5_join_83 (by decide) rfl rfl ?_
          refine g_aload_n 86 C dX5_join_85 rfl rfl ?_
          refine g_iload_n 87 C dX5_join_86 rfl rfl ?_
          refine g_iload_n 88 C dX5_join_87 rfl rfl ?_
          refine g_S2r 91 0 0 C dX5_join_88 rfl lk_RX5_54 gs_X5_knowsAt ⟨⟨by decide, by decide⟩, by decide, by decide⟩ (Nat.le_of_ble_eq_true rfl) rfl rfl rfl (c_X5_knowsAt k w) g_no (fun h9 e88 => ?_)
          replace e88 := e88.symm
          subst e88
          refine g_iload_n 92 C dX5_join_91 rfl rfl ?_
          refine g_iload_n 93 C dX5_join_92 rfl rfl ?_
          refine g_S2r 96 0 0 C dX5_join_93 rfl lk_RX5_75 gs_X5_vectorAt ⟨⟨by decide, by decide⟩, by decide, by decide⟩ (Nat.le_of_ble_eq_true rfl) rfl rfl rfl (c_X5_vectorAt k s) g_no (fun h9 e93 => ?_)
          replace e93 := e93.symm
          subst e93
          refine g_V2v 99 0 0 C dX5_join_96 rfl lk_RX5_78 gi_X5_merges gv_X5_merges ⟨_, _, rfl⟩ (by omega) m1 ⟨⟨by decide, by decide⟩, by decide, by decide⟩ (Nat.le_of_ble_eq_true rfl) rfl rfl rfl (c_X5_merges m (gup (gup g 6 0) 3 (((tDrop T.2.1).1 : Int) + 1)) hs f (15 + 25 * k + 5 * w) (90 + 15 * k + 5 * s) ((T.1.1 k).2.1 w) ((T.1.1 k).2.2.1 s) hmb x1 z1 (by omega) (by omega) (by omega) (hRk.2.1 w hv.1.1 hv.1.2) (hRk.2.2.1 s hv.2.2.1 hv.2.2.2) (hoK.2.1 w hv.1.1 hv.1.2) (hoK.2.2.1 s hv.2.2.1 hv.2.2.2)) g_no (fun h3 e96 => ?_)
          obtain ⟨⟨f3, z3, rv3, fk3⟩, k3⟩ := e96
          have R3 := hRk.setN hoK hv.2.1 hv.1 rv3 fk3
          have Z3 := x3.setK (K' := kLearn (T.1.1 k) w s) hokS hv.2.1 R3 (fKy_N hv.1 fk3)
          have X3 := X2.zed z3 Z3 k3
          have K3 := gKp_tr K2 (gKp_wd k3 (by omega) (by omega))
          have oS3 : okS (tKey T.1 k (kLearn (T.1.1 k) w s)) := okS_set hokS (okK_learn hoK hv.1 hv.2.2)
          have m3 := X3.1
          unfold isMo at m3
          refine g_aload_n 100 C dX5_join_99 rfl rfl ?_
          refine g_iload_n 101 C dX5_join_100 rfl rfl ?_
          refine g_iload_n 102 C dX5_join_101 rfl rfl ?_
          refine g_iload_n 103 C dX5_join_102 rfl rfl ?_
          refine g_iload 105 C dX5_join_103 rfl rfl ?_
          refine g_V4r 108 0 0 C dX5_join_105 rfl lk_RX5_102 gi_X5_writes gv_X5_writes ⟨_, _, rfl⟩ (by omega) m3 ⟨⟨by decide, by decide⟩, by decide, by decide⟩ (Nat.le_of_ble_eq_true rfl) rfl rfl rfl (c_X5_writes m (gup (gup g 6 0) 3 (((tDrop T.2.1).1 : Int) + 1)) hs f3 (tKey T.1 k (kLearn (T.1.1 k) w s)) w k s (jVal (T.1.1 k) s rule) hmb X3.1 z3 Z3 oS3 hv.2.1 hv.1 hv.2.2 hjr (by rw [tKey_at]; show (T.1.1 k).1 w < 999; omega) (by rw [tKey_at]; exact room_j (hI k hv.2.1.1 hv.2.1.2) hv.2.2)) g_no (fun h6 e105 => ?_)
          obtain ⟨⟨f4, z4, Z4⟩, k4⟩ := e105
          have X4 := X3.zed z4 Z4 k4
          have K4 := gKp_tr K3 (gKp_wd k4 (by omega) (by omega))
          have m4 := X4.1
          unfold isMo at m4
          have e309 : f4 309 = _ := Z4.2 4 (by decide) (by decide)
          have hwd : 0 ≤ wDrop ((tKey T.1 k (kLearn (T.1.1 k) w s)).1 k) w s := Int.natCast_nonneg _
          have hwd2 : wDrop ((tKey T.1 k (kLearn (T.1.1 k) w s)).1 k) w s ≤ 4 := by
            rw [tKey_at]
            have z : ((kLearn (T.1.1 k) w s).2.2.2 s).countP (fun p => cov ((kLearn (T.1.1 k) w s).2.1 w) p.1) ≤ 4 := Nat.le_trans List.countP_le_length h4
            show (((kLearn (T.1.1 k) w s).2.2.2 s).countP (fun p => cov ((kLearn (T.1.1 k) w s).2.1 w) p.1) : Int) ≤ 4
            omega
          have oS4 : okS (sRep (tKey T.1 k (kLearn (T.1.1 k) w s)) w k s (jVal (T.1.1 k) s rule)) := okS_set oS3 (okK_put (oS3 k hv.2.1.1 hv.2.1.2) hv.1 hv.2.2 hjr (by rw [tKey_at]; show (T.1.1 k).1 w < 999; omega))
          refine g_istore 110 [(6, _), (5, _), (0, _), (1, _), (2, _), (3, _), (4, _)] C dX5_join_108 (by decide) rfl rfl ?_
          refine g_aload_n 111 C dX5_join_110 rfl rfl ?_
          refine g_getf 114 C dX5_join_111 fl_RX5_7 rfl (by omega) m4 rfl rfl ?_
          refine g_sipush 117 C dX5_join_114 (by decide) rfl ?_
          refine g_dup2 118 C dX5_join_117 rfl rfl rfl ?_
          refine g_iald 119 C dX5_join_118 (by omega) z4 (by omega) (by decide) rfl ?_
          rw [e309]
          refine g_iload 121 C dX5_join_119 rfl rfl ?_
          refine g_if_ge 128 124 C dX5_join_121 rfl rfl (by omega) (fun c121 => ?_) (fun c121 => ?_)
          · skip
            refine g_iconst 129 C dX5_join_128 rfl ?_
            refine g_iadd 130 C dX5_join_129 rfl ?_
            refine g_iast 131 C dX5_join_130 (by omega) z4 (by omega) (by decide) rfl ?_
            refine g_ab (fun z => isMx E z m (tInc (sRep (tKey T.1 k (kLearn (T.1.1 k) w s)) w k s (jVal (T.1.1 k) s rule)) 4, (tSave T).2) (gup (gup g 6 0) 3 (((tDrop T.2.1).1 : Int) + 1)) hs (gup f4 309 ((sRep (tKey T.1 k (kLearn (T.1.1 k) w s)) w k s (jVal (T.1.1 k) s rule)).2 4 + 1)) fp2 ∧ gKp m (m + 7) h z) ⟨X4.zed up_s (Z4.setC (j := 4) oS4 (by decide)) (gKp_up (by omega)), gKp_tr K4 (gKp_up (by omega))⟩ (fun h5 q5 => ?_)
            obtain ⟨X5, K5⟩ := q5
            refine g_iload 133 C dX5_join_131 rfl rfl ?_
            exact g_iret C dX5_join_133 rfl ⟨by decide, by decide⟩ (mret (by unfold oJoin; rw [if_pos hv, if_pos hv2]; exact if_neg hyes) rfl ⟨_, _, _, _, X5, g62⟩ (K5))
          · skip
            exact absurd c121 (by omega)
        · skip
          have hno : sLen T.1 k s = 0 ∨ 999 ≤ (T.1.1 k).1 w := Or.inr (by omega)
          refine g_aload_n 62 C dX5_join_61 rfl rfl ?_
          refine g_iconst 63 C dX5_join_62 rfl ?_
          refine g_V1r 66 0 0 C dX5_join_63 rfl lk_RX5_39 gi_X5_fails gv_X5_fails ⟨_, _, rfl⟩ (by omega) m1 ⟨⟨by decide, by decide⟩, by decide, by decide⟩ (Nat.le_of_ble_eq_true rfl) rfl rfl rfl (c_X5_fails m (gup g 6 0) hs 3 (by omega) x1) g_no (fun h2 e63 => ?_)
          obtain ⟨n1, n2⟩ := e63
          exact g_iret C dX5_join_66 rfl ⟨by decide, by decide⟩ (mret (by unfold oJoin; rw [if_pos hv, if_pos hv2]; exact if_pos hno) rfl ⟨_, _, _, _, X1.obj n1 n2 (gup_ne (by decide)) (gup_ne (by decide)), gup_at⟩ (gKp_tr K1 (gKp_wd n2 (by omega) (by omega))))
    · skip
      have hn2 := of_decide_eq_false (gbi_0 c27)
      refine g_aload_n 31 C dX5_join_30 rfl rfl ?_
      refine g_iconst 32 C dX5_join_31 rfl ?_
      refine g_V1r 35 0 0 C dX5_join_32 rfl lk_RX5_39 gi_X5_fails gv_X5_fails ⟨_, _, rfl⟩ (by omega) m1 ⟨⟨by decide, by decide⟩, by decide, by decide⟩ (Nat.le_of_ble_eq_true rfl) rfl rfl rfl (c_X5_fails m (gup g 6 0) hs 2 (by omega) x1) g_no (fun h2 e32 => ?_)
      obtain ⟨n1, n2⟩ := e32
      exact g_iret C dX5_join_35 rfl ⟨by decide, by decide⟩ (mret (by unfold oJoin; rw [if_pos hv]; exact if_neg hn2) rfl ⟨_, _, _, _, X1.obj n1 n2 (gup_ne (by decide)) (gup_ne (by decide)), gup_at⟩ (gKp_tr K1 (gKp_wd n2 (by omega) (by omega))))
  · skip
    have hn := of_decide_eq_false (gbi_0 c11)
    refine g_aload_n 15 C dX5_join_14 rfl rfl ?_
    refine g_iconst 16 C dX5_join_15 rfl ?_
    refine g_V1r 19 0 0 C dX5_join_16 rfl lk_RX5_39 gi_X5_fails gv_X5_fails ⟨_, _, rfl⟩ (by omega) m1 ⟨⟨by decide, by decide⟩, by decide, by decide⟩ (Nat.le_of_ble_eq_true rfl) rfl rfl rfl (c_X5_fails m (gup g 6 0) hs 1 (by omega) x1) g_no (fun h2 e16 => ?_)
    obtain ⟨n1, n2⟩ := e16
    exact g_iret C dX5_join_19 rfl ⟨by decide, by decide⟩ (mret (by unfold oJoin; exact if_neg hn) rfl ⟨_, _, _, _, X1.obj n1 n2 (gup_ne (by decide)) (gup_ne (by decide)), gup_at⟩ (gKp_tr K1 (gKp_wd n2 (by omega) (by omega))))
set_option maxRecDepth 100000 in
set_option maxHeartbeats 4000000 in
theorem c_X5_vector {E : gEnv} {n : Nat} {σ : Option Nat} {h : gH} (m : Nat) (T : gTt) (c0 : Int) (s k w : Int) (hmb : gB E ≤ m ∧ m + 7 ≤ gB E + n) (hM : isM E h m T c0) (hok : okT T) (hI : gIv T.1) (hsr : -2147483648 ≤ s ∧ s < 2147483648) (hkr : -2147483648 ≤ k ∧ k < 2147483648) (hwr : -2147483648 ≤ w ∧ w < 2147483648) : gM E mX5_vector [.ref m, .int (gi s), .int (gi k), .int (gi w)] n σ h (gRM E h m n σ (oVector T s k w)) (gNo) := by
  obtain ⟨g, hs, f, fp, X0, -⟩ := hM
  have m0 := X0.1
  unfold isMo at m0
  have hokS := hok.1
  refine gM_of (by decide) (Nat.le_of_ble_eq_true rfl) (fun F C => ?_)
  refine g_aload_n 1 C dX5_vector_0 rfl rfl ?_
  refine g_iconst 2 C dX5_vector_1 rfl ?_
  refine g_putf 5 C dX5_vector_2 fp_RX5_32 rfl (by omega) m0 rfl rfl (Nat.le_of_ble_eq_true rfl) rfl ?_
  refine g_ab (fun z => isMx E z m T (gup g 6 0) hs f fp ∧ gKp m (m + 7) h z) ⟨X0.obj up_s (gKp_up (by omega)) (gup_ne (by decide)) (gup_ne (by decide)), gKp_up (by omega)⟩ (fun h1 q1 => ?_)
  obtain ⟨X1, K1⟩ := q1
  obtain ⟨x1, z1, x3, ⟨fs, x4⟩, x5, x6, x7, ⟨ft, x8, x8e⟩, x9, ⟨fm, x10⟩, ⟨fo, x11⟩⟩ := id X1
  have m1 := x1
  unfold isMo at m1
  have g6 : gup g 6 0 6 = 0 := gup_at
  refine g_iload_n 6 C dX5_vector_5 rfl rfl ?_
  refine g_iload_n 7 C dX5_vector_6 rfl rfl ?_
  refine g_iload_n 8 C dX5_vector_7 rfl rfl ?_
  refine g_S3r 11 0 0 C dX5_vector_8 rfl lk_RX5_92 gs_X5_areThere ⟨⟨by decide, by decide⟩, by decide, by decide⟩ (Nat.le_of_ble_eq_true rfl) rfl rfl rfl (c_X5_areThere w k s hwr hkr hsr) g_no (fun h9 e8 => ?_)
  replace e8 := e8.symm
  subst e8
  refine g_if_eq 29 14 C dX5_vector_11 rfl rfl (gbi_r _) (fun c11 => ?_) (fun c11 => ?_)
  · skip
    have hn := of_decide_eq_false (gbi_0 c11)
    refine g_aload_n 30 C dX5_vector_29 rfl rfl ?_
    refine g_iconst 31 C dX5_vector_30 rfl ?_
    refine g_V1r 34 0 0 C dX5_vector_31 rfl lk_RX5_39 gi_X5_fails gv_X5_fails ⟨_, _, rfl⟩ (by omega) m1 ⟨⟨by decide, by decide⟩, by decide, by decide⟩ (Nat.le_of_ble_eq_true rfl) rfl rfl rfl (c_X5_fails m (gup g 6 0) hs 1 (by omega) x1) g_no (fun h2 e31 => ?_)
    obtain ⟨n1, n2⟩ := e31
    exact g_iret C dX5_vector_34 rfl ⟨by decide, by decide⟩ (mret (by unfold oVector; exact if_neg hn) rfl ⟨_, _, _, _, X1.obj n1 n2 (gup_ne (by decide)) (gup_ne (by decide)), gup_at⟩ (gKp_tr K1 (gKp_wd n2 (by omega) (by omega))))
  · skip
    have hv := of_decide_eq_true (gbi_1 c11)
    have hRk := x3.1 k (by omega) (by omega)
    have hoK := hokS k (by omega) (by omega)
    refine g_aload_n 15 C dX5_vector_14 rfl rfl ?_
    refine g_getf 18 C dX5_vector_15 fl_RX5_7 rfl (by omega) m1 rfl rfl ?_
    refine g_iload_n 19 C dX5_vector_18 rfl rfl ?_
    refine g_iload_n 20 C dX5_vector_19 rfl rfl ?_
    refine g_S2r 23 0 0 C dX5_vector_20 rfl lk_RX5_75 gs_X5_vectorAt ⟨⟨by decide, by decide⟩, by decide, by decide⟩ (Nat.le_of_ble_eq_true rfl) rfl rfl rfl (c_X5_vectorAt k s) g_no (fun h9 e20 => ?_)
    replace e20 := e20.symm
    subst e20
    refine g_iload_n 24 C dX5_vector_23 rfl rfl ?_
    refine g_iadd 25 C dX5_vector_24 rfl ?_
    refine g_iald 26 C dX5_vector_25 (by omega) z1 (by omega) (by decide) rfl ?_
    rw [hRk.2.2.1 s hv.2.2.1 hv.2.2.2 w hv.1.1 hv.1.2]
    refine g_goto 34 C dX5_vector_26 rfl ?_
    exact g_iret C dX5_vector_34 rfl ⟨by decide, by decide⟩ (mret (by unfold oVector; exact if_pos hv) rfl ⟨_, _, _, _, X1, g6⟩ (K1))
set_option maxRecDepth 100000 in
set_option maxHeartbeats 4000000 in
theorem c_X5_ifWritten {E : gEnv} {n : Nat} {σ : Option Nat} {h : gH} (m : Nat) (T : gTt) (c0 : Int) (w k s what : Int) (hmb : gB E ≤ m ∧ m + 7 ≤ gB E + n) (hM : isM E h m T c0) (hok : okT T) (hI : gIv T.1) (hwr : -2147483648 ≤ w ∧ w < 2147483648) (hkr : -2147483648 ≤ k ∧ k < 2147483648) (hsr : -2147483648 ≤ s ∧ s < 2147483648) (hwhatr : -2147483648 ≤ what ∧ what < 2147483648) : gM E mX5_ifWritten [.ref m, .int (gi w), .int (gi k), .int (gi s), .int (gi what)] n σ h (gRM E h m n σ (oIfW T w k s what)) (gNo) := by
  obtain ⟨g, hs, f, fp, X0, -⟩ := hM
  have m0 := X0.1
  unfold isMo at m0
  have hokS := hok.1
  refine gM_of (by decide) (Nat.le_of_ble_eq_true rfl) (fun F C => ?_)
  refine g_aload_n 1 C dX5_ifWritten_0 rfl rfl ?_
  refine g_iconst 2 C dX5_ifWritten_1 rfl ?_
  refine g_putf 5 C dX5_ifWritten_2 fp_RX5_32 rfl (by omega) m0 rfl rfl (Nat.le_of_ble_eq_true rfl) rfl ?_
  refine g_ab (fun z => isMx E z m T (gup g 6 0) hs f fp ∧ gKp m (m + 7) h z) ⟨X0.obj up_s (gKp_up (by omega)) (gup_ne (by decide)) (gup_ne (by decide)), gKp_up (by omega)⟩ (fun h1 q1 => ?_)
  obtain ⟨X1, K1⟩ := q1
  obtain ⟨x1, z1, x3, ⟨fs, x4⟩, x5, x6, x7, ⟨ft, x8, x8e⟩, x9, ⟨fm, x10⟩, ⟨fo, x11⟩⟩ := id X1
  have m1 := x1
  unfold isMo at m1
  have g6 : gup g 6 0 6 = 0 := gup_at
  refine g_iload_n 6 C dX5_ifWritten_5 rfl rfl ?_
  refine g_iload_n 7 C dX5_ifWritten_6 rfl rfl ?_
  refine g_iload_n 8 C dX5_ifWritten_7 rfl rfl ?_
  refine g_S3r 11 0 0 C dX5_ifWritten_8 rfl lk_RX5_92 gs_X5_areThere ⟨⟨by decide, by decide⟩, by decide, by decide⟩ (Nat.le_of_ble_eq_true rfl) rfl rfl rfl (c_X5_areThere w k s hwr hkr hsr) g_no (fun h9 e8 => ?_)
  replace e8 := e8.symm
  subst e8
  refine g_if_ne 20 14 C dX5_ifWritten_11 rfl rfl (gbi_r _) (fun c11 => ?_) (fun c11 => ?_)
  · skip
    have hv := of_decide_eq_true (gbi_1 c11)
    have hRk := x3.1 k (by omega) (by omega)
    have hoK := hokS k (by omega) (by omega)
    refine g_iload 22 C dX5_ifWritten_20 rfl rfl ?_
    refine g_iconst 23 C dX5_ifWritten_22 rfl ?_
    refine g_iconst 24 C dX5_ifWritten_23 rfl ?_
    refine g_S3r 27 0 0 C dX5_ifWritten_24 rfl lk_RX5_35 gs_X5_in ⟨⟨by decide, by decide⟩, by decide, by decide⟩ (Nat.le_of_ble_eq_true rfl) rfl rfl rfl (c_X5_in what 0 1 hwhatr (by decide) (by decide)) g_no (fun h9 e24 => ?_)
    replace e24 := e24.symm
    subst e24
    refine g_if_eq 42 30 C dX5_ifWritten_27 rfl rfl (gbi_r _) (fun c27 => ?_) (fun c27 => ?_)
    · skip
      have hn2 := of_decide_eq_false (gbi_0 c27)
      refine g_aload_n 43 C dX5_ifWritten_42 rfl rfl ?_
      refine g_iconst 44 C dX5_ifWritten_43 rfl ?_
      refine g_V1r 47 0 0 C dX5_ifWritten_44 rfl lk_RX5_39 gi_X5_fails gv_X5_fails ⟨_, _, rfl⟩ (by omega) m1 ⟨⟨by decide, by decide⟩, by decide, by decide⟩ (Nat.le_of_ble_eq_true rfl) rfl rfl rfl (c_X5_fails m (gup g 6 0) hs 2 (by omega) x1) g_no (fun h2 e44 => ?_)
      obtain ⟨n1, n2⟩ := e44
      exact g_iret C dX5_ifWritten_47 rfl ⟨by decide, by decide⟩ (mret (by unfold oIfW; rw [if_pos hv]; exact if_neg hn2) rfl ⟨_, _, _, _, X1.obj n1 n2 (gup_ne (by decide)) (gup_ne (by decide)), gup_at⟩ (gKp_tr K1 (gKp_wd n2 (by omega) (by omega))))
    · skip
      have hv2 := of_decide_eq_true (gbi_1 c27)
      refine g_aload_n 31 C dX5_ifWritten_30 rfl rfl ?_
      refine g_iload_n 32 C dX5_ifWritten_31 rfl rfl ?_
      refine g_iload_n 33 C dX5_ifWritten_32 rfl rfl ?_
      refine g_iload_n 34 C dX5_ifWritten_33 rfl rfl ?_
      refine g_iload 36 C dX5_ifWritten_34 rfl rfl ?_
      refine g_V4r 39 0 0 C dX5_ifWritten_36 rfl lk_RX5_203 gi_X5_written gv_X5_written ⟨_, _, rfl⟩ (by omega) m1 ⟨⟨by decide, by decide⟩, by decide, by decide⟩ (Nat.le_of_ble_eq_true rfl) rfl rfl rfl (c_X5_written m (gup g 6 0) hs f k (T.1.1 k) w s what hmb x1 z1 hv.2.1 hRk hoK hv.1 hv.2.2 hv2) g_no (fun h9 e36 => ?_)
      replace e36 := e36.symm
      subst e36
      refine g_goto 47 C dX5_ifWritten_39 rfl ?_
      exact g_iret C dX5_ifWritten_47 rfl ⟨by decide, by decide⟩ (mret (by unfold oIfW; rw [if_pos hv]; exact if_pos hv2) rfl ⟨_, _, _, _, X1, g6⟩ (K1))
  · skip
    have hn := of_decide_eq_false (gbi_0 c11)
    refine g_aload_n 15 C dX5_ifWritten_14 rfl rfl ?_
    refine g_iconst 16 C dX5_ifWritten_15 rfl ?_
    refine g_V1r 19 0 0 C dX5_ifWritten_16 rfl lk_RX5_39 gi_X5_fails gv_X5_fails ⟨_, _, rfl⟩ (by omega) m1 ⟨⟨by decide, by decide⟩, by decide, by decide⟩ (Nat.le_of_ble_eq_true rfl) rfl rfl rfl (c_X5_fails m (gup g 6 0) hs 1 (by omega) x1) g_no (fun h2 e16 => ?_)
    obtain ⟨n1, n2⟩ := e16
    exact g_iret C dX5_ifWritten_19 rfl ⟨by decide, by decide⟩ (mret (by unfold oIfW; exact if_neg hn) rfl ⟨_, _, _, _, X1.obj n1 n2 (gup_ne (by decide)) (gup_ne (by decide)), gup_at⟩ (gKp_tr K1 (gKp_wd n2 (by omega) (by omega))))
