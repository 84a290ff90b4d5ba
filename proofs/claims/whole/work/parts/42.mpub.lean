/-! SiblingJoinsModel: its public calls -/
/-- what holds of each key: marks ascending, numbers counted, siblings covered by the store's vector -/
def gIk (K : gKy) : Prop := okO K ∧ ∀ s : Int, 0 ≤ s → s < 3 → ∀ y ∈ K.2.2.2 s, y.1 % 1000 ≤ K.1 (y.1 / 1000) ∧ cov (K.2.2.1 s) y.1 = true
def gIv (S : gSt) : Prop := ∀ k : Int, 0 ≤ k → k < 3 → gIk (S.1 k)
theorem gIv.X {S : gSt} (h : gIv S) : okX S := fun k k0 k3 => (h k k0 k3).1
def isMx (E : gEnv) (h : gH) (m : Nat) (T : gTt) (g : Int → Int) (hs : Int64) (f fp : Int → Int) : Prop := isMo h m g hs ∧ h (m + 1) = gI E 311 f ∧ Rz f T.1 ∧ (∃ fs : Int → Int, h (m + 2) = gI E 311 fs) ∧ h (m + 3) = gI E 1866 fp ∧ g 3 = (T.2.1.1 : Int) ∧ Rpa fp T.2.1 ∧ (∃ ft : Int → Int, h (m + 4) = gI E 60 ft ∧ ∀ j : Int, 0 ≤ j → j < (T.2.2.1 : Int) → ft j = T.2.2.2 j) ∧ g 5 = (T.2.2.1 : Int) ∧ (∃ fm : Int → Int, h (m + 5) = gI E 36 fm) ∧ ∃ fo : Int → Int, h (m + 6) = gI E 60 fo
def isM (E : gEnv) (h : gH) (m : Nat) (T : gTt) (c : Int) : Prop := ∃ (g : Int → Int) (hs : Int64) (f fp : Int → Int), isMx E h m T g hs f fp ∧ g 6 = c
theorem isMx.obj {E : gEnv} {h h1 : gH} {m : Nat} {T : gTt} {g g1 : Int → Int} {hs hs1 : Int64} {f fp : Int → Int} (x : isMx E h m T g hs f fp) (hm : isMo h1 m g1 hs1) (hk : gKp m (m + 1) h h1) (h3 : g1 3 = g 3) (h5 : g1 5 = g 5) : isMx E h1 m T g1 hs1 f fp := by
  obtain ⟨x1, x2, x3, ⟨fs, x4⟩, x5, x6, x7, ⟨ft, x8, x8'⟩, x9, ⟨fm, x10⟩, ⟨fo, x11⟩⟩ := x
  exact ⟨hm, (hk _ (by omega)).trans x2, x3, ⟨fs, (hk _ (by omega)).trans x4⟩, (hk _ (by omega)).trans x5, h3.trans x6, x7, ⟨ft, (hk _ (by omega)).trans x8, x8'⟩, h5.trans x9, ⟨fm, (hk _ (by omega)).trans x10⟩, ⟨fo, (hk _ (by omega)).trans x11⟩⟩
theorem isMx.zed {E : gEnv} {h h1 : gH} {m : Nat} {T : gTt} {S : gSt} {g : Int → Int} {hs : Int64} {f f1 fp : Int → Int} (x : isMx E h m T g hs f fp) (hz : h1 (m + 1) = gI E 311 f1) (hR : Rz f1 S) (hk : gKp (m + 1) (m + 2) h h1) : isMx E h1 m (S, T.2) g hs f1 fp := by
  obtain ⟨x1, x2, x3, ⟨fs, x4⟩, x5, x6, x7, ⟨ft, x8, x8'⟩, x9, ⟨fm, x10⟩, ⟨fo, x11⟩⟩ := x
  exact ⟨(hk _ (by omega)).trans x1, hz, hR, ⟨fs, (hk _ (by omega)).trans x4⟩, (hk _ (by omega)).trans x5, x6, x7, ⟨ft, (hk _ (by omega)).trans x8, x8'⟩, x9, ⟨fm, (hk _ (by omega)).trans x10⟩, ⟨fo, (hk _ (by omega)).trans x11⟩⟩
theorem isMx.sav {E : gEnv} {h h1 : gH} {m : Nat} {T : gTt} {d : Nat × (Int → gSt)} {g g1 : Int → Int} {hs : Int64} {f fp fp1 : Int → Int} (x : isMx E h m T g hs f fp) (hm : isMo h1 m g1 hs) (hp : h1 (m + 3) = gI E 1866 fp1) (hP : Rpa fp1 d) (hk : ∀ x9 : Nat, x9 ≠ m → x9 ≠ m + 3 → h1 x9 = h x9) (h3 : g1 3 = (d.1 : Int)) (h5 : g1 5 = g 5) : isMx E h1 m (T.1, d, T.2.2) g1 hs f fp1 := by
  obtain ⟨x1, x2, x3, ⟨fs, x4⟩, x5, x6, x7, ⟨ft, x8, x8'⟩, x9, ⟨fm, x10⟩, ⟨fo, x11⟩⟩ := x
  exact ⟨hm, (hk _ (by omega) (by omega)).trans x2, x3, ⟨fs, (hk _ (by omega) (by omega)).trans x4⟩, hp, h3, hP, ⟨ft, (hk _ (by omega) (by omega)).trans x8, x8'⟩, h5.trans x9, ⟨fm, (hk _ (by omega) (by omega)).trans x10⟩, ⟨fo, (hk _ (by omega) (by omega)).trans x11⟩⟩
abbrev gRM (E : gEnv) (h : gH) (m n : Nat) (σ : Option Nat) (O : gOut) : gQt := gD (some (.int (gi O.2.1))) n σ (fun h9 => isM E h9 m O.2.2 O.1 ∧ gKp m (m + 7) h h9)
theorem mret {E : gEnv} {h h9 : gH} {m n : Nat} {σ : Option Nat} {O : gOut} {c v : Int} {T' : gTt} {r : Value} (e : O = (c, v, T')) (hr : r = .int (gi v)) (hM : isM E h9 m T' c) (hk : gKp m (m + 7) h h9) : gRM E h m n σ O (some r) n σ h9 := by
  subst e
  subst hr
  exact ⟨rfl, rfl, rfl, hM, hk⟩

set_option maxRecDepth 100000 in
set_option maxHeartbeats 4000000 in
theorem c_X5_read {E : gEnv} {n : Nat} {σ : Option Nat} {h : gH} (m : Nat) (T : gTt) (c0 : Int) (w k s : Int) (hmb : gB E ≤ m ∧ m + 7 ≤ gB E + n) (hM : isM E h m T c0) (hok : okT T) (hI : gIv T.1) (hwr : -2147483648 ≤ w ∧ w < 2147483648) (hkr : -2147483648 ≤ k ∧ k < 2147483648) (hsr : -2147483648 ≤ s ∧ s < 2147483648) : gM E mX5_read [.ref m, .int (gi w), .int (gi k), .int (gi s)] n σ h (gRM E h m n σ (oRead T w k s)) (gNo) := by
  obtain ⟨g, hs, f, fp, X0, -⟩ := hM
  have m0 := X0.1
  unfold isMo at m0
  have hokS := hok.1
  refine gM_of (by decide) (Nat.le_of_ble_eq_true rfl) (fun F C => ?_)
  refine g_aload_n 1 C dX5_read_0 rfl rfl ?_
  refine g_iconst 2 C dX5_read_1 rfl ?_
  refine g_putf 5 C dX5_read_2 fp_RX5_32 rfl (by omega) m0 rfl rfl (Nat.le_of_ble_eq_true rfl) rfl ?_
  refine g_ab (fun z => isMx E z m T (gup g 6 0) hs f fp ∧ gKp m (m + 7) h z) ⟨X0.obj up_s (gKp_up (by omega)) (gup_ne (by decide)) (gup_ne (by decide)), gKp_up (by omega)⟩ (fun h1 q1 => ?_)
  obtain ⟨X1, K1⟩ := q1
  obtain ⟨x1, z1, x3, ⟨fs, x4⟩, x5, x6, x7, ⟨ft, x8, x8e⟩, x9, ⟨fm, x10⟩, ⟨fo, x11⟩⟩ := id X1
  have m1 := x1
  unfold isMo at m1
  have g6 : gup g 6 0 6 = 0 := gup_at
  refine g_iload_n 6 C dX5_read_5 rfl rfl ?_
  refine g_iload_n 7 C dX5_read_6 rfl rfl ?_
  refine g_iload_n 8 C dX5_read_7 rfl rfl ?_
  refine g_S3r 11 0 0 C dX5_read_8 rfl lk_RX5_92 gs_X5_areThere ⟨⟨by decide, by decide⟩, by decide, by decide⟩ (Nat.le_of_ble_eq_true rfl) rfl rfl rfl (c_X5_areThere w k s hwr hkr hsr) g_no (fun h9 e8 => ?_)
  replace e8 := e8.symm
  subst e8
  refine g_if_ne 20 14 C dX5_read_11 rfl rfl (gbi_r _) (fun c11 => ?_) (fun c11 => ?_)
  · skip
    have hv := of_decide_eq_true (gbi_1 c11)
    have hRk := x3.1 k (by omega) (by omega)
    have hoK := hokS k (by omega) (by omega)
    refine g_aload_n 21 C dX5_read_20 rfl rfl ?_
    refine g_aload_n 22 C dX5_read_21 rfl rfl ?_
    refine g_getf 25 C dX5_read_22 fl_RX5_7 rfl (by omega) m1 rfl rfl ?_
    refine g_V1v 28 0 0 C dX5_read_25 rfl lk_RX5_95 gi_X5_saves gv_X5_saves ⟨_, _, rfl⟩ (by omega) m1 ⟨⟨by decide, by decide⟩, by decide, by decide⟩ (Nat.le_of_ble_eq_true rfl) rfl rfl rfl (c_X5_saves m (gup g 6 0) hs fp T.2.1 (m + 1) f T.1 hmb x1 x5 x6 hok.2.1 x7 hok.2.2.1 (Or.inl rfl) z1 x3 hokS) g_no (fun h2 e25 => ?_)
    obtain ⟨y1, ⟨fp2, y2, y3⟩, y4⟩ := e25
    have X2 : isMx E h2 m (tSave T) (gup (gup g 6 0) 3 (((tDrop T.2.1).1 : Int) + 1)) hs f fp2 := X1.sav y1 y2 y3 y4 gup_at (gup_ne (by decide))
    have K2 : gKp m (m + 7) h h2 := gKp_tr K1 (fun q hq => y4 q (by omega) (by omega))
    have g62 : gup (gup g 6 0) 3 (((tDrop T.2.1).1 : Int) + 1) 6 = 0 := (gup_ne (by decide)).trans g6
    obtain ⟨x1, z1, x3, ⟨fs, x4⟩, x5, x6, x7, ⟨ft, x8, x8e⟩, x9, ⟨fm, x10⟩, ⟨fo, x11⟩⟩ := id X2
    have m1 := x1
    unfold isMo at m1
    have x3 : Rz f T.1 := x3
    refine g_aload_n 29 C dX5_read_28 rfl rfl ?_
    refine g_iload_n 30 C dX5_read_29 rfl rfl ?_
    refine g_iload_n 31 C dX5_read_30 rfl rfl ?_
    refine g_S2r 34 0 0 C dX5_read_31 rfl lk_RX5_54 gs_X5_knowsAt ⟨⟨by decide, by decide⟩, by decide, by decide⟩ (Nat.le_of_ble_eq_true rfl) rfl rfl rfl (c_X5_knowsAt k w) g_no (fun h9 e31 => ?_)
    replace e31 := e31.symm
    subst e31
    refine g_iload_n 35 C dX5_read_34 rfl rfl ?_
    refine g_iload_n 36 C dX5_read_35 rfl rfl ?_
    refine g_S2r 39 0 0 C dX5_read_36 rfl lk_RX5_75 gs_X5_vectorAt ⟨⟨by decide, by decide⟩, by decide, by decide⟩ (Nat.le_of_ble_eq_true rfl) rfl rfl rfl (c_X5_vectorAt k s) g_no (fun h9 e36 => ?_)
    replace e36 := e36.symm
    subst e36
    refine g_V2v 42 0 0 C dX5_read_39 rfl lk_RX5_78 gi_X5_merges gv_X5_merges ⟨_, _, rfl⟩ (by omega) m1 ⟨⟨by decide, by decide⟩, by decide, by decide⟩ (Nat.le_of_ble_eq_true rfl) rfl rfl rfl (c_X5_merges m (gup (gup g 6 0) 3 (((tDrop T.2.1).1 : Int) + 1)) hs f (15 + 25 * k + 5 * w) (90 + 15 * k + 5 * s) ((T.1.1 k).2.1 w) ((T.1.1 k).2.2.1 s) hmb x1 z1 (by omega) (by omega) (by omega) (hRk.2.1 w hv.1.1 hv.1.2) (hRk.2.2.1 s hv.2.2.1 hv.2.2.2) (hoK.2.1 w hv.1.1 hv.1.2) (hoK.2.2.1 s hv.2.2.1 hv.2.2.2)) g_no (fun h3 e39 => ?_)
    obtain ⟨⟨f3, z3, rv3, fk3⟩, k3⟩ := e39
    have R3 := hRk.setN hoK hv.2.1 hv.1 rv3 fk3
    have Z3 := x3.setK (K' := kLearn (T.1.1 k) w s) hokS hv.2.1 R3 (fKy_N hv.1 fk3)
    have X3 := X2.zed z3 Z3 k3
    have K3 := gKp_tr K2 (gKp_wd k3 (by omega) (by omega))
    have rl3 := R3.2.2.2 s hv.2.2.1 hv.2.2.2
    refine g_aload_n 43 C dX5_read_42 rfl rfl ?_
    refine g_iload_n 44 C dX5_read_43 rfl rfl ?_
    refine g_iload_n 45 C dX5_read_44 rfl rfl ?_
    refine g_V2r 48 0 0 C dX5_read_45 rfl lk_RX5_47 gi_X5_siblings gv_X5_siblings ⟨_, _, rfl⟩ (by omega) ((k3 m (by omega)).trans m1) ⟨⟨by decide, by decide⟩, by decide, by decide⟩ (Nat.le_of_ble_eq_true rfl) rfl rfl rfl (c_X5_siblings m (gup (gup g 6 0) 3 (((tDrop T.2.1).1 : Int) + 1)) hs f3 k s ((T.1.1 k).2.2.2 s) hmb X3.1 z3 hv.2.1 hv.2.2 rl3) g_no (fun h9 e45 => ?_)
    replace e45 := e45.symm
    subst e45
    exact g_iret C dX5_read_48 rfl ⟨by decide, by decide⟩ (mret (by unfold oRead; exact if_pos hv) rfl ⟨_, _, _, _, X3, g62⟩ (K3))
  · skip
    have hn := of_decide_eq_false (gbi_0 c11)
    refine g_aload_n 15 C dX5_read_14 rfl rfl ?_
    refine g_iconst 16 C dX5_read_15 rfl ?_
    refine g_V1r 19 0 0 C dX5_read_16 rfl lk_RX5_39 gi_X5_fails gv_X5_fails ⟨_, _, rfl⟩ (by omega) m1 ⟨⟨by decide, by decide⟩, by decide, by decide⟩ (Nat.le_of_ble_eq_true rfl) rfl rfl rfl (c_X5_fails m (gup g 6 0) hs 1 (by omega) x1) g_no (fun h2 e16 => ?_)
    obtain ⟨n1, n2⟩ := e16
    exact g_iret C dX5_read_19 rfl ⟨by decide, by decide⟩ (mret (by unfold oRead; exact if_neg hn) rfl ⟨_, _, _, _, X1.obj n1 n2 (gup_ne (by decide)) (gup_ne (by decide)), gup_at⟩ (gKp_tr K1 (gKp_wd n2 (by omega) (by omega))))
