/-! rows in Z for each call on an object whose state is known -/
/-- what stands about a frame and its object -/
def zB (E0 : gEnv) (F : gFr) (t : gMt) (b x n : Nat) (R : gH → Prop) : Prop := gC E0 F t ∧ t.1.cls = RL ∧ E0.1.stackTraces = false ∧ (b ≤ x ∧ x + 524 ≤ b + n) ∧ ∀ h h1 : gH, gKp x (x + 524) h h1 → R h → R h1
set_option maxRecDepth 100000 in
set_option maxHeartbeats 4000000 in
theorem c_L_isSibling {E : gEnv} {n : Nat} {h : gH} {S : gSt} {c : Nat} {f : Int → gSt} {bu : Nat × (Int → Int)} (x : Nat) (s k p v0 v1 v2 v3 v4 : Int) (hk : (ckSib S s k p 0 v0 && (ckSib S s k p 1 v1 && (ckSib S s k p 2 v2 && (ckSib S s k p 3 v3 && ckSib S s k p 4 v4)))) = true) (hv : (-2147483648 ≤ v0 ∧ v0 < 2147483648) ∧ (-2147483648 ≤ v1 ∧ v1 < 2147483648) ∧ (-2147483648 ≤ v2 ∧ v2 < 2147483648) ∧ (-2147483648 ≤ v3 ∧ v3 < 2147483648) ∧ (-2147483648 ≤ v4 ∧ v4 < 2147483648)) (hl : E.1.stackTraces = false) (hxb : gB E ≤ x ∧ x + 524 ≤ gB E + n) (hJ : isJ E h x (S, (c, f), bu)) (hok : okT (S, (c, f), bu)) : gM E mL_isSibling [.ref x, .int (gi s), .int (gi k), .int (gi p), .int (gi v0), .int (gi v1), .int (gi v2), .int (gi v3), .int (gi v4)] n none h (gTrue E h x n (S, (c, f), bu)) gNo := by
  obtain ⟨y0, hk⟩ := ba hk
  obtain ⟨y1, hk⟩ := ba hk
  obtain ⟨y2, hk⟩ := ba hk
  obtain ⟨y3, y4⟩ := ba hk
  obtain ⟨hv0, hv1, hv2, hv3, hv4⟩ := hv
  have j1 := hJ.1
  unfold isJo at j1
  refine gM_of (by decide) (Nat.le_of_ble_eq_true rfl) (fun F C => ?_)
  refine g_aload_n 1 C dL_isSibling_0 rfl rfl ?_
  refine g_iload_n 2 C dL_isSibling_1 rfl rfl ?_
  refine g_iload_n 3 C dL_isSibling_2 rfl rfl ?_
  refine g_iload_n 4 C dL_isSibling_3 rfl rfl ?_
  refine g_iconst 5 C dL_isSibling_4 rfl ?_
  have hO0 := ckSib_o (c := c) (f := f) (bu := bu) y0
  have hM0 := c_X4_sibling (E := E) (σ := none) x (S, (c, f), bu) s k p 0 hl hxb hJ hok (by omega) (by omega) (by omega) (by decide)
  rw [hO0.1] at hM0
  refine g_V4r 8 4 24 C dL_isSibling_5 rfl lk_RL_43 gi_X4_sibling gv_X4_sibling ⟨_, _, rfl⟩ (by omega) j1 ⟨⟨by decide, by decide⟩, by decide, by decide⟩ (Nat.le_of_ble_eq_true rfl) rfl rfl rfl hM0 (gTo_X rfl) (fun h1 e1 => ?_)
  obtain ⟨-, hJ1, hk1⟩ := e1
  have j1 := hJ1.1
  unfold isJo at j1
  refine g_iload 10 C dL_isSibling_8 rfl rfl ?_
  refine g_icmp_ne 69 13 C dL_isSibling_10 rfl rfl hv0 hv0 (fun c8 => absurd rfl c8) (fun _ => ?_)
  refine g_aload_n 14 C dL_isSibling_13 rfl rfl ?_
  refine g_iload_n 15 C dL_isSibling_14 rfl rfl ?_
  refine g_iload_n 16 C dL_isSibling_15 rfl rfl ?_
  refine g_iload_n 17 C dL_isSibling_16 rfl rfl ?_
  refine g_iconst 18 C dL_isSibling_17 rfl ?_
  have hO1 := ckSib_o (c := c) (f := f) (bu := bu) y1
  have hM1 := c_X4_sibling (E := E) (σ := none) x (S, (c, f), bu) s k p 1 hl hxb hJ1 hok (by omega) (by omega) (by omega) (by decide)
  rw [hO1.1] at hM1
  refine g_V4r 21 8 48 C dL_isSibling_18 rfl lk_RL_43 gi_X4_sibling gv_X4_sibling ⟨_, _, rfl⟩ (by omega) j1 ⟨⟨by decide, by decide⟩, by decide, by decide⟩ (Nat.le_of_ble_eq_true rfl) rfl rfl rfl hM1 (gTo_X rfl) (fun h2 e2 => ?_)
  obtain ⟨-, hJ2, hk2⟩ := e2
  have j1 := hJ2.1
  unfold isJo at j1
  refine g_iload 23 C dL_isSibling_21 rfl rfl ?_
  refine g_icmp_ne 69 26 C dL_isSibling_23 rfl rfl hv1 hv1 (fun c8 => absurd rfl c8) (fun _ => ?_)
  refine g_aload_n 27 C dL_isSibling_26 rfl rfl ?_
  refine g_iload_n 28 C dL_isSibling_27 rfl rfl ?_
  refine g_iload_n 29 C dL_isSibling_28 rfl rfl ?_
  refine g_iload_n 30 C dL_isSibling_29 rfl rfl ?_
  refine g_iconst 31 C dL_isSibling_30 rfl ?_
  have hO2 := ckSib_o (c := c) (f := f) (bu := bu) y2
  have hM2 := c_X4_sibling (E := E) (σ := none) x (S, (c, f), bu) s k p 2 hl hxb hJ2 hok (by omega) (by omega) (by omega) (by decide)
  rw [hO2.1] at hM2
  refine g_V4r 34 12 72 C dL_isSibling_31 rfl lk_RL_43 gi_X4_sibling gv_X4_sibling ⟨_, _, rfl⟩ (by omega) j1 ⟨⟨by decide, by decide⟩, by decide, by decide⟩ (Nat.le_of_ble_eq_true rfl) rfl rfl rfl hM2 (gTo_X rfl) (fun h3 e3 => ?_)
  obtain ⟨-, hJ3, hk3⟩ := e3
  have j1 := hJ3.1
  unfold isJo at j1
  refine g_iload 36 C dL_isSibling_34 rfl rfl ?_
  refine g_icmp_ne 69 39 C dL_isSibling_36 rfl rfl hv2 hv2 (fun c8 => absurd rfl c8) (fun _ => ?_)
  refine g_aload_n 40 C dL_isSibling_39 rfl rfl ?_
  refine g_iload_n 41 C dL_isSibling_40 rfl rfl ?_
  refine g_iload_n 42 C dL_isSibling_41 rfl rfl ?_
  refine g_iload_n 43 C dL_isSibling_42 rfl rfl ?_
  refine g_iconst 44 C dL_isSibling_43 rfl ?_
  have hO3 := ckSib_o (c := c) (f := f) (bu := bu) y3
  have hM3 := c_X4_sibling (E := E) (σ := none) x (S, (c, f), bu) s k p 3 hl hxb hJ3 hok (by omega) (by omega) (by omega) (by decide)
  rw [hO3.1] at hM3
  refine g_V4r 47 16 96 C dL_isSibling_44 rfl lk_RL_43 gi_X4_sibling gv_X4_sibling ⟨_, _, rfl⟩ (by omega) j1 ⟨⟨by decide, by decide⟩, by decide, by decide⟩ (Nat.le_of_ble_eq_true rfl) rfl rfl rfl hM3 (gTo_X rfl) (fun h4 e4 => ?_)
  obtain ⟨-, hJ4, hk4⟩ := e4
  have j1 := hJ4.1
  unfold isJo at j1
  refine g_iload 49 C dL_isSibling_47 rfl rfl ?_
  refine g_icmp_ne 69 52 C dL_isSibling_49 rfl rfl hv3 hv3 (fun c8 => absurd rfl c8) (fun _ => ?_)
  refine g_aload_n 53 C dL_isSibling_52 rfl rfl ?_
  refine g_iload_n 54 C dL_isSibling_53 rfl rfl ?_
  refine g_iload_n 55 C dL_isSibling_54 rfl rfl ?_
  refine g_iload_n 56 C dL_isSibling_55 rfl rfl ?_
  refine g_iconst 57 C dL_isSibling_56 rfl ?_
  have hO4 := ckSib_o (c := c) (f := f) (bu := bu) y4
  have hM4 := c_X4_sibling (E := E) (σ := none) x (S, (c, f), bu) s k p 4 hl hxb hJ4 hok (by omega) (by omega) (by omega) (by decide)
  rw [hO4.1] at hM4
  refine g_V4r 60 20 120 C dL_isSibling_57 rfl lk_RL_43 gi_X4_sibling gv_X4_sibling ⟨_, _, rfl⟩ (by omega) j1 ⟨⟨by decide, by decide⟩, by decide, by decide⟩ (Nat.le_of_ble_eq_true rfl) rfl rfl rfl hM4 (gTo_X rfl) (fun h5 e5 => ?_)
  obtain ⟨-, hJ5, hk5⟩ := e5
  have j1 := hJ5.1
  unfold isJo at j1
  refine g_iload 62 C dL_isSibling_60 rfl rfl ?_
  refine g_icmp_ne 69 65 C dL_isSibling_62 rfl rfl hv4 hv4 (fun c8 => absurd rfl c8) (fun _ => ?_)
  refine g_iconst 66 C dL_isSibling_65 rfl ?_
  refine g_goto 70 C dL_isSibling_66 rfl ?_
  exact g_zret C dL_isSibling_70 rfl rfl ⟨by decide, by decide⟩ ⟨rfl, rfl, rfl, hJ5, gKp_tr (gKp_tr (gKp_tr (gKp_tr (gKp_tr (gKp_rf) hk1) hk2) hk3) hk4) hk5⟩
section ZUU
variable {E0 : gEnv} {b : Nat} {fz : Heap} {F : gFr} {t : gMt} {Q : State → Prop} {n x : Nat} {R : gH → Prop} {h : gH} {kc ks pc : Nat} {L : List (Nat × Value)} {rest : List Value} {S : gSt} {c : Nat} {f : Int → gSt} {bu : Nat × (Int → Int)}
theorem zu_core {T : gTt} {tc : gMt} {index np : Nat} {As : List Value} {O : gOut} {QX : String → gH → Prop} (pc' kc' ks' : Nat) (B : zB E0 F t b x n R) (hd : decode (gCode t) pc = .ok (.invokevirtual index, 3)) (lk : gLk RL index tc np) (hi : Cond.instanceMethod tc.1 ∈ wsG) (hs : Cond.selects RX4 tc.1 tc.1 ∈ wsG) (hn : As.length = np) (ft : gFit tc t kc ks) (hw : (rest.map fun v => v.category).sum ≤ 8) (hp : pc + 3 = pc') (hk1 : kc + gMc tc = kc') (hk2 : ks + gMs tc = ks') (hJ : isJ (gRe E0 b) h x T) (hr : R h)
    (hM : gM (gRe E0 b) tc (.ref x :: As) n none h (gRT (gRe E0 b) h x n O) QX) (hx : ∀ (X : String) (h' : gH), ¬ QX X h')
    (kk : ∀ h' : gH, isJ (gRe E0 b) h' x O.2.2 → R h' → Z E0 b fz F t Q n none h' kc' ks' pc' L (.int (gi O.2.1) :: rest)) : Z E0 b fz F t Q n none h kc ks pc L (As.reverse ++ .ref x :: rest) := by
  subst hk1
  subst hk2
  have j1 := hJ.1
  unfold isJo at j1
  refine z_callV (ci := 4) (Cl := RX4) (np := np) pc' B.1 hd B.2.1 lk hi hs ⟨_, _, rfl⟩ ⟨by have := B.2.2.2.1; omega, by have := B.2.2.2.1; omega⟩ j1 hn ft hw hp hM hx (fun v n' σ' h' hq => ?_)
  obtain ⟨rfl, rfl, rfl, -, e2, e3⟩ := hq
  exact kk h' e2 (B.2.2.2.2 _ _ e3 hr)
theorem zu_Read (w k s a : Int) (S' : gSt) (hk : ckRead S S' w k s a = true) (pc' kc' ks' : Nat) (B : zB E0 F t b x n R) (hd : decode (gCode t) pc = .ok (.invokevirtual 9, 3)) (ft : gFit mX4_read t kc ks) (hw : (rest.map fun v => v.category).sum ≤ 8) (hp : pc + 3 = pc') (hk1 : kc + 3 = kc') (hk2 : ks + 18 = ks') (hok : okT (S, (c, f), bu)) (hJ : isJ (gRe E0 b) h x (S, (c, f), bu)) (hr : R h)
    (kk : ∀ h' : gH, okT (S', (cUp c, fUp S c f), bu) → isJ (gRe E0 b) h' x (S', (cUp c, fUp S c f), bu) → R h' → Z E0 b fz F t Q n none h' kc' ks' pc' L (.int (gi a) :: rest)) : Z E0 b fz F t Q n none h kc ks pc L (.int (gi s) :: .int (gi k) :: .int (gi w) :: .ref x :: rest) := by
  obtain ⟨hO, hE, hv⟩ := ckRead_o (c := c) (f := f) (bu := bu) hk
  have hok2 := okT_read (T := (S, (c, f), bu)) (w := w) (k := k) (s := s) hok
  have hM := c_X4_read (E := gRe E0 b) (n := n) (σ := none) (h := h) x (S, (c, f), bu) w k s B.2.2.1 B.2.2.2.1 hJ hok (by omega) (by omega) (by omega)
  rw [hO] at hM hok2
  exact zu_core (As := [.int (gi w), .int (gi k), .int (gi s)]) pc' kc' ks' B hd lk_RL_9 gi_X4_read gv_X4_read rfl ft hw hp hk1 hk2 hJ hr hM (fun _ _ z => absurd rfl z.2.1) (fun h' eJ er => kk h' (okT_eq hE hok2) (isJ_eq hE eJ) er)
theorem zu_Write (w k s v a : Int) (S' : gSt) (hk : ckWrite S S' w k s v a = true) (pc' kc' ks' : Nat) (B : zB E0 F t b x n R) (hd : decode (gCode t) pc = .ok (.invokevirtual 15, 3)) (ft : gFit mX4_write t kc ks) (hw : (rest.map fun v => v.category).sum ≤ 8) (hp : pc + 3 = pc') (hk1 : kc + 5 = kc') (hk2 : ks + 30 = ks') (hok : okT (S, (c, f), bu)) (hJ : isJ (gRe E0 b) h x (S, (c, f), bu)) (hr : R h)
    (kk : ∀ h' : gH, okT (S', (cUp c, fUp S c f), bu) → isJ (gRe E0 b) h' x (S', (cUp c, fUp S c f), bu) → R h' → Z E0 b fz F t Q n none h' kc' ks' pc' L (.int (gi a) :: rest)) : Z E0 b fz F t Q n none h kc ks pc L (.int (gi v) :: .int (gi s) :: .int (gi k) :: .int (gi w) :: .ref x :: rest) := by
  obtain ⟨hO, hE, hv⟩ := ckWrite_o (c := c) (f := f) (bu := bu) hk
  have hok2 := okT_write (T := (S, (c, f), bu)) (w := w) (k := k) (s := s) (v := v) hok
  have hM := c_X4_write (E := gRe E0 b) (n := n) (σ := none) (h := h) x (S, (c, f), bu) w k s v B.2.2.1 B.2.2.2.1 hJ hok (by omega) (by omega) (by omega) (by omega)
  rw [hO] at hM hok2
  exact zu_core (As := [.int (gi w), .int (gi k), .int (gi s), .int (gi v)]) pc' kc' ks' B hd lk_RL_15 gi_X4_write gv_X4_write rfl ft hw hp hk1 hk2 hJ hr hM (fun _ _ z => absurd rfl z.2.1) (fun h' eJ er => kk h' (okT_eq hE hok2) (isJ_eq hE eJ) er)
theorem zu_Pull (s o k a : Int) (S' : gSt) (hk : ckPull S S' s o k a = true) (pc' kc' ks' : Nat) (B : zB E0 F t b x n R) (hd : decode (gCode t) pc = .ok (.invokevirtual 19, 3)) (ft : gFit mX4_pull t kc ks) (hw : (rest.map fun v => v.category).sum ≤ 8) (hp : pc + 3 = pc') (hk1 : kc + 5 = kc') (hk2 : ks + 30 = ks') (hok : okT (S, (c, f), bu)) (hJ : isJ (gRe E0 b) h x (S, (c, f), bu)) (hr : R h)
    (kk : ∀ h' : gH, okT (S', (cUp c, fUp S c f), bu) → isJ (gRe E0 b) h' x (S', (cUp c, fUp S c f), bu) → R h' → Z E0 b fz F t Q n none h' kc' ks' pc' L (.int (gi a) :: rest)) : Z E0 b fz F t Q n none h kc ks pc L (.int (gi k) :: .int (gi o) :: .int (gi s) :: .ref x :: rest) := by
  obtain ⟨hO, hE, hv⟩ := ckPull_o (c := c) (f := f) (bu := bu) hk
  have hok2 := okT_pull (T := (S, (c, f), bu)) (s := s) (o := o) (k := k) hok
  have hM := c_X4_pull (E := gRe E0 b) (n := n) (σ := none) (h := h) x (S, (c, f), bu) s o k B.2.2.1 B.2.2.2.1 hJ hok (by omega) (by omega) (by omega)
  rw [hO] at hM hok2
  exact zu_core (As := [.int (gi s), .int (gi o), .int (gi k)]) pc' kc' ks' B hd lk_RL_19 gi_X4_pull gv_X4_pull rfl ft hw hp hk1 hk2 hJ hr hM (fun _ _ z => absurd rfl z.2.1) (fun h' eJ er => kk h' (okT_eq hE hok2) (isJ_eq hE eJ) er)
theorem zu_Join (w k s rule a : Int) (S' : gSt) (hk : ckJoin S S' w k s rule a = true) (pc' kc' ks' : Nat) (B : zB E0 F t b x n R) (hd : decode (gCode t) pc = .ok (.invokevirtual 22, 3)) (ft : gFit mX4_join t kc ks) (hw : (rest.map fun v => v.category).sum ≤ 8) (hp : pc + 3 = pc') (hk1 : kc + 5 = kc') (hk2 : ks + 30 = ks') (hok : okT (S, (c, f), bu)) (hJ : isJ (gRe E0 b) h x (S, (c, f), bu)) (hr : R h)
    (kk : ∀ h' : gH, okT (S', (cUp c, fUp S c f), bu) → isJ (gRe E0 b) h' x (S', (cUp c, fUp S c f), bu) → R h' → Z E0 b fz F t Q n none h' kc' ks' pc' L (.int (gi a) :: rest)) : Z E0 b fz F t Q n none h kc ks pc L (.int (gi rule) :: .int (gi s) :: .int (gi k) :: .int (gi w) :: .ref x :: rest) := by
  obtain ⟨hO, hE, hv⟩ := ckJoin_o (c := c) (f := f) (bu := bu) hk
  have hok2 := okT_join (T := (S, (c, f), bu)) (w := w) (k := k) (s := s) (rule := rule) hok
  have hM := c_X4_join (E := gRe E0 b) (n := n) (σ := none) (h := h) x (S, (c, f), bu) w k s rule B.2.2.1 B.2.2.2.1 hJ hok (by omega) (by omega) (by omega) (by omega)
  rw [hO] at hM hok2
  exact zu_core (As := [.int (gi w), .int (gi k), .int (gi s), .int (gi rule)]) pc' kc' ks' B hd lk_RL_22 gi_X4_join gv_X4_join rfl ft hw hp hk1 hk2 hJ hr hM (fun _ _ z => absurd rfl z.2.1) (fun h' eJ er => kk h' (okT_eq hE hok2) (isJ_eq hE eJ) er)
theorem zu_Lose (w k a : Int) (S' : gSt) (hk : ckLose S S' w k a = true) (pc' kc' ks' : Nat) (B : zB E0 F t b x n R) (hd : decode (gCode t) pc = .ok (.invokevirtual 25, 3)) (ft : gFit mX4_lose t kc ks) (hw : (rest.map fun v => v.category).sum ≤ 8) (hp : pc + 3 = pc') (hk1 : kc + 2 = kc') (hk2 : ks + 12 = ks') (hok : okT (S, (c, f), bu)) (hJ : isJ (gRe E0 b) h x (S, (c, f), bu)) (hr : R h)
    (kk : ∀ h' : gH, okT (S', (cUp c, fUp S c f), bu) → isJ (gRe E0 b) h' x (S', (cUp c, fUp S c f), bu) → R h' → Z E0 b fz F t Q n none h' kc' ks' pc' L (.int (gi a) :: rest)) : Z E0 b fz F t Q n none h kc ks pc L (.int (gi k) :: .int (gi w) :: .ref x :: rest) := by
  obtain ⟨hO, hE, hv⟩ := ckLose_o (c := c) (f := f) (bu := bu) hk
  have hok2 := okT_lose (T := (S, (c, f), bu)) (w := w) (k := k) hok
  have hM := c_X4_lose (E := gRe E0 b) (n := n) (σ := none) (h := h) x (S, (c, f), bu) w k B.2.2.1 B.2.2.2.1 hJ hok (by omega) (by omega)
  rw [hO] at hM hok2
  exact zu_core (As := [.int (gi w), .int (gi k)]) pc' kc' ks' B hd lk_RL_25 gi_X4_lose gv_X4_lose rfl ft hw hp hk1 hk2 hJ hr hM (fun _ _ z => absurd rfl z.2.1) (fun h' eJ er => kk h' (okT_eq hE hok2) (isJ_eq hE eJ) er)
theorem zu_Forget (w k a : Int) (S' : gSt) (hk : ckForget S S' w k a = true) (pc' kc' ks' : Nat) (B : zB E0 F t b x n R) (hd : decode (gCode t) pc = .ok (.invokevirtual 29, 3)) (ft : gFit mX4_forget t kc ks) (hw : (rest.map fun v => v.category).sum ≤ 8) (hp : pc + 3 = pc') (hk1 : kc + 3 = kc') (hk2 : ks + 18 = ks') (hok : okT (S, (c, f), bu)) (hJ : isJ (gRe E0 b) h x (S, (c, f), bu)) (hr : R h)
    (kk : ∀ h' : gH, okT (S', (cUp c, fUp S c f), bu) → isJ (gRe E0 b) h' x (S', (cUp c, fUp S c f), bu) → R h' → Z E0 b fz F t Q n none h' kc' ks' pc' L (.int (gi a) :: rest)) : Z E0 b fz F t Q n none h kc ks pc L (.int (gi k) :: .int (gi w) :: .ref x :: rest) := by
  obtain ⟨hO, hE, hv⟩ := ckForget_o (c := c) (f := f) (bu := bu) hk
  have hok2 := okT_forget (T := (S, (c, f), bu)) (w := w) (k := k) hok
  have hM := c_X4_forget (E := gRe E0 b) (n := n) (σ := none) (h := h) x (S, (c, f), bu) w k B.2.2.1 B.2.2.2.1 hJ hok (by omega) (by omega)
  rw [hO] at hM hok2
  exact zu_core (As := [.int (gi w), .int (gi k)]) pc' kc' ks' B hd lk_RL_29 gi_X4_forget gv_X4_forget rfl ft hw hp hk1 hk2 hJ hr hM (fun _ _ z => absurd rfl z.2.1) (fun h' eJ er => kk h' (okT_eq hE hok2) (isJ_eq hE eJ) er)
theorem zu_Vec (s k w a : Int) (hk : ckVec S s k w a = true) (pc' kc' ks' : Nat) (B : zB E0 F t b x n R) (hd : decode (gCode t) pc = .ok (.invokevirtual 46, 3)) (ft : gFit mX4_vector t kc ks) (hw : (rest.map fun v => v.category).sum ≤ 8) (hp : pc + 3 = pc') (hk1 : kc + 3 = kc') (hk2 : ks + 18 = ks') (hok : okT (S, (c, f), bu)) (hJ : isJ (gRe E0 b) h x (S, (c, f), bu)) (hr : R h)
    (kk : ∀ h' : gH, isJ (gRe E0 b) h' x (S, (c, f), bu) → R h' → Z E0 b fz F t Q n none h' kc' ks' pc' L (.int (gi a) :: rest)) : Z E0 b fz F t Q n none h kc ks pc L (.int (gi w) :: .int (gi k) :: .int (gi s) :: .ref x :: rest) := by
  obtain ⟨hO, hv⟩ := ckVec_o (c := c) (f := f) (bu := bu) hk
  have hM := c_X4_vector (E := gRe E0 b) (n := n) (σ := none) (h := h) x (S, (c, f), bu) s k w B.2.2.1 B.2.2.2.1 hJ hok (by omega) (by omega) (by omega)
  rw [hO] at hM
  exact zu_core (As := [.int (gi s), .int (gi k), .int (gi w)]) pc' kc' ks' B hd lk_RL_46 gi_X4_vector gv_X4_vector rfl ft hw hp hk1 hk2 hJ hr hM (fun _ _ z => absurd rfl z.2.1) (fun h' eJ er => kk h' eJ er)
theorem zu_Kno (w k o a : Int) (hk : ckKno S w k o a = true) (pc' kc' ks' : Nat) (B : zB E0 F t b x n R) (hd : decode (gCode t) pc = .ok (.invokevirtual 49, 3)) (ft : gFit mX4_knows t kc ks) (hw : (rest.map fun v => v.category).sum ≤ 8) (hp : pc + 3 = pc') (hk1 : kc + 3 = kc') (hk2 : ks + 18 = ks') (hok : okT (S, (c, f), bu)) (hJ : isJ (gRe E0 b) h x (S, (c, f), bu)) (hr : R h)
    (kk : ∀ h' : gH, isJ (gRe E0 b) h' x (S, (c, f), bu) → R h' → Z E0 b fz F t Q n none h' kc' ks' pc' L (.int (gi a) :: rest)) : Z E0 b fz F t Q n none h kc ks pc L (.int (gi o) :: .int (gi k) :: .int (gi w) :: .ref x :: rest) := by
  obtain ⟨hO, hv⟩ := ckKno_o (c := c) (f := f) (bu := bu) hk
  have hM := c_X4_knows (E := gRe E0 b) (n := n) (σ := none) (h := h) x (S, (c, f), bu) w k o B.2.2.1 B.2.2.2.1 hJ hok (by omega) (by omega) (by omega)
  rw [hO] at hM
  exact zu_core (As := [.int (gi w), .int (gi k), .int (gi o)]) pc' kc' ks' B hd lk_RL_49 gi_X4_knows gv_X4_knows rfl ft hw hp hk1 hk2 hJ hr hM (fun _ _ z => absurd rfl z.2.1) (fun h' eJ er => kk h' eJ er)
theorem zu_Key (k what a : Int) (hk : ckKey S k what a = true) (pc' kc' ks' : Nat) (B : zB E0 F t b x n R) (hd : decode (gCode t) pc = .ok (.invokevirtual 52, 3)) (ft : gFit mX4_key t kc ks) (hw : (rest.map fun v => v.category).sum ≤ 8) (hp : pc + 3 = pc') (hk1 : kc + 2 = kc') (hk2 : ks + 12 = ks') (hok : okT (S, (c, f), bu)) (hJ : isJ (gRe E0 b) h x (S, (c, f), bu)) (hr : R h)
    (kk : ∀ h' : gH, isJ (gRe E0 b) h' x (S, (c, f), bu) → R h' → Z E0 b fz F t Q n none h' kc' ks' pc' L (.int (gi a) :: rest)) : Z E0 b fz F t Q n none h kc ks pc L (.int (gi what) :: .int (gi k) :: .ref x :: rest) := by
  obtain ⟨hO, hv⟩ := ckKey_o (c := c) (f := f) (bu := bu) hk
  have hM := c_X4_key (E := gRe E0 b) (n := n) (σ := none) (h := h) x (S, (c, f), bu) k what B.2.2.1 B.2.2.2.1 hJ hok (by omega) (by omega)
  rw [hO] at hM
  exact zu_core (As := [.int (gi k), .int (gi what)]) pc' kc' ks' B hd lk_RL_52 gi_X4_key gv_X4_key rfl ft hw hp hk1 hk2 hJ hr hM (fun _ _ z => absurd rfl z.2.1) (fun h' eJ er => kk h' eJ er)
theorem zu_Sib (s k p what a : Int) (hk : ckSib S s k p what a = true) (pc' kc' ks' : Nat) (B : zB E0 F t b x n R) (hd : decode (gCode t) pc = .ok (.invokevirtual 43, 3)) (ft : gFit mX4_sibling t kc ks) (hw : (rest.map fun v => v.category).sum ≤ 8) (hp : pc + 3 = pc') (hk1 : kc + 4 = kc') (hk2 : ks + 24 = ks') (hok : okT (S, (c, f), bu)) (hJ : isJ (gRe E0 b) h x (S, (c, f), bu)) (hr : R h)
    (kk : ∀ h' : gH, isJ (gRe E0 b) h' x (S, (c, f), bu) → R h' → Z E0 b fz F t Q n none h' kc' ks' pc' L (.int (gi a) :: rest)) : Z E0 b fz F t Q n none h kc ks pc L (.int (gi what) :: .int (gi p) :: .int (gi k) :: .int (gi s) :: .ref x :: rest) := by
  obtain ⟨hO, hv⟩ := ckSib_o (c := c) (f := f) (bu := bu) hk
  have hM := c_X4_sibling (E := gRe E0 b) (n := n) (σ := none) (h := h) x (S, (c, f), bu) s k p what B.2.2.1 B.2.2.2.1 hJ hok (by omega) (by omega) (by omega) (by omega)
  rw [hO] at hM
  exact zu_core (As := [.int (gi s), .int (gi k), .int (gi p), .int (gi what)]) pc' kc' ks' B hd lk_RL_43 gi_X4_sibling gv_X4_sibling rfl ft hw hp hk1 hk2 hJ hr hM (fun _ _ z => absurd rfl z.2.1) (fun h' eJ er => kk h' eJ er)
theorem zu_Cnt (what a : Int) (hk : ckCnt S what a = true) (pc' kc' ks' : Nat) (B : zB E0 F t b x n R) (hd : decode (gCode t) pc = .ok (.invokevirtual 55, 3)) (ft : gFit mX4_count t kc ks) (hw : (rest.map fun v => v.category).sum ≤ 8) (hp : pc + 3 = pc') (hk1 : kc + 1 = kc') (hk2 : ks + 6 = ks') (hok : okT (S, (c, f), bu)) (hJ : isJ (gRe E0 b) h x (S, (c, f), bu)) (hr : R h)
    (kk : ∀ h' : gH, isJ (gRe E0 b) h' x (S, (c, f), bu) → R h' → Z E0 b fz F t Q n none h' kc' ks' pc' L (.int (gi a) :: rest)) : Z E0 b fz F t Q n none h kc ks pc L (.int (gi what) :: .ref x :: rest) := by
  obtain ⟨hO, hv⟩ := ckCnt_o (c := c) (f := f) (bu := bu) hk
  have hM := c_X4_count (E := gRe E0 b) (n := n) (σ := none) (h := h) x (S, (c, f), bu) what B.2.2.1 B.2.2.2.1 hJ hok (by omega)
  rw [hO] at hM
  exact zu_core (As := [.int (gi what)]) pc' kc' ks' B hd lk_RL_55 gi_X4_count gv_X4_count rfl ft hw hp hk1 hk2 hJ hr hM (fun _ _ z => absurd rfl z.2.1) (fun h' eJ er => kk h' eJ er)
theorem zu_IfW (w k s what a : Int) (hk : ckIfW S w k s what a = true) (pc' kc' ks' : Nat) (B : zB E0 F t b x n R) (hd : decode (gCode t) pc = .ok (.invokevirtual 58, 3)) (ft : gFit mX4_ifWritten t kc ks) (hw : (rest.map fun v => v.category).sum ≤ 8) (hp : pc + 3 = pc') (hk1 : kc + 4 = kc') (hk2 : ks + 24 = ks') (hok : okT (S, (c, f), bu)) (hJ : isJ (gRe E0 b) h x (S, (c, f), bu)) (hr : R h)
    (kk : ∀ h' : gH, isJ (gRe E0 b) h' x (S, (c, f), bu) → R h' → Z E0 b fz F t Q n none h' kc' ks' pc' L (.int (gi a) :: rest)) : Z E0 b fz F t Q n none h kc ks pc L (.int (gi what) :: .int (gi s) :: .int (gi k) :: .int (gi w) :: .ref x :: rest) := by
  obtain ⟨hO, hv⟩ := ckIfW_o (c := c) (f := f) (bu := bu) hk
  have hM := c_X4_ifWritten (E := gRe E0 b) (n := n) (σ := none) (h := h) x (S, (c, f), bu) w k s what B.2.2.1 B.2.2.2.1 hJ hok (by omega) (by omega) (by omega) (by omega)
  rw [hO] at hM
  exact zu_core (As := [.int (gi w), .int (gi k), .int (gi s), .int (gi what)]) pc' kc' ks' B hd lk_RL_58 gi_X4_ifWritten gv_X4_ifWritten rfl ft hw hp hk1 hk2 hJ hr hM (fun _ _ z => absurd rfl z.2.1) (fun h' eJ er => kk h' eJ er)
theorem zu_IfP (s o k what a : Int) (hk : ckIfP S s o k what a = true) (pc' kc' ks' : Nat) (B : zB E0 F t b x n R) (hd : decode (gCode t) pc = .ok (.invokevirtual 61, 3)) (ft : gFit mX4_ifPulled t kc ks) (hw : (rest.map fun v => v.category).sum ≤ 8) (hp : pc + 3 = pc') (hk1 : kc + 5 = kc') (hk2 : ks + 30 = ks') (hok : okT (S, (c, f), bu)) (hJ : isJ (gRe E0 b) h x (S, (c, f), bu)) (hr : R h)
    (kk : ∀ h' : gH, isJ (gRe E0 b) h' x (S, (c, f), bu) → R h' → Z E0 b fz F t Q n none h' kc' ks' pc' L (.int (gi a) :: rest)) : Z E0 b fz F t Q n none h kc ks pc L (.int (gi what) :: .int (gi k) :: .int (gi o) :: .int (gi s) :: .ref x :: rest) := by
  obtain ⟨hO, hv⟩ := ckIfP_o (c := c) (f := f) (bu := bu) hk
  have hM := c_X4_ifPulled (E := gRe E0 b) (n := n) (σ := none) (h := h) x (S, (c, f), bu) s o k what B.2.2.1 B.2.2.2.1 hJ hok (by omega) (by omega) (by omega) (by omega)
  rw [hO] at hM
  exact zu_core (As := [.int (gi s), .int (gi o), .int (gi k), .int (gi what)]) pc' kc' ks' B hd lk_RL_61 gi_X4_ifPulled gv_X4_ifPulled rfl ft hw hp hk1 hk2 hJ hr hM (fun _ _ z => absurd rfl z.2.1) (fun h' eJ er => kk h' eJ er)
theorem zu_Why (w k a : Int) (hk : ckWhy S w k a = true) (pc' kc' ks' : Nat) (B : zB E0 F t b x n R) (hd : decode (gCode t) pc = .ok (.invokevirtual 64, 3)) (ft : gFit mX4_whyNot t kc ks) (hw : (rest.map fun v => v.category).sum ≤ 8) (hp : pc + 3 = pc') (hk1 : kc + 2 = kc') (hk2 : ks + 12 = ks') (hok : okT (S, (c, f), bu)) (hJ : isJ (gRe E0 b) h x (S, (c, f), bu)) (hr : R h)
    (kk : ∀ h' : gH, isJ (gRe E0 b) h' x (S, (c, f), bu) → R h' → Z E0 b fz F t Q n none h' kc' ks' pc' L (.int (gi a) :: rest)) : Z E0 b fz F t Q n none h kc ks pc L (.int (gi k) :: .int (gi w) :: .ref x :: rest) := by
  obtain ⟨hO, hv⟩ := ckWhy_o (c := c) (f := f) (bu := bu) hk
  have hM := c_X4_whyNot (E := gRe E0 b) (n := n) (σ := none) (h := h) x (S, (c, f), bu) w k B.2.2.1 B.2.2.2.1 hJ hok (by omega) (by omega)
  rw [hO] at hM
  exact zu_core (As := [.int (gi w), .int (gi k)]) pc' kc' ks' B hd lk_RL_64 gi_X4_whyNot gv_X4_whyNot rfl ft hw hp hk1 hk2 hJ hr hM (fun _ _ z => absurd rfl z.2.1) (fun h' eJ er => kk h' eJ er)
theorem zu_Cnt7 (pc' kc' ks' : Nat) (B : zB E0 F t b x n R) (hd : decode (gCode t) pc = .ok (.invokevirtual 55, 3)) (ft : gFit mX4_count t kc ks) (hw : (rest.map fun v => v.category).sum ≤ 8) (hp : pc + 3 = pc') (hk1 : kc + 1 = kc') (hk2 : ks + 6 = ks') (hok : okT (S, (c, f), bu)) (hJ : isJ (gRe E0 b) h x (S, (c, f), bu)) (hr : R h)
    (kk : ∀ h' : gH, isJ (gRe E0 b) h' x (S, (c, f), bu) → R h' → Z E0 b fz F t Q n none h' kc' ks' pc' L (.int (gi (c : Int)) :: rest)) : Z E0 b fz F t Q n none h kc ks pc L (.int (gi 7) :: .ref x :: rest) := by
  have hM := c_X4_count (E := gRe E0 b) (n := n) (σ := none) (h := h) x (S, (c, f), bu) 7 B.2.2.1 B.2.2.2.1 hJ hok (by decide)
  rw [oCount_7] at hM
  exact zu_core (As := [.int (gi 7)]) pc' kc' ks' B hd lk_RL_55 gi_X4_count gv_X4_count rfl ft hw hp hk1 hk2 hJ hr hM (fun _ _ z => absurd rfl z.2.1) (fun h' eJ er => kk h' eJ er)
theorem zu_PullAll (a : Int) (S' : gSt) (hk : ckPullAll S S' a = true) (pc' kc' ks' : Nat) (B : zB E0 F t b x n R) (hd : decode (gCode t) pc = .ok (.invokevirtual 67, 3)) (ft : gFit mX4_pullAll t kc ks) (hw : (rest.map fun v => v.category).sum ≤ 8) (hp : pc + 3 = pc') (hk1 : kc + 1 = kc') (hk2 : ks + 6 = ks') (hok : okT (S, (c, f), bu)) (hJ : isJ (gRe E0 b) h x (S, (c, f), bu)) (hr : R h)
    (kk : ∀ h' : gH, okT (S', (cUp c, fUp S c f), bu) → isJ (gRe E0 b) h' x (S', (cUp c, fUp S c f), bu) → R h' → Z E0 b fz F t Q n none h' kc' ks' pc' L (.int (gi a) :: rest)) : Z E0 b fz F t Q n none h kc ks pc L (.ref x :: rest) := by
  obtain ⟨U, hO, hE⟩ := ckPullAll_o (c := c) (f := f) (bu := bu) hk
  have hok2 := okT_pullAll (T := (S, (c, f), bu)) hok
  have hM := c_X4_pullAll (E := gRe E0 b) (n := n) (σ := none) (h := h) x (S, (c, f), bu) B.2.2.1 B.2.2.2.1 hJ hok
  rw [hO] at hM hok2
  exact zu_core (As := []) pc' kc' ks' B hd lk_RL_67 gi_X4_pullAll gv_X4_pullAll rfl ft hw hp hk1 hk2 hJ hr hM (fun _ _ z => absurd rfl z.2.1) (fun h' eJ er => kk h' (okT_eq hE hok2) (isJ_eq hE eJ) er)
theorem zu_Undo (S' : gSt) (c0 : Nat) (hc : c = c0 + 1) (hf : f (c0 : Int) = S') (pc' kc' ks' : Nat) (B : zB E0 F t b x n R) (hd : decode (gCode t) pc = .ok (.invokevirtual 40, 3)) (ft : gFit mX4_undo t kc ks) (hw : (rest.map fun v => v.category).sum ≤ 8) (hp : pc + 3 = pc') (hk1 : kc + 1 = kc') (hk2 : ks + 6 = ks') (hok : okT (S, (c, f), bu)) (hJ : isJ (gRe E0 b) h x (S, (c, f), bu)) (hr : R h)
    (kk : ∀ h' : gH, okT (S', (c0, f), bu) → isJ (gRe E0 b) h' x (S', (c0, f), bu) → R h' → Z E0 b fz F t Q n none h' kc' ks' pc' L (.int (gi (c0 : Int)) :: rest)) : Z E0 b fz F t Q n none h kc ks pc L (.ref x :: rest) := by
  subst hc
  subst hf
  have hO : oUndo (S, (c0 + 1, f), bu) = (0, (c0 : Int), f (c0 : Int), (c0, f), bu) := by
    unfold oUndo
    dsimp only
    rw [if_neg (Nat.succ_ne_zero c0), show (((c0 + 1 : Nat) : Int) - 1) = (c0 : Int) by omega, Nat.add_sub_cancel]
  have hok2 := okT_undo (T := (S, (c0 + 1, f), bu)) hok
  have hM := c_X4_undo (E := gRe E0 b) (n := n) (σ := none) (h := h) x (S, (c0 + 1, f), bu) B.2.2.1 B.2.2.2.1 hJ hok
  rw [hO] at hM hok2
  exact zu_core (As := []) pc' kc' ks' B hd lk_RL_40 gi_X4_undo gv_X4_undo rfl ft hw hp hk1 hk2 hJ hr hM (fun _ _ z => absurd rfl z.2.1) (fun h' eJ er => kk h' hok2 eJ er)
theorem zu_Agr (pc' : Nat) (B : zB E0 F t b x n R) (hd : decode (gCode t) pc = .ok (.invokevirtual 102, 3)) (ft : gFit mX4_agreement t kc ks) (hw : (rest.map fun v => v.category).sum ≤ 8) (hp : pc + 3 = pc') (hok : okT (S, (c, f), bu)) (hJ : isJ (gRe E0 b) h x (S, (c, f), bu))
    (kk : Z E0 b fz F t Q n none h kc ks pc' L (.double (gShr (tAgN (S, (c, f), bu))) :: rest)) : Z E0 b fz F t Q n none h kc ks pc L (.ref x :: rest) := by
  have j1 := hJ.1
  unfold isJo at j1
  exact z_callV (ci := 4) (Cl := RX4) (np := 0) (As := []) pc' B.1 hd B.2.1 lk_RL_102 gi_X4_agreement gv_X4_agreement ⟨_, _, rfl⟩ ⟨by have := B.2.2.2.1; omega, by have := B.2.2.2.1; omega⟩ j1 rfl ft hw hp (c_X4_agreement (E := gRe E0 b) (σ := none) x (S, (c, f), bu) B.2.2.2.1 hJ hok) (fun _ _ z => z) (fun v n' σ' h' hq => by
    obtain ⟨rfl, rfl, rfl, rfl⟩ := hq
    exact kk)
theorem zu_told {T : gTt} (which a b' c' d : Int) (O : gOut) (pc' kc' ks' : Nat) (hO : oCall T which a b' c' d = O) (B : zB E0 F t b x n R) (hd : decode (gCode t) pc = .ok (.invokestatic 86, 3)) (ft : gFit mL_told t kc ks) (hw : (rest.map fun v => v.category).sum ≤ 8) (hp : pc + 3 = pc') (hk1 : kc + 5 = kc') (hk2 : ks + 30 = ks') (hok : okT T) (hJ : isJ (gRe E0 b) h x T) (hr : R h) (hwr : -2147483648 ≤ which ∧ which < 2147483648) (har : -2147483648 ≤ a ∧ a < 2147483648) (hbr : -2147483648 ≤ b' ∧ b' < 2147483648) (hcr : -2147483648 ≤ c' ∧ c' < 2147483648) (hdr : -2147483648 ≤ d ∧ d < 2147483648)
    (kk : ∀ h' : gH, isJ (gRe E0 b) h' x O.2.2 → R h' → Z E0 b fz F t Q n none h' kc' ks' pc' L (.int (gi (tO O)) :: rest)) : Z E0 b fz F t Q n none h kc ks pc L (.int (gi d) :: .int (gi c') :: .int (gi b') :: .int (gi a) :: .int (gi which) :: .ref x :: rest) := by
  subst hk1
  subst hk2
  subst hO
  exact z_callSW (As := [.ref x, .int (gi which), .int (gi a), .int (gi b'), .int (gi c'), .int (gi d)]) (rest := rest) pc' B.1 hd B.2.1 lkT_l gii_RL gcd_L_told lkT_c gs_L_told rfl ft hw hp (c_L_told (E := gRe E0 b) x T which a b' c' d B.2.2.1 B.2.2.2.1 hJ hok hwr har hbr hcr hdr) (fun _ _ z => z) (fun v n' σ' h' hq => by obtain ⟨rfl, rfl, rfl, e1, e2⟩ := hq; exact kk h' e1 (B.2.2.2.2 _ _ e2 hr))
theorem zu_refused {T : gTt} (pc' kc' ks' : Nat) (B : zB E0 F t b x n R) (hd : decode (gCode t) pc = .ok (.invokestatic 112, 3)) (ft : gFit mL_refused t kc ks) (hw : (rest.map fun v => v.category).sum ≤ 8) (hp : pc + 3 = pc') (hk1 : kc + 3162 = kc') (hk2 : ks + 18972 = ks') (hok : okT T) (hJ : isJ (gRe E0 b) h x T) (hr : R h)
    (kk : ∀ h' : gH, isJ (gRe E0 b) h' x T → R h' → Z E0 b fz F t Q n none h' kc' ks' pc' L (.int (gi 1) :: rest)) : Z E0 b fz F t Q n none h kc ks pc L (.ref x :: rest) := by
  subst hk1
  subst hk2
  exact z_callS (As := [.ref x]) (rest := rest) pc' B.1 hd B.2.1 lk_RL_112 gs_L_refused rfl ft hw hp (c_L_refused (E := gRe E0 b) x T B.2.2.1 B.2.2.2.1 hJ hok) (fun _ _ z => z) (fun v n' σ' h' hq => by obtain ⟨rfl, rfl, rfl, e1, e2⟩ := hq; exact kk h' e1 (B.2.2.2.2 _ _ e2 hr))
theorem zu_isSib (s k p v0 v1 v2 v3 v4 : Int) (hk : (ckSib S s k p 0 v0 && (ckSib S s k p 1 v1 && (ckSib S s k p 2 v2 && (ckSib S s k p 3 v3 && ckSib S s k p 4 v4)))) = true) (hv : (-2147483648 ≤ v0 ∧ v0 < 2147483648) ∧ (-2147483648 ≤ v1 ∧ v1 < 2147483648) ∧ (-2147483648 ≤ v2 ∧ v2 < 2147483648) ∧ (-2147483648 ≤ v3 ∧ v3 < 2147483648) ∧ (-2147483648 ≤ v4 ∧ v4 < 2147483648)) (pc' kc' ks' : Nat) (B : zB E0 F t b x n R) (hd : decode (gCode t) pc = .ok (.invokestatic 106, 3)) (ft : gFit mL_isSibling t kc ks) (hw : (rest.map fun v => v.category).sum ≤ 8) (hp : pc + 3 = pc') (hk1 : kc + 20 = kc') (hk2 : ks + 120 = ks') (hok : okT (S, (c, f), bu)) (hJ : isJ (gRe E0 b) h x (S, (c, f), bu)) (hr : R h)
    (kk : ∀ h' : gH, isJ (gRe E0 b) h' x (S, (c, f), bu) → R h' → Z E0 b fz F t Q n none h' kc' ks' pc' L (.int (gi 1) :: rest)) : Z E0 b fz F t Q n none h kc ks pc L (.int (gi v4) :: .int (gi v3) :: .int (gi v2) :: .int (gi v1) :: .int (gi v0) :: .int (gi p) :: .int (gi k) :: .int (gi s) :: .ref x :: rest) := by
  subst hk1
  subst hk2
  exact z_callS (As := [.ref x, .int (gi s), .int (gi k), .int (gi p), .int (gi v0), .int (gi v1), .int (gi v2), .int (gi v3), .int (gi v4)]) (rest := rest) pc' B.1 hd B.2.1 lk_RL_106 gs_L_isSibling rfl ft hw hp (c_L_isSibling (E := gRe E0 b) x s k p v0 v1 v2 v3 v4 hk hv B.2.2.1 B.2.2.2.1 hJ hok) (fun _ _ z => z) (fun v n' σ' h' hq => by obtain ⟨rfl, rfl, rfl, e1, e2⟩ := hq; exact kk h' e1 (B.2.2.2.2 _ _ e2 hr))
end ZUU
