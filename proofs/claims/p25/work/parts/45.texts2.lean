/-! texts -/
section ZTX
variable {E0 : gEnv} {b : Nat} {fz : Heap} {F : gFr} {t : gMt} {Q : State → Prop} {n x : Nat} {R : gH → Prop} {h : gH} {kc ks pc : Nat} {L : List (Nat × Value)} {rest : List Value} {S : gSt} {c : Nat} {f : Int → gSt} {bu : Nat × (Int → Int)}
theorem zu_types (l l' : List Int) (word : Int64) (hk : ckTy word = true) (hl' : l ++ tyP word 8 = l') (hl8 : l.length + 8 ≤ 60) (pc' kc' ks' : Nat) (B : zB E0 F t b x n R) (hd : decode (gCode t) pc = .ok (.invokestatic 118, 3)) (ft : gFit mL_types t kc ks) (hw : (rest.map fun v => v.category).sum ≤ 8) (hp : pc + 3 = pc') (hk1 : kc + 16 = kc') (hk2 : ks + 96 = ks') (hok : okT (S, (c, f), bL l)) (hJ : isJ (gRe E0 b) h x (S, (c, f), bL l)) (hr : R h)
    (kk : ∀ h' : gH, okT (S, (c, f), bL l') → isJ (gRe E0 b) h' x (S, (c, f), bL l') → R h' → Z E0 b fz F t Q n none h' kc' ks' pc' L (.int (gi 1) :: rest)) : Z E0 b fz F t Q n none h kc ks pc L (.long word :: .ref x :: rest) := by
  subst hk1
  subst hk2
  exact z_callS (As := [.ref x, .long word]) (rest := rest) pc' B.1 hd B.2.1 lk_RL_118 gs_L_types rfl ft hw hp (c_L_types (E := gRe E0 b) x l l' word hk hl' hl8 B.2.2.1 B.2.2.2.1 hJ hok) (fun _ _ z => z) (fun v n' σ' h' hq => by obtain ⟨rfl, rfl, rfl, e1, e2, e3⟩ := hq; exact kk h' e1 e2 (B.2.2.2.2 _ _ e3 hr))
theorem tWh_e (l : List Int) {d : Nat × (Int → gSt)} : tWh (S, d, bL l) = tWh (gS0, (0, fun _ => gS0), bL l) := rfl
theorem tn_run (l : List Int) (hw : tWh (gS0, (0, fun _ => gS0), bL l) = false) {a b' c' d' : Int} : oCall (S, (c, f), bL l) 7 a b' c' d' = (-12, 0, (S, (c, f), bL l)) := by
  have e : oRunAll (S, (c, f), bL l) = (1, 0, (S, (c, f), bL l)) := by
    unfold oRunAll
    rw [tWh_e, hw]
    rfl
  rw [oCall_7, e]
  rfl
def ckRun (S S' : gSt) (l : List Int) (a : Int) : Bool := tWh (gS0, (0, fun _ => gS0), bL l) && (decide (((tRun (S, (0, fun _ => gS0), bL l)).1 : Int) = a) && eqS (tRun (S, (0, fun _ => gS0), bL l)).2 S')
theorem bL_nil {S : gSt} {d : Nat × (Int → gSt)} {g : Int → Int} {E : gEnv} {h : gH} {x : Nat} : (okT (S, d, (0, g)) → okT (S, d, bL [])) ∧ (isJ E h x (S, d, (0, g)) → isJ E h x (S, d, bL [])) := ⟨okT_bq (fun j j0 j1 => absurd j1 (show ¬ j < ((0 : Nat) : Int) by omega)), isJ_bq (fun j j0 j1 => absurd j1 (show ¬ j < ((0 : Nat) : Int) by omega))⟩
theorem zu_RunAll (a : Int) (S' : gSt) (l : List Int) (hk : ckRun S S' l a = true) (pc' kc' ks' : Nat) (B : zB E0 F t b x n R) (hd : decode (gCode t) pc = .ok (.invokevirtual 36, 3)) (ft : gFit mX4_runAll t kc ks) (hw : (rest.map fun v => v.category).sum ≤ 8) (hp : pc + 3 = pc') (hk1 : kc + 1 = kc') (hk2 : ks + 6 = ks') (hok : okT (S, (c, f), bL l)) (hJ : isJ (gRe E0 b) h x (S, (c, f), bL l)) (hr : R h)
    (kk : ∀ h' : gH, okT (S', (cUp c, fUp S c f), bL []) → isJ (gRe E0 b) h' x (S', (cUp c, fUp S c f), bL []) → R h' → Z E0 b fz F t Q n none h' kc' ks' pc' L (.int (gi a) :: rest)) : Z E0 b fz F t Q n none h kc ks pc L (.ref x :: rest) := by
  obtain ⟨k1, k2⟩ := ba hk
  obtain ⟨k2, k3⟩ := ba k2
  have hO : oRunAll (S, (c, f), bL l) = (0, a, (tRun (S, (0, fun _ => gS0), bL l)).2, (cUp c, fUp S c f), (0, (bL l).2)) := by
    unfold oRunAll
    rw [tWh_e, if_pos k1, tSave_e, ← of_decide_eq_true k2]
    rfl
  have hok2 := okT_runAll (T := (S, (c, f), bL l)) hok
  have hM := c_X4_runAll (E := gRe E0 b) (n := n) (σ := none) (h := h) x (S, (c, f), bL l) B.2.2.1 B.2.2.2.1 hJ hok
  rw [hO] at hM hok2
  exact zu_core (As := []) pc' kc' ks' B hd lk_RL_36 gi_X4_runAll gv_X4_runAll rfl ft hw hp hk1 hk2 hJ hr hM (fun _ _ z => absurd rfl z.2.1) (fun h' eJ er => kk h' ((bL_nil (E := E0) (h := h) (x := x)).1 (okT_eq k3 hok2)) (bL_nil.2 (isJ_eq k3 eJ)) er)
theorem zu_Clear (l : List Int) (a : Int) (ha : (l.length : Int) = a) (pc' : Nat) (B : zB E0 F t b x n R) (hd : decode (gCode t) pc = .ok (.invokevirtual 179, 3)) (ft : gFit mX4_clearBuffer t kc ks) (hw : (rest.map fun v => v.category).sum ≤ 8) (hp : pc + 3 = pc') (hok : okT (S, (c, f), bL l)) (hJ : isJ (gRe E0 b) h x (S, (c, f), bL l)) (hr : R h)
    (kk : ∀ h' : gH, okT (S, (c, f), bL []) → isJ (gRe E0 b) h' x (S, (c, f), bL []) → R h' → Z E0 b fz F t Q n none h' kc ks pc' L (.int (gi a) :: rest)) : Z E0 b fz F t Q n none h kc ks pc L (.ref x :: rest) := by
  subst ha
  have hok2 := okT_clear (T := (S, (c, f), bL l)) hok
  have hM := c_X4_clearBuffer (E := gRe E0 b) (n := n) (σ := none) (h := h) x (S, (c, f), bL l) B.2.2.2.1 hJ hok
  exact zu_core (As := []) pc' kc ks B hd lk_RL_179 gi_X4_clearBuffer gv_X4_clearBuffer rfl ft hw hp rfl rfl hJ hr hM (fun _ _ z => z) (fun h' eJ er => kk h' ((bL_nil (E := E0) (h := h) (x := x)).1 hok2) (bL_nil.2 eJ) er)
theorem zu_Append (l : List Int) (ch a : Int) (hc : 33 ≤ ch ∧ ch ≤ 126) (hl6 : l.length < 60) (ha : (l.length : Int) + 1 = a) (pc' kc' ks' : Nat) (B : zB E0 F t b x n R) (hd : decode (gCode t) pc = .ok (.invokevirtual 32, 3)) (ft : gFit mX4_append t kc ks) (hw : (rest.map fun v => v.category).sum ≤ 8) (hp : pc + 3 = pc') (hk1 : kc + 2 = kc') (hk2 : ks + 12 = ks') (hok : okT (S, (c, f), bL l)) (hJ : isJ (gRe E0 b) h x (S, (c, f), bL l)) (hr : R h)
    (kk : ∀ h' : gH, okT (S, (c, f), bL (l ++ [ch])) → isJ (gRe E0 b) h' x (S, (c, f), bL (l ++ [ch])) → R h' → Z E0 b fz F t Q n none h' kc' ks' pc' L (.int (gi a) :: rest)) : Z E0 b fz F t Q n none h kc ks pc L (.int (gi ch) :: .ref x :: rest) := by
  subst ha
  have hO := ap_o (S := S) (d := (c, f)) hc hl6
  have hok2 := okT_append (T := (S, (c, f), bL l)) (c := ch) hok
  have hM := c_X4_append (E := gRe E0 b) (n := n) (σ := none) (h := h) x (S, (c, f), bL l) ch B.2.2.1 B.2.2.2.1 hJ hok (by omega)
  rw [hO] at hM hok2
  exact zu_core (As := [.int (gi ch)]) pc' kc' ks' B hd lk_RL_32 gi_X4_append gv_X4_append rfl ft hw hp hk1 hk2 hJ hr hM (fun _ _ z => absurd rfl z.2.1) (fun h' eJ er => kk h' (ap_k hok2) (ap_J eJ) er)
theorem tn_app1 (l : List Int) (hl6 : ¬ l.length < 60) {ch b' c' d' : Int} (hc : 33 ≤ ch ∧ ch ≤ 126) : oCall (S, (c, f), bL l) 6 ch b' c' d' = (-13, 0, (S, (c, f), bL l)) := by
  have e : oAppend (S, (c, f), bL l) ch = (2, 0, (S, (c, f), bL l)) := by
    unfold oAppend
    rw [if_pos hc]
    exact if_neg hl6
  rw [oCall_6, e]
  rfl
theorem tn_app0 (l : List Int) {ch b' c' d' : Int} (hc : ¬ (33 ≤ ch ∧ ch ≤ 126)) : oCall (S, (c, f), bL l) 6 ch b' c' d' = (-12, 0, (S, (c, f), bL l)) := by
  have e : oAppend (S, (c, f), bL l) ch = (1, 0, (S, (c, f), bL l)) := by
    unfold oAppend
    exact if_neg hc
  rw [oCall_6, e]
  rfl
end ZTX
def xS1 : gSt := stt (ky [1, 1, 1, 0, 0] [[1, 0, 0, 0, 0], [0, 1, 0, 0, 0], [1, 1, 1, 0, 0], [0, 0, 0, 0, 0], [0, 0, 0, 0, 0]] [[1, 1, 1, 0, 0], [0, 0, 0, 0, 0], [0, 0, 0, 0, 0]] [[(2001, 9)], [], []]) (ky [0, 0, 0, 0, 0] [[0, 0, 0, 0, 0], [0, 0, 0, 0, 0], [0, 0, 0, 0, 0], [0, 0, 0, 0, 0], [0, 0, 0, 0, 0]] [[0, 0, 0, 0, 0], [0, 0, 0, 0, 0], [0, 0, 0, 0, 0]] [[], [], []]) (ky [0, 0, 0, 0, 0] [[0, 0, 0, 0, 0], [0, 0, 0, 0, 0], [0, 0, 0, 0, 0], [0, 0, 0, 0, 0], [0, 0, 0, 0, 0]] [[0, 0, 0, 0, 0], [0, 0, 0, 0, 0], [0, 0, 0, 0, 0]] [[], [], []]) [3, 2, 0, 0, 0]
theorem w0_k : ckTy 0 = true := by decide +kernel
theorem w0_e : tyP 0 8 = [] := by decide +kernel
theorem er0 : ((scE (bL []).2 (bL []).1 : Nat) : Int) = 0 := by decide +kernel
theorem w1_k : ckTy 119 = true := by decide +kernel
theorem w1_e : tyP 119 8 = [119] := by decide +kernel
theorem er1 : ((scE (bL [119]).2 (bL [119]).1 : Nat) : Int) = 1 := by decide +kernel
theorem w2_k : ckTy 30517 = true := by decide +kernel
theorem w2_e : tyP 30517 8 = [119, 53] := by decide +kernel
theorem er2 : ((scE (bL [119, 53]).2 (bL [119, 53]).1 : Nat) : Int) = 1 := by decide +kernel
theorem w3_k : ckTy 30512 = true := by decide +kernel
theorem w3_e : tyP 30512 8 = [119, 48] := by decide +kernel
theorem er3 : ((scE (bL [119, 48]).2 (bL [119, 48]).1 : Nat) : Int) = 2 := by decide +kernel
theorem w4_k : ckTy 7811179 = true := by decide +kernel
theorem w4_e : tyP 7811179 8 = [119, 48, 107] := by decide +kernel
theorem er4 : ((scE (bL [119, 48, 107]).2 (bL [119, 48, 107]).1 : Nat) : Int) = 3 := by decide +kernel
theorem w5_k : ckTy 1999661875 = true := by decide +kernel
theorem w5_e : tyP 1999661875 8 = [119, 48, 107, 51] := by decide +kernel
theorem er5 : ((scE (bL [119, 48, 107, 51]).2 (bL [119, 48, 107, 51]).1 : Nat) : Int) = 3 := by decide +kernel
theorem w6_k : ckTy 511913439859 = true := by decide +kernel
theorem w6_e : tyP 511913439859 8 = [119, 48, 107, 50, 115] := by decide +kernel
theorem er6 : ((scE (bL [119, 48, 107, 50, 115]).2 (bL [119, 48, 107, 50, 115]).1 : Nat) : Int) = 5 := by decide +kernel
theorem w7_k : ckTy 131049840603954 = true := by decide +kernel
theorem w7_e : tyP 131049840603954 8 = [119, 48, 107, 50, 115, 50] := by decide +kernel
theorem er7 : ((scE (bL [119, 48, 107, 50, 115, 50]).2 (bL [119, 48, 107, 50, 115, 50]).1 : Nat) : Int) = 6 := by decide +kernel
theorem w8_k : ckTy 33548759194612283 = true := by decide +kernel
theorem w8_e : tyP 33548759194612283 8 = [119, 48, 107, 50, 115, 50, 59] := by decide +kernel
theorem er8 : ((scE (bL [119, 48, 107, 50, 115, 50, 59]).2 (bL [119, 48, 107, 50, 115, 50, 59]).1 : Nat) : Int) = 6 := by decide +kernel
theorem w9_k : ckTy 33548759194612285 = true := by decide +kernel
theorem w9_e : tyP 33548759194612285 8 = [119, 48, 107, 50, 115, 50, 61] := by decide +kernel
theorem er9 : ((scE (bL [119, 48, 107, 50, 115, 50, 61]).2 (bL [119, 48, 107, 50, 115, 50, 61]).1 : Nat) : Int) = 7 := by decide +kernel
theorem w10_k : ckTy 8588482353820745008 = true := by decide +kernel
theorem w10_e : tyP 8588482353820745008 8 = [119, 48, 107, 50, 115, 50, 61, 48] := by decide +kernel
theorem w11_k : ckTy 55 = true := by decide +kernel
theorem w11_e : tyP 55 8 = [55] := by decide +kernel
theorem er10 : ((scE (bL [119, 48, 107, 50, 115, 50, 61, 48, 55]).2 (bL [119, 48, 107, 50, 115, 50, 61, 48, 55]).1 : Nat) : Int) = 8 := by decide +kernel
theorem w12_k : ckTy 8588482353820745009 = true := by decide +kernel
theorem w12_e : tyP 8588482353820745009 8 = [119, 48, 107, 50, 115, 50, 61, 49] := by decide +kernel
theorem w13_k : ckTy 12336 = true := by decide +kernel
theorem w13_e : tyP 12336 8 = [48, 48] := by decide +kernel
theorem er11 : ((scE (bL [119, 48, 107, 50, 115, 50, 61, 49, 48, 48]).2 (bL [119, 48, 107, 50, 115, 50, 61, 49, 48, 48]).1 : Nat) : Int) = 9 := by decide +kernel
theorem w14_k : ckTy 32141384277504061 = true := by decide +kernel
theorem w14_e : tyP 32141384277504061 8 = [114, 48, 107, 48, 115, 48, 61] := by decide +kernel
theorem er12 : ((scE (bL [114, 48, 107, 48, 115, 48, 61]).2 (bL [114, 48, 107, 48, 115, 48, 61]).1 : Nat) : Int) = 6 := by decide +kernel
theorem w15_k : ckTy 32141384277504059 = true := by decide +kernel
theorem w15_e : tyP 32141384277504059 8 = [114, 48, 107, 48, 115, 48, 59] := by decide +kernel
theorem er13 : ((scE (bL [114, 48, 107, 48, 115, 48, 59]).2 (bL [114, 48, 107, 48, 115, 48, 59]).1 : Nat) : Int) = 7 := by decide +kernel
theorem w16_k : ckTy 120 = true := by decide +kernel
theorem w16_e : tyP 120 8 = [120] := by decide +kernel
theorem er14 : ((scE (bL [120]).2 (bL [120]).1 : Nat) : Int) = 0 := by decide +kernel
theorem w17_k : ckTy 32141384277504114 = true := by decide +kernel
theorem w17_e : tyP 32141384277504114 8 = [114, 48, 107, 48, 115, 48, 114] := by decide +kernel
theorem er15 : ((scE (bL [114, 48, 107, 48, 115, 48, 114]).2 (bL [114, 48, 107, 48, 115, 48, 114]).1 : Nat) : Int) = 6 := by decide +kernel
theorem w18_k : ckTy 8589608253727587641 = true := by decide +kernel
theorem w18_e : tyP 8589608253727587641 8 = [119, 52, 107, 50, 115, 50, 61, 57] := by decide +kernel
theorem w19_k : ckTy 57 = true := by decide +kernel
theorem w19_e : tyP 57 8 = [57] := by decide +kernel
theorem er16 : ((scE (bL [119, 52, 107, 50, 115, 50, 61, 57, 57]).2 (bL [119, 52, 107, 50, 115, 50, 61, 57, 57]).1 : Nat) : Int) = 9 := by decide +kernel
theorem w20_k : ckTy 8229320283537947506 = true := by decide +kernel
theorem w20_e : tyP 8229320283537947506 8 = [114, 52, 107, 50, 115, 50, 59, 114] := by decide +kernel
theorem w21_k : ckTy 48 = true := by decide +kernel
theorem w21_e : tyP 48 8 = [48] := by decide +kernel
theorem er17 : ((scE (bL [114, 52, 107, 50, 115, 50, 59, 114, 48]).2 (bL [114, 52, 107, 50, 115, 50, 59, 114, 48]).1 : Nat) : Int) = 9 := by decide +kernel
theorem w22_k : ckTy 8588482345230679351 = true := by decide +kernel
theorem w22_e : tyP 8588482345230679351 8 = [119, 48, 107, 48, 115, 48, 61, 55] := by decide +kernel
theorem w23_k : ckTy 4284947906910433341 = true := by decide +kernel
theorem w23_e : tyP 4284947906910433341 8 = [59, 119, 49, 107, 48, 115, 48, 61] := by decide +kernel
theorem w24_k : ckTy 4051957850622161712 = true := by decide +kernel
theorem w24_e : tyP 4051957850622161712 8 = [56, 59, 114, 50, 107, 48, 115, 48] := by decide +kernel
theorem w25_k : ckTy 4284949006422061117 = true := by decide +kernel
theorem w25_e : tyP 4284949006422061117 8 = [59, 119, 50, 107, 48, 115, 48, 61] := by decide +kernel
theorem xrun : ckRun kS0 xS1 [119, 48, 107, 48, 115, 48, 61, 55, 59, 119, 49, 107, 48, 115, 48, 61, 56, 59, 114, 50, 107, 48, 115, 48, 59, 119, 50, 107, 48, 115, 48, 61, 57] 4 = true := by decide +kernel
theorem xsib : (ckSib xS1 0 0 0 0 2 && (ckSib xS1 0 0 0 1 1 && (ckSib xS1 0 0 0 2 9 && (ckSib xS1 0 0 0 3 4 && (ckSib xS1 0 0 0 4 1))))) = true := by decide +kernel
theorem xl348 : ckKey xS1 0 0 1 = true := by decide +kernel
theorem xl357 : ckCnt xS1 2 3 = true := by decide +kernel
theorem xl366 : ckCnt xS1 3 2 = true := by decide +kernel
theorem xl383 : ckKey kS0 0 0 0 = true := by decide +kernel
section XU
variable {E0 : gEnv} {b : Nat} {fz : Heap} {F : gFr} {Q : State → Prop} {n x : Nat} {R : gH → Prop}
theorem xu1 (B : zB E0 F mL_texts b x n R) (k : ∀ (f : Int → gSt) (h : gH), okT (kS0, (0, f), bL []) → isJ (gRe E0 b) h x (kS0, (0, f), bL []) → R h → Z E0 b fz F mL_texts Q n none h 10651 48991 391 [(0, .ref x)] []) : ∀ (f : Int → gSt) (h : gH), okT (kS0, (0, f), bL []) → isJ (gRe E0 b) h x (kS0, (0, f), bL []) → R h → Z E0 b fz F mL_texts Q n none h 10532 48277 224 [(0, .ref x)] [] := by
  intro f h hok hJ hr
  have C := B.1
  refine z_aload_n 225 C dL_texts_224 rfl rfl ?_
  refine z_bipush 227 C dL_texts_225 (by decide) rfl ?_
  refine z_iconst 228 C dL_texts_227 rfl ?_
  refine z_iconst 229 C dL_texts_228 rfl ?_
  refine z_iconst 230 C dL_texts_229 rfl ?_
  refine z_iconst 231 C dL_texts_230 rfl ?_
  refine zu_told 7 0 0 0 0 (-12, 0, _) 234 10537 48307 (tn_run [] rfl) B dL_texts_231 ⟨⟨by decide, by decide⟩, by decide, by decide⟩ (Nat.le_of_ble_eq_true rfl) rfl rfl rfl hok hJ hr (by decide) (by decide) (by decide) (by decide) (by decide) (fun h1 J1 r1 => ?_)
  refine z_val (-12) (tO_r (-12) (by decide)) ?_
  refine z_bipush 236 C dL_texts_234 (by decide) rfl ?_
  refine z_icmp_ne 389 239 C dL_texts_236 rfl rfl (by decide) (by decide) (fun c8 => absurd c8 (by decide)) (fun _ => ?_)
  refine z_aload_n 240 C dL_texts_239 rfl rfl ?_
  refine z_ldc2l 243 C dL_texts_240 ld_RL_171 rfl ?_
  refine zu_types [] [119, 48, 107, 48, 115, 48, 61, 55] 8588482345230679351 w22_k (by rw [w22_e]; rfl) (by decide) 246 10553 48403 B dL_texts_243 ⟨⟨by decide, by decide⟩, by decide, by decide⟩ (Nat.le_of_ble_eq_true rfl) rfl rfl rfl hok J1 r1 (fun h2 o2 J2 r2 => ?_)
  refine z_if_eq 389 249 C dL_texts_246 rfl rfl (by decide) (fun c8 => absurd c8 (by decide)) (fun _ => ?_)
  refine z_aload_n 250 C dL_texts_249 rfl rfl ?_
  refine z_ldc2l 253 C dL_texts_250 ld_RL_173 rfl ?_
  refine zu_types [119, 48, 107, 48, 115, 48, 61, 55] [119, 48, 107, 48, 115, 48, 61, 55, 59, 119, 49, 107, 48, 115, 48, 61] 4284947906910433341 w23_k (by rw [w23_e]; rfl) (by decide) 256 10569 48499 B dL_texts_253 ⟨⟨by decide, by decide⟩, by decide, by decide⟩ (Nat.le_of_ble_eq_true rfl) rfl rfl rfl o2 J2 r2 (fun h3 o3 J3 r3 => ?_)
  refine z_if_eq 389 259 C dL_texts_256 rfl rfl (by decide) (fun c8 => absurd c8 (by decide)) (fun _ => ?_)
  refine z_aload_n 260 C dL_texts_259 rfl rfl ?_
  refine z_bipush 262 C dL_texts_260 (by decide) rfl ?_
  refine z_iconst 263 C dL_texts_262 rfl ?_
  refine z_iconst 264 C dL_texts_263 rfl ?_
  refine z_iconst 265 C dL_texts_264 rfl ?_
  refine z_iconst 266 C dL_texts_265 rfl ?_
  refine zu_told 7 0 0 0 0 (-12, 0, _) 269 10574 48529 (tn_run [119, 48, 107, 48, 115, 48, 61, 55, 59, 119, 49, 107, 48, 115, 48, 61] (by decide +kernel)) B dL_texts_266 ⟨⟨by decide, by decide⟩, by decide, by decide⟩ (Nat.le_of_ble_eq_true rfl) rfl rfl rfl o3 J3 r3 (by decide) (by decide) (by decide) (by decide) (by decide) (fun h4 J4 r4 => ?_)
  refine z_val (-12) (tO_r (-12) (by decide)) ?_
  refine z_bipush 271 C dL_texts_269 (by decide) rfl ?_
  refine z_icmp_ne 389 274 C dL_texts_271 rfl rfl (by decide) (by decide) (fun c8 => absurd c8 (by decide)) (fun _ => ?_)
  refine z_aload_n 275 C dL_texts_274 rfl rfl ?_
  refine z_ldc2l 278 C dL_texts_275 ld_RL_175 rfl ?_
  refine zu_types [119, 48, 107, 48, 115, 48, 61, 55, 59, 119, 49, 107, 48, 115, 48, 61] [119, 48, 107, 48, 115, 48, 61, 55, 59, 119, 49, 107, 48, 115, 48, 61, 56, 59, 114, 50, 107, 48, 115, 48] 4051957850622161712 w24_k (by rw [w24_e]; rfl) (by decide) 281 10590 48625 B dL_texts_278 ⟨⟨by decide, by decide⟩, by decide, by decide⟩ (Nat.le_of_ble_eq_true rfl) rfl rfl rfl o3 J4 r4 (fun h5 o5 J5 r5 => ?_)
  refine z_if_eq 389 284 C dL_texts_281 rfl rfl (by decide) (fun c8 => absurd c8 (by decide)) (fun _ => ?_)
  refine z_aload_n 285 C dL_texts_284 rfl rfl ?_
  refine z_ldc2l 288 C dL_texts_285 ld_RL_177 rfl ?_
  refine zu_types [119, 48, 107, 48, 115, 48, 61, 55, 59, 119, 49, 107, 48, 115, 48, 61, 56, 59, 114, 50, 107, 48, 115, 48] [119, 48, 107, 48, 115, 48, 61, 55, 59, 119, 49, 107, 48, 115, 48, 61, 56, 59, 114, 50, 107, 48, 115, 48, 59, 119, 50, 107, 48, 115, 48, 61] 4284949006422061117 w25_k (by rw [w25_e]; rfl) (by decide) 291 10606 48721 B dL_texts_288 ⟨⟨by decide, by decide⟩, by decide, by decide⟩ (Nat.le_of_ble_eq_true rfl) rfl rfl rfl o5 J5 r5 (fun h6 o6 J6 r6 => ?_)
  refine z_if_eq 389 294 C dL_texts_291 rfl rfl (by decide) (fun c8 => absurd c8 (by decide)) (fun _ => ?_)
  refine z_aload_n 295 C dL_texts_294 rfl rfl ?_
  refine z_ldc2l 298 C dL_texts_295 ld_RL_165 rfl ?_
  refine zu_types [119, 48, 107, 48, 115, 48, 61, 55, 59, 119, 49, 107, 48, 115, 48, 61, 56, 59, 114, 50, 107, 48, 115, 48, 59, 119, 50, 107, 48, 115, 48, 61] [119, 48, 107, 48, 115, 48, 61, 55, 59, 119, 49, 107, 48, 115, 48, 61, 56, 59, 114, 50, 107, 48, 115, 48, 59, 119, 50, 107, 48, 115, 48, 61, 57] 57 w19_k (by rw [w19_e]; rfl) (by decide) 301 10622 48817 B dL_texts_298 ⟨⟨by decide, by decide⟩, by decide, by decide⟩ (Nat.le_of_ble_eq_true rfl) rfl rfl rfl o6 J6 r6 (fun h7 o7 J7 r7 => ?_)
  refine z_if_eq 389 304 C dL_texts_301 rfl rfl (by decide) (fun c8 => absurd c8 (by decide)) (fun _ => ?_)
  refine z_aload_n 305 C dL_texts_304 rfl rfl ?_
  refine zu_RunAll 4 xS1 [119, 48, 107, 48, 115, 48, 61, 55, 59, 119, 49, 107, 48, 115, 48, 61, 56, 59, 114, 50, 107, 48, 115, 48, 59, 119, 50, 107, 48, 115, 48, 61, 57] xrun 308 10623 48823 B dL_texts_305 ⟨⟨by decide, by decide⟩, by decide, by decide⟩ (Nat.le_of_ble_eq_true rfl) rfl rfl rfl o7 J7 r7 (fun h8 o8 J8 r8 => ?_)
  refine z_iconst 309 C dL_texts_308 rfl ?_
  refine z_icmp_ne 389 312 C dL_texts_309 rfl rfl (by decide) (by decide) (fun c8 => absurd c8 (by decide)) (fun _ => ?_)
  refine z_aload_n 313 C dL_texts_312 rfl rfl ?_
  refine z_bipush 315 C dL_texts_313 (by decide) rfl ?_
  refine zu_Cnt7 318 10624 48829 B dL_texts_315 ⟨⟨by decide, by decide⟩, by decide, by decide⟩ (Nat.le_of_ble_eq_true rfl) rfl rfl rfl o8 J8 r8 (fun h9 J9 r9 => ?_)
  refine z_iconst 319 C dL_texts_318 rfl ?_
  refine z_icmp_ne 389 322 C dL_texts_319 rfl rfl (by decide) (by decide) (fun c8 => absurd c8 (by decide)) (fun _ => ?_)
  refine z_aload_n 323 C dL_texts_322 rfl rfl ?_
  refine zu_Clear [] 0 rfl 326 B dL_texts_323 ⟨⟨by decide, by decide⟩, by decide, by decide⟩ (Nat.le_of_ble_eq_true rfl) rfl o8 J9 r9 (fun h10 o10 J10 r10 => ?_)
  refine z_if_ne 389 329 C dL_texts_326 rfl rfl (by decide) (fun c8 => absurd c8 (by decide)) (fun _ => ?_)
  refine z_aload_n 330 C dL_texts_329 rfl rfl ?_
  refine z_iconst 331 C dL_texts_330 rfl ?_
  refine z_iconst 332 C dL_texts_331 rfl ?_
  refine z_iconst 333 C dL_texts_332 rfl ?_
  refine z_iconst 334 C dL_texts_333 rfl ?_
  refine z_iconst 335 C dL_texts_334 rfl ?_
  refine z_bipush 337 C dL_texts_335 (by decide) rfl ?_
  refine z_iconst 338 C dL_texts_337 rfl ?_
  refine z_iconst 339 C dL_texts_338 rfl ?_
  refine zu_isSib 0 0 0 2 1 9 4 1 xsib (by decide) 342 10644 48949 B dL_texts_339 ⟨⟨by decide, by decide⟩, by decide, by decide⟩ (Nat.le_of_ble_eq_true rfl) rfl rfl rfl o10 J10 r10 (fun h11 J11 r11 => ?_)
  refine z_if_eq 389 345 C dL_texts_342 rfl rfl (by decide) (fun c8 => absurd c8 (by decide)) (fun _ => ?_)
  refine z_aload_n 346 C dL_texts_345 rfl rfl ?_
  refine z_iconst 347 C dL_texts_346 rfl ?_
  refine z_iconst 348 C dL_texts_347 rfl ?_
  refine zu_Key 0 0 1 xl348 351 10646 48961 B dL_texts_348 ⟨⟨by decide, by decide⟩, by decide, by decide⟩ (Nat.le_of_ble_eq_true rfl) rfl rfl rfl o10 J11 r11 (fun h12 J12 r12 => ?_)
  refine z_iconst 352 C dL_texts_351 rfl ?_
  refine z_icmp_ne 389 355 C dL_texts_352 rfl rfl (by decide) (by decide) (fun c8 => absurd c8 (by decide)) (fun _ => ?_)
  refine z_aload_n 356 C dL_texts_355 rfl rfl ?_
  refine z_iconst 357 C dL_texts_356 rfl ?_
  refine zu_Cnt 2 3 xl357 360 10647 48967 B dL_texts_357 ⟨⟨by decide, by decide⟩, by decide, by decide⟩ (Nat.le_of_ble_eq_true rfl) rfl rfl rfl o10 J12 r12 (fun h13 J13 r13 => ?_)
  refine z_iconst 361 C dL_texts_360 rfl ?_
  refine z_icmp_ne 389 364 C dL_texts_361 rfl rfl (by decide) (by decide) (fun c8 => absurd c8 (by decide)) (fun _ => ?_)
  refine z_aload_n 365 C dL_texts_364 rfl rfl ?_
  refine z_iconst 366 C dL_texts_365 rfl ?_
  refine zu_Cnt 3 2 xl366 369 10648 48973 B dL_texts_366 ⟨⟨by decide, by decide⟩, by decide, by decide⟩ (Nat.le_of_ble_eq_true rfl) rfl rfl rfl o10 J13 r13 (fun h14 J14 r14 => ?_)
  refine z_iconst 370 C dL_texts_369 rfl ?_
  refine z_icmp_ne 389 373 C dL_texts_370 rfl rfl (by decide) (by decide) (fun c8 => absurd c8 (by decide)) (fun _ => ?_)
  refine z_aload_n 374 C dL_texts_373 rfl rfl ?_
  refine zu_Undo kS0 0 rfl (fUp_at _ _ _) 377 10649 48979 B dL_texts_374 ⟨⟨by decide, by decide⟩, by decide, by decide⟩ (Nat.le_of_ble_eq_true rfl) rfl rfl rfl o10 J14 r14 (fun h15 o15 J15 r15 => ?_)
  refine z_if_ne 389 380 C dL_texts_377 rfl rfl (by decide) (fun c8 => absurd c8 (by decide)) (fun _ => ?_)
  refine z_aload_n 381 C dL_texts_380 rfl rfl ?_
  refine z_iconst 382 C dL_texts_381 rfl ?_
  refine z_iconst 383 C dL_texts_382 rfl ?_
  refine zu_Key 0 0 0 xl383 386 10651 48991 B dL_texts_383 ⟨⟨by decide, by decide⟩, by decide, by decide⟩ (Nat.le_of_ble_eq_true rfl) rfl rfl rfl o15 J15 r15 (fun h16 J16 r16 => ?_)
  refine z_if_eq 391 389 C dL_texts_386 rfl rfl (by decide) (fun _ => ?_) (fun c8 => absurd c8 (by decide))
  exact k _ _ o15 J16 r16
/-- sixty characters -/
theorem xu2 (B : zB E0 F mL_texts b x n R) (f : Int → gSt) (k : ∀ h : gH, okT (kS0, (0, f), bL (List.replicate 60 114)) → isJ (gRe E0 b) h x (kS0, (0, f), bL (List.replicate 60 114)) → R h → Z E0 b fz F mL_texts Q n none h 10771 49711 419 [(0, .ref x)] []) : ∀ (k9 i : Nat) (h : gH), i ≤ 60 → 60 - i < k9 → okT (kS0, (0, f), bL (List.replicate i 114)) → isJ (gRe E0 b) h x (kS0, (0, f), bL (List.replicate i 114)) → R h → Z E0 b fz F mL_texts Q n none h (10651 + 2 * i) (48991 + 12 * i) 393 [(0, .ref x), (1, .int (gi (i : Int)))] [] := by
  have C := B.1
  intro k9
  induction k9 with
  | zero => intro i h h1 h2; exact absurd h2 (Nat.not_lt_zero _)
  | succ k9 ih =>
    intro i h h1 h2 hok hJ hr
    refine z_iload_n 394 C dL_texts_393 rfl rfl ?_
    refine z_bipush 396 C dL_texts_394 (by decide) rfl ?_
    refine z_icmp_ge 419 399 C dL_texts_396 rfl rfl (by omega) (by omega) (fun c8 => ?_) (fun c8 => ?_)
    · have e8 : i = 60 := by omega
      subst e8
      refine z_loc [(0, _)] ⟨rfl, trivial⟩ ?_
      exact k h hok hJ hr
    · refine z_aload_n 400 C dL_texts_399 rfl rfl ?_
      refine z_bipush 402 C dL_texts_400 (by decide) rfl ?_
      refine zu_Append (List.replicate i 114) 114 ((i : Int) + 1) (by decide) (by rw [List.length_replicate]; omega) (by rw [List.length_replicate]) 405 (10651 + 2 * (i + 1)) (48991 + 12 * (i + 1)) B dL_texts_402 ⟨⟨by decide, by decide⟩, by show 10651 + 2 * i + 2 ≤ 11000; omega, by show 48991 + 12 * i + 12 ≤ 51000; omega⟩ (Nat.le_of_ble_eq_true rfl) rfl (by omega) (by omega) hok hJ hr (fun h9 o9 J9 r9 => ?_)
      refine z_iload_n 406 C dL_texts_405 rfl rfl ?_
      refine z_iconst 407 C dL_texts_406 rfl ?_
      refine z_iadd 408 C dL_texts_407 rfl ?_
      refine z_icmp_eq 413 411 C dL_texts_408 rfl rfl (by omega) (by omega) (fun _ => ?_) (fun c7 => absurd rfl c7)
      refine z_iinc 416 [(1, _), (0, _)] C dL_texts_413 rfl (by decide) rfl rfl ?_
      refine z_goto 393 C dL_texts_416 rfl ?_
      refine z_loc [(0, _), (1, _)] ⟨rfl, rfl, trivial⟩ ?_
      have e9 : List.replicate i (114 : Int) ++ [114] = List.replicate (i + 1) 114 := by rw [List.replicate_succ']
      rw [e9] at o9 J9
      have z9 := ih (i + 1) h9 (by omega) (by omega) o9 J9 r9
      rw [show ((i + 1 : Nat) : Int) = (i : Int) + 1 by omega] at z9
      exact z9
theorem xu3 (B : zB E0 F mL_texts b x n R) (f : Int → gSt) (k : ∀ h : gH, Z E0 b fz F mL_texts Q n none h 10781 49771 460 [(0, .ref x)] []) : ∀ h : gH, okT (kS0, (0, f), bL (List.replicate 60 114)) → isJ (gRe E0 b) h x (kS0, (0, f), bL (List.replicate 60 114)) → R h → Z E0 b fz F mL_texts Q n none h 10771 49711 419 [(0, .ref x)] [] := by
  intro h hok hJ hr
  have C := B.1
  refine z_aload_n 420 C dL_texts_419 rfl rfl ?_
  refine z_bipush 422 C dL_texts_420 (by decide) rfl ?_
  refine z_bipush 424 C dL_texts_422 (by decide) rfl ?_
  refine z_iconst 425 C dL_texts_424 rfl ?_
  refine z_iconst 426 C dL_texts_425 rfl ?_
  refine z_iconst 427 C dL_texts_426 rfl ?_
  refine zu_told 6 114 0 0 0 (-13, 0, _) 430 10776 49741 (tn_app1 (List.replicate 60 114) (by decide) (by decide)) B dL_texts_427 ⟨⟨by decide, by decide⟩, by decide, by decide⟩ (Nat.le_of_ble_eq_true rfl) rfl rfl rfl hok hJ hr (by decide) (by decide) (by decide) (by decide) (by decide) (fun h1 J1 r1 => ?_)
  refine z_val (-13) (tO_r (-13) (by decide)) ?_
  refine z_bipush 432 C dL_texts_430 (by decide) rfl ?_
  refine z_icmp_ne 464 435 C dL_texts_432 rfl rfl (by decide) (by decide) (fun c8 => absurd c8 (by decide)) (fun _ => ?_)
  refine z_aload_n 436 C dL_texts_435 rfl rfl ?_
  refine z_bipush 438 C dL_texts_436 (by decide) rfl ?_
  refine z_bipush 440 C dL_texts_438 (by decide) rfl ?_
  refine z_iconst 441 C dL_texts_440 rfl ?_
  refine z_iconst 442 C dL_texts_441 rfl ?_
  refine z_iconst 443 C dL_texts_442 rfl ?_
  refine zu_told 6 32 0 0 0 (-12, 0, _) 446 10781 49771 (tn_app0 (List.replicate 60 114) (by decide)) B dL_texts_443 ⟨⟨by decide, by decide⟩, by decide, by decide⟩ (Nat.le_of_ble_eq_true rfl) rfl rfl rfl hok J1 r1 (by decide) (by decide) (by decide) (by decide) (by decide) (fun h2 J2 r2 => ?_)
  refine z_val (-12) (tO_r (-12) (by decide)) ?_
  refine z_bipush 448 C dL_texts_446 (by decide) rfl ?_
  refine z_icmp_ne 464 451 C dL_texts_448 rfl rfl (by decide) (by decide) (fun c8 => absurd c8 (by decide)) (fun _ => ?_)
  refine z_aload_n 452 C dL_texts_451 rfl rfl ?_
  refine zu_Clear (List.replicate 60 114) 60 rfl 455 B dL_texts_452 ⟨⟨by decide, by decide⟩, by decide, by decide⟩ (Nat.le_of_ble_eq_true rfl) rfl hok J2 r2 (fun h3 o3 J3 r3 => ?_)
  refine z_bipush 457 C dL_texts_455 (by decide) rfl ?_
  refine z_icmp_ne 464 460 C dL_texts_457 rfl rfl (by decide) (by decide) (fun c8 => absurd c8 (by decide)) (fun _ => ?_)
  exact k _
end XU
set_option maxRecDepth 100000 in
set_option maxHeartbeats 4000000 in
theorem c_L_texts {E : gEnv} {n : Nat} {σ : Option Nat} {h : gH} (hl : E.1.stackTraces = false) : gM E mL_texts [] n σ h (gD (some (.int (gi 1))) 0 none (fun _ => True)) gNo := by
  refine gM_of (by decide) (Nat.le_of_ble_eq_true rfl) (fun F C => z_in C (fun fz => ?_))
  refine z_fresh h (fun b0 fz0 _ _ _ _ => ?_)
  refine z_lconst 1 C dL_texts_0 rfl ?_
  refine z_lconst 2 C dL_texts_1 rfl ?_
  refine z_callS (As := [.long 0, .long 0]) (rest := []) 5 C dL_texts_2 rfl lk_RL_125 gs_L_errorOf rfl ⟨⟨by decide, by decide⟩, by decide, by decide⟩ (Nat.le_of_ble_eq_true rfl) rfl (c_L_errorOf (E := gRe E b0) 0 0 [] [] 0 w0_k w0_k w0_e (by rw [w0_e]; rfl) er0 hl) (fun _ _ z => z) (fun v0 n0 σ0 h0 q0 => ?_)
  subst q0
  refine z_if_ne 98 8 C dL_texts_5 rfl rfl (by decide) (fun c8 => absurd c8 (by decide)) (fun _ => ?_)
  refine z_fresh h (fun b1 fz1 _ _ _ _ => ?_)
  refine z_ldc2l 11 C dL_texts_8 ld_RL_129 rfl ?_
  refine z_lconst 12 C dL_texts_11 rfl ?_
  refine z_callS (As := [.long 119, .long 0]) (rest := []) 15 C dL_texts_12 rfl lk_RL_125 gs_L_errorOf rfl ⟨⟨by decide, by decide⟩, by decide, by decide⟩ (Nat.le_of_ble_eq_true rfl) rfl (c_L_errorOf (E := gRe E b1) 119 0 [119] [119] 1 w1_k w0_k w1_e (by rw [w0_e]; rfl) er1 hl) (fun _ _ z => z) (fun v1 n1 σ1 h1 q1 => ?_)
  subst q1
  refine z_iconst 16 C dL_texts_15 rfl ?_
  refine z_icmp_ne 98 19 C dL_texts_16 rfl rfl (by decide) (by decide) (fun c8 => absurd c8 (by decide)) (fun _ => ?_)
  refine z_fresh h (fun b2 fz2 _ _ _ _ => ?_)
  refine z_ldc2l 22 C dL_texts_19 ld_RL_131 rfl ?_
  refine z_lconst 23 C dL_texts_22 rfl ?_
  refine z_callS (As := [.long 30517, .long 0]) (rest := []) 26 C dL_texts_23 rfl lk_RL_125 gs_L_errorOf rfl ⟨⟨by decide, by decide⟩, by decide, by decide⟩ (Nat.le_of_ble_eq_true rfl) rfl (c_L_errorOf (E := gRe E b2) 30517 0 [119, 53] [119, 53] 1 w2_k w0_k w2_e (by rw [w0_e]; rfl) er2 hl) (fun _ _ z => z) (fun v2 n2 σ2 h2 q2 => ?_)
  subst q2
  refine z_iconst 27 C dL_texts_26 rfl ?_
  refine z_icmp_ne 98 30 C dL_texts_27 rfl rfl (by decide) (by decide) (fun c8 => absurd c8 (by decide)) (fun _ => ?_)
  refine z_fresh h (fun b3 fz3 _ _ _ _ => ?_)
  refine z_ldc2l 33 C dL_texts_30 ld_RL_133 rfl ?_
  refine z_lconst 34 C dL_texts_33 rfl ?_
  refine z_callS (As := [.long 30512, .long 0]) (rest := []) 37 C dL_texts_34 rfl lk_RL_125 gs_L_errorOf rfl ⟨⟨by decide, by decide⟩, by decide, by decide⟩ (Nat.le_of_ble_eq_true rfl) rfl (c_L_errorOf (E := gRe E b3) 30512 0 [119, 48] [119, 48] 2 w3_k w0_k w3_e (by rw [w0_e]; rfl) er3 hl) (fun _ _ z => z) (fun v3 n3 σ3 h3 q3 => ?_)
  subst q3
  refine z_iconst 38 C dL_texts_37 rfl ?_
  refine z_icmp_ne 98 41 C dL_texts_38 rfl rfl (by decide) (by decide) (fun c8 => absurd c8 (by decide)) (fun _ => ?_)
  refine z_fresh h (fun b4 fz4 _ _ _ _ => ?_)
  refine z_ldc2l 44 C dL_texts_41 ld_RL_135 rfl ?_
  refine z_lconst 45 C dL_texts_44 rfl ?_
  refine z_callS (As := [.long 7811179, .long 0]) (rest := []) 48 C dL_texts_45 rfl lk_RL_125 gs_L_errorOf rfl ⟨⟨by decide, by decide⟩, by decide, by decide⟩ (Nat.le_of_ble_eq_true rfl) rfl (c_L_errorOf (E := gRe E b4) 7811179 0 [119, 48, 107] [119, 48, 107] 3 w4_k w0_k w4_e (by rw [w0_e]; rfl) er4 hl) (fun _ _ z => z) (fun v4 n4 σ4 h4 q4 => ?_)
  subst q4
  refine z_iconst 49 C dL_texts_48 rfl ?_
  refine z_icmp_ne 98 52 C dL_texts_49 rfl rfl (by decide) (by decide) (fun c8 => absurd c8 (by decide)) (fun _ => ?_)
  refine z_fresh h (fun b5 fz5 _ _ _ _ => ?_)
  refine z_ldc2l 55 C dL_texts_52 ld_RL_137 rfl ?_
  refine z_lconst 56 C dL_texts_55 rfl ?_
  refine z_callS (As := [.long 1999661875, .long 0]) (rest := []) 59 C dL_texts_56 rfl lk_RL_125 gs_L_errorOf rfl ⟨⟨by decide, by decide⟩, by decide, by decide⟩ (Nat.le_of_ble_eq_true rfl) rfl (c_L_errorOf (E := gRe E b5) 1999661875 0 [119, 48, 107, 51] [119, 48, 107, 51] 3 w5_k w0_k w5_e (by rw [w0_e]; rfl) er5 hl) (fun _ _ z => z) (fun v5 n5 σ5 h5 q5 => ?_)
  subst q5
  refine z_iconst 60 C dL_texts_59 rfl ?_
  refine z_icmp_ne 98 63 C dL_texts_60 rfl rfl (by decide) (by decide) (fun c8 => absurd c8 (by decide)) (fun _ => ?_)
  refine z_fresh h (fun b6 fz6 _ _ _ _ => ?_)
  refine z_ldc2l 66 C dL_texts_63 ld_RL_139 rfl ?_
  refine z_lconst 67 C dL_texts_66 rfl ?_
  refine z_callS (As := [.long 511913439859, .long 0]) (rest := []) 70 C dL_texts_67 rfl lk_RL_125 gs_L_errorOf rfl ⟨⟨by decide, by decide⟩, by decide, by decide⟩ (Nat.le_of_ble_eq_true rfl) rfl (c_L_errorOf (E := gRe E b6) 511913439859 0 [119, 48, 107, 50, 115] [119, 48, 107, 50, 115] 5 w6_k w0_k w6_e (by rw [w0_e]; rfl) er6 hl) (fun _ _ z => z) (fun v6 n6 σ6 h6 q6 => ?_)
  subst q6
  refine z_iconst 71 C dL_texts_70 rfl ?_
  refine z_icmp_ne 98 74 C dL_texts_71 rfl rfl (by decide) (by decide) (fun c8 => absurd c8 (by decide)) (fun _ => ?_)
  refine z_fresh h (fun b7 fz7 _ _ _ _ => ?_)
  refine z_ldc2l 77 C dL_texts_74 ld_RL_141 rfl ?_
  refine z_lconst 78 C dL_texts_77 rfl ?_
  refine z_callS (As := [.long 131049840603954, .long 0]) (rest := []) 81 C dL_texts_78 rfl lk_RL_125 gs_L_errorOf rfl ⟨⟨by decide, by decide⟩, by decide, by decide⟩ (Nat.le_of_ble_eq_true rfl) rfl (c_L_errorOf (E := gRe E b7) 131049840603954 0 [119, 48, 107, 50, 115, 50] [119, 48, 107, 50, 115, 50] 6 w7_k w0_k w7_e (by rw [w0_e]; rfl) er7 hl) (fun _ _ z => z) (fun v7 n7 σ7 h7 q7 => ?_)
  subst q7
  refine z_bipush 83 C dL_texts_81 (by decide) rfl ?_
  refine z_icmp_ne 98 86 C dL_texts_83 rfl rfl (by decide) (by decide) (fun c8 => absurd c8 (by decide)) (fun _ => ?_)
  refine z_fresh h (fun b8 fz8 _ _ _ _ => ?_)
  refine z_ldc2l 89 C dL_texts_86 ld_RL_143 rfl ?_
  refine z_lconst 90 C dL_texts_89 rfl ?_
  refine z_callS (As := [.long 33548759194612283, .long 0]) (rest := []) 93 C dL_texts_90 rfl lk_RL_125 gs_L_errorOf rfl ⟨⟨by decide, by decide⟩, by decide, by decide⟩ (Nat.le_of_ble_eq_true rfl) rfl (c_L_errorOf (E := gRe E b8) 33548759194612283 0 [119, 48, 107, 50, 115, 50, 59] [119, 48, 107, 50, 115, 50, 59] 6 w8_k w0_k w8_e (by rw [w0_e]; rfl) er8 hl) (fun _ _ z => z) (fun v8 n8 σ8 h8 q8 => ?_)
  subst q8
  refine z_bipush 95 C dL_texts_93 (by decide) rfl ?_
  refine z_icmp_eq 100 98 C dL_texts_95 rfl rfl (by decide) (by decide) (fun _ => ?_) (fun c8 => absurd c8 (by decide))
  refine z_fresh h (fun b9 fz9 _ _ _ _ => ?_)
  refine z_ldc2l 103 C dL_texts_100 ld_RL_145 rfl ?_
  refine z_lconst 104 C dL_texts_103 rfl ?_
  refine z_callS (As := [.long 33548759194612285, .long 0]) (rest := []) 107 C dL_texts_104 rfl lk_RL_125 gs_L_errorOf rfl ⟨⟨by decide, by decide⟩, by decide, by decide⟩ (Nat.le_of_ble_eq_true rfl) rfl (c_L_errorOf (E := gRe E b9) 33548759194612285 0 [119, 48, 107, 50, 115, 50, 61] [119, 48, 107, 50, 115, 50, 61] 7 w9_k w0_k w9_e (by rw [w0_e]; rfl) er9 hl) (fun _ _ z => z) (fun v9 n9 σ9 h9 q9 => ?_)
  subst q9
  refine z_bipush 109 C dL_texts_107 (by decide) rfl ?_
  refine z_icmp_ne 214 112 C dL_texts_109 rfl rfl (by decide) (by decide) (fun c8 => absurd c8 (by decide)) (fun _ => ?_)
  refine z_fresh h (fun b10 fz10 _ _ _ _ => ?_)
  refine z_ldc2l 115 C dL_texts_112 ld_RL_147 rfl ?_
  refine z_ldc2l 118 C dL_texts_115 ld_RL_149 rfl ?_
  refine z_callS (As := [.long 8588482353820745008, .long 55]) (rest := []) 121 C dL_texts_118 rfl lk_RL_125 gs_L_errorOf rfl ⟨⟨by decide, by decide⟩, by decide, by decide⟩ (Nat.le_of_ble_eq_true rfl) rfl (c_L_errorOf (E := gRe E b10) 8588482353820745008 55 [119, 48, 107, 50, 115, 50, 61, 48] [119, 48, 107, 50, 115, 50, 61, 48, 55] 8 w10_k w11_k w10_e (by rw [w11_e]; rfl) er10 hl) (fun _ _ z => z) (fun v10 n10 σ10 h10 q10 => ?_)
  subst q10
  refine z_bipush 123 C dL_texts_121 (by decide) rfl ?_
  refine z_icmp_ne 214 126 C dL_texts_123 rfl rfl (by decide) (by decide) (fun c8 => absurd c8 (by decide)) (fun _ => ?_)
  refine z_fresh h (fun b11 fz11 _ _ _ _ => ?_)
  refine z_ldc2l 129 C dL_texts_126 ld_RL_151 rfl ?_
  refine z_ldc2l 132 C dL_texts_129 ld_RL_153 rfl ?_
  refine z_callS (As := [.long 8588482353820745009, .long 12336]) (rest := []) 135 C dL_texts_132 rfl lk_RL_125 gs_L_errorOf rfl ⟨⟨by decide, by decide⟩, by decide, by decide⟩ (Nat.le_of_ble_eq_true rfl) rfl (c_L_errorOf (E := gRe E b11) 8588482353820745009 12336 [119, 48, 107, 50, 115, 50, 61, 49] [119, 48, 107, 50, 115, 50, 61, 49, 48, 48] 9 w12_k w13_k w12_e (by rw [w13_e]; rfl) er11 hl) (fun _ _ z => z) (fun v11 n11 σ11 h11 q11 => ?_)
  subst q11
  refine z_bipush 137 C dL_texts_135 (by decide) rfl ?_
  refine z_icmp_ne 214 140 C dL_texts_137 rfl rfl (by decide) (by decide) (fun c8 => absurd c8 (by decide)) (fun _ => ?_)
  refine z_fresh h (fun b12 fz12 _ _ _ _ => ?_)
  refine z_ldc2l 143 C dL_texts_140 ld_RL_155 rfl ?_
  refine z_lconst 144 C dL_texts_143 rfl ?_
  refine z_callS (As := [.long 32141384277504061, .long 0]) (rest := []) 147 C dL_texts_144 rfl lk_RL_125 gs_L_errorOf rfl ⟨⟨by decide, by decide⟩, by decide, by decide⟩ (Nat.le_of_ble_eq_true rfl) rfl (c_L_errorOf (E := gRe E b12) 32141384277504061 0 [114, 48, 107, 48, 115, 48, 61] [114, 48, 107, 48, 115, 48, 61] 6 w14_k w0_k w14_e (by rw [w0_e]; rfl) er12 hl) (fun _ _ z => z) (fun v12 n12 σ12 h12 q12 => ?_)
  subst q12
  refine z_bipush 149 C dL_texts_147 (by decide) rfl ?_
  refine z_icmp_ne 214 152 C dL_texts_149 rfl rfl (by decide) (by decide) (fun c8 => absurd c8 (by decide)) (fun _ => ?_)
  refine z_fresh h (fun b13 fz13 _ _ _ _ => ?_)
  refine z_ldc2l 155 C dL_texts_152 ld_RL_157 rfl ?_
  refine z_lconst 156 C dL_texts_155 rfl ?_
  refine z_callS (As := [.long 32141384277504059, .long 0]) (rest := []) 159 C dL_texts_156 rfl lk_RL_125 gs_L_errorOf rfl ⟨⟨by decide, by decide⟩, by decide, by decide⟩ (Nat.le_of_ble_eq_true rfl) rfl (c_L_errorOf (E := gRe E b13) 32141384277504059 0 [114, 48, 107, 48, 115, 48, 59] [114, 48, 107, 48, 115, 48, 59] 7 w15_k w0_k w15_e (by rw [w0_e]; rfl) er13 hl) (fun _ _ z => z) (fun v13 n13 σ13 h13 q13 => ?_)
  subst q13
  refine z_bipush 161 C dL_texts_159 (by decide) rfl ?_
  refine z_icmp_ne 214 164 C dL_texts_161 rfl rfl (by decide) (by decide) (fun c8 => absurd c8 (by decide)) (fun _ => ?_)
  refine z_fresh h (fun b14 fz14 _ _ _ _ => ?_)
  refine z_ldc2l 167 C dL_texts_164 ld_RL_159 rfl ?_
  refine z_lconst 168 C dL_texts_167 rfl ?_
  refine z_callS (As := [.long 120, .long 0]) (rest := []) 171 C dL_texts_168 rfl lk_RL_125 gs_L_errorOf rfl ⟨⟨by decide, by decide⟩, by decide, by decide⟩ (Nat.le_of_ble_eq_true rfl) rfl (c_L_errorOf (E := gRe E b14) 120 0 [120] [120] 0 w16_k w0_k w16_e (by rw [w0_e]; rfl) er14 hl) (fun _ _ z => z) (fun v14 n14 σ14 h14 q14 => ?_)
  subst q14
  refine z_if_ne 214 174 C dL_texts_171 rfl rfl (by decide) (fun c8 => absurd c8 (by decide)) (fun _ => ?_)
  refine z_fresh h (fun b15 fz15 _ _ _ _ => ?_)
  refine z_ldc2l 177 C dL_texts_174 ld_RL_161 rfl ?_
  refine z_lconst 178 C dL_texts_177 rfl ?_
  refine z_callS (As := [.long 32141384277504114, .long 0]) (rest := []) 181 C dL_texts_178 rfl lk_RL_125 gs_L_errorOf rfl ⟨⟨by decide, by decide⟩, by decide, by decide⟩ (Nat.le_of_ble_eq_true rfl) rfl (c_L_errorOf (E := gRe E b15) 32141384277504114 0 [114, 48, 107, 48, 115, 48, 114] [114, 48, 107, 48, 115, 48, 114] 6 w17_k w0_k w17_e (by rw [w0_e]; rfl) er15 hl) (fun _ _ z => z) (fun v15 n15 σ15 h15 q15 => ?_)
  subst q15
  refine z_bipush 183 C dL_texts_181 (by decide) rfl ?_
  refine z_icmp_ne 214 186 C dL_texts_183 rfl rfl (by decide) (by decide) (fun c8 => absurd c8 (by decide)) (fun _ => ?_)
  refine z_fresh h (fun b16 fz16 _ _ _ _ => ?_)
  refine z_ldc2l 189 C dL_texts_186 ld_RL_163 rfl ?_
  refine z_ldc2l 192 C dL_texts_189 ld_RL_165 rfl ?_
  refine z_callS (As := [.long 8589608253727587641, .long 57]) (rest := []) 195 C dL_texts_192 rfl lk_RL_125 gs_L_errorOf rfl ⟨⟨by decide, by decide⟩, by decide, by decide⟩ (Nat.le_of_ble_eq_true rfl) rfl (c_L_errorOf (E := gRe E b16) 8589608253727587641 57 [119, 52, 107, 50, 115, 50, 61, 57] [119, 52, 107, 50, 115, 50, 61, 57, 57] 9 w18_k w19_k w18_e (by rw [w19_e]; rfl) er16 hl) (fun _ _ z => z) (fun v16 n16 σ16 h16 q16 => ?_)
  subst q16
  refine z_bipush 197 C dL_texts_195 (by decide) rfl ?_
  refine z_icmp_ne 214 200 C dL_texts_197 rfl rfl (by decide) (by decide) (fun c8 => absurd c8 (by decide)) (fun _ => ?_)
  refine z_fresh h (fun b17 fz17 _ _ _ _ => ?_)
  refine z_ldc2l 203 C dL_texts_200 ld_RL_167 rfl ?_
  refine z_ldc2l 206 C dL_texts_203 ld_RL_169 rfl ?_
  refine z_callS (As := [.long 8229320283537947506, .long 48]) (rest := []) 209 C dL_texts_206 rfl lk_RL_125 gs_L_errorOf rfl ⟨⟨by decide, by decide⟩, by decide, by decide⟩ (Nat.le_of_ble_eq_true rfl) rfl (c_L_errorOf (E := gRe E b17) 8229320283537947506 48 [114, 52, 107, 50, 115, 50, 59, 114] [114, 52, 107, 50, 115, 50, 59, 114, 48] 9 w20_k w21_k w20_e (by rw [w21_e]; rfl) er17 hl) (fun _ _ z => z) (fun v17 n17 σ17 h17 q17 => ?_)
  subst q17
  refine z_bipush 211 C dL_texts_209 (by decide) rfl ?_
  refine z_icmp_eq 216 214 C dL_texts_211 rfl rfl (by decide) (by decide) (fun _ => ?_) (fun c8 => absurd c8 (by decide))
  refine z_fresh h (fun b fz9 _ _ _ _ => ?_)
  refine z_new 219 C dL_texts_216 nw_RL_10 rfl (by decide) (by decide) rfl ?_
  refine z_dup 220 C dL_texts_219 rfl rfl ?_
  refine z_callI (As := []) (rest := [.ref (b + 0)]) 223 C dL_texts_220 rfl lk_RL_101 gi_X4_init rfl rfl rfl ⟨⟨by decide, by decide⟩, by decide, by decide⟩ (Nat.le_of_ble_eq_true rfl) rfl (c_X4_init (E := gRe E b) (σ := none) (b + 0) rfl (Nat.le_add_right _ _) up_s) (fun _ _ z => z) (fun v1 n1 σ1 h1 hq1 => ?_)
  obtain ⟨rfl, rfl, rfl, hJ1, -⟩ := hq1
  refine z_astore_n 224 [(0, .ref b)] C dL_texts_223 (by decide) rfl rfl ?_
  refine z_nos ?_
  refine z_cst 10532 48277 rfl rfl ?_
  have B : zB E F mL_texts b b 524 (fun _ => True) := ⟨C, rfl, hl, ⟨Nat.le_refl _, Nat.le_refl _⟩, fun _ _ _ _ => trivial⟩
  refine xu1 B ?_ (fun _ => gS0) h1 ((bL_nil (E := E) (h := h) (x := b)).1 (okT_eq kE0 okT_0)) (bL_nil.2 (isJ_eq kE0 hJ1)) trivial
  intro f2 h2 hok2 hJ2 _
  refine z_iconst 392 C dL_texts_391 rfl ?_
  refine z_istore_n 393 [(1, _), (0, _)] C dL_texts_392 (by decide) rfl rfl ?_
  refine z_loc [(0, _), (1, .int (gi ((0 : Nat) : Int)))] ⟨rfl, rfl, trivial⟩ ?_
  refine xu2 B f2 ?_ 61 0 h2 (by decide) (by decide) hok2 hJ2 trivial
  refine xu3 B f2 (fun h3 => ?_)
  refine z_iconst 461 C dL_texts_460 rfl ?_
  refine z_goto 465 C dL_texts_461 rfl ?_
  exact z_zret C dL_texts_465 rfl rfl ⟨by decide, by decide⟩ ⟨rfl, rfl, rfl, trivial⟩
