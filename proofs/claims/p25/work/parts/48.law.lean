/-! the law: its acts, its end -/
/-- the row of looks -/
def rW (E0 : gEnv) (b : Nat) (fw : Int → Int64) (h : gH) : Prop := h (b + 524) = gJ (gRe E0 b) 64 fw
section LWZ
variable {E0 : gEnv} {b : Nat} {fz : Heap} {F : gFr} {t : gMt} {Q : State → Prop} {n x : Nat} {σ : Option Nat} {R : gH → Prop} {h : gH} {kc ks pc : Nat} {L : List (Nat × Value)} {rest : List Value} {T : gTt}
theorem zu_seen (pc' kc' ks' : Nat) (B : zB E0 F t b x n R) (hd : decode (gCode t) pc = .ok (.invokestatic 93, 3)) (ft : gFit mL_seen t kc ks) (hw : (rest.map fun v => v.category).sum ≤ 8) (hp : pc + 3 = pc') (hk1 : kc + 1135 = kc') (hk2 : ks + 6810 = ks') (hok : okT T) (hJ : isJ (gRe E0 b) h x T) (hr : R h)
    (kk : ∀ h' : gH, isJ (gRe E0 b) h' x T → R h' → Z E0 b fz F t Q n none h' kc' ks' pc' L (.long (seenS T.1) :: rest)) : Z E0 b fz F t Q n none h kc ks pc L (.ref x :: rest) := by
  subst hk1
  subst hk2
  exact z_callS (As := [.ref x]) (rest := rest) pc' B.1 hd B.2.1 lk_RL_93 gs_L_seen rfl ft hw hp (c_L_seen (E := gRe E0 b) x T B.2.2.1 B.2.2.2.1 hJ hok) (fun _ _ z => z) (fun v n' σ' h' hq => by obtain ⟨rfl, rfl, rfl, e1, e2⟩ := hq; exact kk h' e1 (B.2.2.2.2 _ _ e2 hr))
theorem zu_dig (pc' : Nat) (B : zB E0 F t b x n R) (hd : decode (gCode t) pc = .ok (.invokevirtual 196, 3)) (ft : gFit mX4_digest t kc ks) (hw : (rest.map fun v => v.category).sum ≤ 8) (hp : pc + 3 = pc') (hok : okT T) (hJ : isJ (gRe E0 b) h x T)
    (kk : Z E0 b fz F t Q n none h kc ks pc' L (.long (tDig T) :: rest)) : Z E0 b fz F t Q n none h kc ks pc L (.ref x :: rest) := by
  have j1 := hJ.1
  unfold isJo at j1
  exact z_callV (ci := 4) (Cl := RX4) (np := 0) (As := []) pc' B.1 hd B.2.1 lk_RL_196 gi_X4_digest gv_X4_digest ⟨_, _, rfl⟩ ⟨by have := B.2.2.2.1; omega, by have := B.2.2.2.1; omega⟩ j1 rfl ft hw hp (c_X4_digest (E := gRe E0 b) (σ := none) x T B.2.2.2.1 hJ hok) (fun _ _ z => z) (fun v n' σ' h' hq => by
    obtain ⟨rfl, rfl, rfl, rfl⟩ := hq
    exact kk)
theorem z_part (v : Int32) (m : Int) (pc' : Nat) (C : gC E0 F t) (hd : decode (gCode t) pc = .ok (.invokestatic 193, 3)) (ho : t.1.cls = RL) (ft : gFit mL_part t kc ks) (hw : (rest.map fun v => v.category).sum ≤ 8) (hp : pc + 3 = pc') (hm : 0 < m ∧ m < 2147483648)
    (kk : ∀ y : Int, 0 ≤ y ∧ y < m → Z E0 b fz F t Q n σ h kc ks pc' L (.int (gi y) :: rest)) : Z E0 b fz F t Q n σ h kc ks pc L (.int (gi m) :: .int v :: rest) :=
  z_callS (As := [.int v, .int (gi m)]) (rest := rest) pc' C hd ho lk_RL_193 gs_L_part rfl ft hw hp (c_L_part (E := gRe E0 b) v m hm) (fun _ _ z => z) (fun v9 n' σ' h' hq => by obtain ⟨rfl, rfl, rfl, rfl⟩ := hq; exact kk _ (prt_r v hm.1))
theorem z_drawn {sb Ls : Nat} {xs : Nat → Int32} {k : Int} (pc' : Nat) (C : gC E0 F t) (hd : decode (gCode t) pc = .ok (.invokestatic 189, 3)) (ho : t.1.cls = RL) (ft : gFit mL_drawn t kc ks) (hw : (rest.map fun v => v.category).sum ≤ 8) (hp : pc + 3 = pc') (hX : va_X sb Ls xs F.2.2.1 F.2.2.1.heap) (hsb : sb < gB E0) (hk : 0 ≤ k ∧ k < 1000) (hL : Ls < 2147483648)
    (kk : ∀ d : Int32, Z E0 b fz F t Q n σ h kc ks pc' L (.int d :: rest)) : Z E0 b fz F t Q n σ h kc ks pc L (.int (gi k) :: .ref sb :: rest) := by
  subst hp
  intro H locs ls a1 a3 a4 a5 a6
  have hsl : sb < F.2.2.1.heap.size := Nat.lt_of_lt_of_le hsb C.2.2.2.2.2.2.2.2.1
  exact z_run (F := F) a4 a5 a6 (vx_runS (As := [.ref sb, .int (gi k)]) (rest := rest) (own := RL) ⟨C.1, C.2.1, C.2.2.1, ho ▸ C.2.2.2.1, C.2.2.2.2.1⟩ (c_L_drawn (E := gRe E0 b) (n := n) (σ := σ) (h := h) (b := sb) (Ls := Ls) (xs := xs) k hk hL) ⟨gLk_B C ho lk_RL_189 ft, C.2.2.2.2.1 _ gs_L_drawn⟩ ⟨fun a U g mk q => by
    obtain ⟨q0, ⟨q1, q2, q3, q4⟩, q5, q6⟩ := q
    exact ⟨q0, ⟨q1, q2, q3, gX_same q4 rfl rfl⟩, va_X.moved (u := U) (Vm.Alike.refl _) q5, q6⟩, fun U hU hW => ⟨rfl, (gW_zat (av := [.ref sb, .int (gi k)]) C a1 a3 a4 a6 U hU hW).2, va_X.moved hW.alike (hX.kept (by rw [hU]; exact a4.2.1 sb hsl (Nat.not_le.mpr hsb))), Nat.lt_of_lt_of_le hsb a6.1⟩⟩ rfl rfl a5.1 rfl (lv_room hw) hd ft.2) (fun _ _ z => z) (fun v n' σ' h' hq => by
    obtain ⟨⟨d, rfl⟩, rfl, rfl, rfl⟩ := hq
    exact kk d)
end LWZ
theorem okT_cd {p q r : Int} {O : gOut} (h : okT O.2.2) : okT (cCd p q r O).2.2 := h
section LWL
variable {E : gEnv} {b : Nat} {fz : Heap} {F : gFr} {Q : State → Prop} {St : Nat → gSt} {T : gTt} {A c : Nat} {fw : Int → Int64} {h : gH} {sb Ls kc ks : Nat} {xs : Nat → Int32}
set_option maxRecDepth 100000 in
set_option maxHeartbeats 4000000 in
/-- an act is done, or refused -/
theorem law_act {i : Nat} {O : gOut} (hB : ∀ f9 : Int → Int64, zB E F mL_law b b 525 (rW E b f9)) (hkc : kc + 2277 ≤ 773738) (hks : ks + 13662 ≤ 6780411) (hok : okT T) (hG : gLs St T A c) (hA : A ≤ i) (hi : i < 24) (hfw : ∀ j : Nat, j < A → fw (j : Int) = seenS (St j)) (hf9 : fw (A : Int) = seenS (St A)) (NX : ∀ (St' : Nat → gSt) (T' : gTt) (A' c' : Nat) (fw' : Int → Int64) (h' : gH), okT T' → gLs St' T' A' c' → A' ≤ i + 1 → (∀ j : Nat, j < A' → fw' (j : Int) = seenS (St' j)) → isJ (gRe E b) h' b T' → rW E b fw' h' → Z E b fz F mL_law Q 525 none h' (kc + 2277) (ks + 13662) 32 [(0, .ref sb), (1, .ref b), (2, .ref (b + 524)), (3, .int (gi (A' : Int))), (4, .int (gi ((i : Int) + 1)))] [])
    (hsv : sv T O) (hok9 : okT O.2.2) (hJ : isJ (gRe E b) h b O.2.2) (hr : rW E b fw h) : Z E b fz F mL_law Q 525 none h (kc + 1141) (ks + 6846) 264 [(0, .ref sb), (1, .ref b), (2, .ref (b + 524)), (3, .int (gi (A : Int))), (4, .int (gi (i : Int))), (7, .int (gi (c : Int)))] [.int (gi (tO O))] := by
  have C := (hB fw).1
  have B := hB fw
  have hc6 : c ≤ 6 := hG.2.2.1
  refine z_istore 266 [(11, _), (0, _), (1, _), (2, _), (3, _), (4, _), (7, _)] C dL_law_264 (by decide) rfl rfl ?_
  refine z_iload 268 C dL_law_266 rfl rfl ?_
  rcases hsv with ⟨h1, h2⟩ | ⟨h1, h2, S', h3⟩
  · have hn : O.1 ≠ 0 := by omega
    rw [tO_1 hn]
    rw [h2] at hJ
    refine z_if_ge 295 271 C dL_law_268 rfl rfl (by omega) (fun c9 => absurd c9 (by omega)) (fun _ => ?_)
    refine z_aload_n 272 C dL_law_271 rfl rfl ?_
    refine z_bipush 274 C dL_law_272 (by decide) rfl ?_
    refine zu_Cnt7 (S := T.1) (c := T.2.1.1) (f := T.2.1.2) (bu := T.2.2) 277 (kc + 1142) (ks + 6852) B dL_law_274 ⟨⟨by decide, by decide⟩, by show kc + 1141 + 1 ≤ 773738; omega, by show ks + 6846 + 6 ≤ 6780411; omega⟩ (Nat.le_of_ble_eq_true rfl) rfl rfl rfl hok hJ hr (fun h1 J1 r1 => ?_)
    rw [hG.2.1]
    refine z_iload 279 C dL_law_277 rfl rfl ?_
    refine z_icmp_ne 293 282 C dL_law_279 rfl rfl (by omega) (by omega) (fun c9 => absurd rfl c9) (fun _ => ?_)
    refine z_aload_n 283 C dL_law_282 rfl rfl ?_
    refine zu_seen (T := T) 286 (kc + 2277) (ks + 13662) B dL_law_283 ⟨⟨by decide, by decide⟩, by show kc + 1142 + 1135 ≤ 773738; omega, by show ks + 6852 + 6810 ≤ 6780411; omega⟩ (Nat.le_of_ble_eq_true rfl) rfl rfl rfl hok J1 r1 (fun h2 J2 r2 => ?_)
    refine z_aload_n 287 C dL_law_286 rfl rfl ?_
    refine z_iload_n 288 C dL_law_287 rfl rfl ?_
    refine z_lald (m := 64) 289 C dL_law_288 ⟨Nat.le_add_right _ _, Nat.lt_succ_self _⟩ r2 (by omega) (by decide) rfl ?_
    refine z_lcmp 290 C dL_law_289 rfl ?_
    rw [hf9, hG.1, lg_cmp_s]
    refine z_if_eq 295 293 C dL_law_290 rfl rfl (by decide) (fun _ => ?_) (fun c9 => absurd rfl c9)
    refine z_iload_n 296 C dL_law_295 rfl rfl ?_
    refine z_iload 298 C dL_law_296 rfl rfl ?_
    refine z_if_ge 305 301 C dL_law_298 rfl rfl (by omega) (fun c9 => absurd c9 (by omega)) (fun _ => ?_)
    refine z_iconst 302 C dL_law_301 rfl ?_
    refine z_goto 306 C dL_law_302 rfl ?_
    refine z_iadd 307 C dL_law_306 rfl ?_
    refine z_val (A : Int) (by omega) ?_
    refine z_istore_n 308 [(3, _), (11, _), (0, _), (1, _), (2, _), (4, _), (7, _)] C dL_law_307 (by decide) rfl rfl ?_
    refine z_iinc 311 [(4, _), (3, _), (11, _), (0, _), (1, _), (2, _), (7, _)] C dL_law_308 rfl (by decide) rfl rfl ?_
    refine z_goto 32 C dL_law_311 rfl ?_
    refine z_loc [(0, _), (1, _), (2, _), (3, _), (4, _)] ⟨rfl, rfl, rfl, rfl, rfl, trivial⟩ ?_
    exact NX St T A c fw h2 hok hG (by omega) hfw J2 r2
  · rw [tO_0 h1]
    rw [h3] at hJ hok9
    refine z_if_ge 295 271 C dL_law_268 rfl rfl (by omega) (fun _ => ?_) (fun c9 => absurd h2.1 c9)
    refine z_iload_n 296 C dL_law_295 rfl rfl ?_
    refine z_iload 298 C dL_law_296 rfl rfl ?_
    refine z_if_ge 305 301 C dL_law_298 rfl rfl (by omega) (fun _ => ?_) (fun c9 => absurd h2.1 c9)
    refine z_iconst 306 C dL_law_305 rfl ?_
    refine z_iadd 307 C dL_law_306 rfl ?_
    refine z_val ((A + 1 : Nat) : Int) (by omega) ?_
    refine z_istore_n 308 [(3, _), (11, _), (0, _), (1, _), (2, _), (4, _), (7, _)] C dL_law_307 (by decide) rfl rfl ?_
    refine z_iinc 311 [(4, _), (3, _), (11, _), (0, _), (1, _), (2, _), (7, _)] C dL_law_308 rfl (by decide) rfl rfl ?_
    refine z_goto 32 C dL_law_311 rfl ?_
    refine z_loc [(0, _), (1, _), (2, _), (3, _), (4, _)] ⟨rfl, rfl, rfl, rfl, rfl, trivial⟩ ?_
    refine z_wid (by omega) (by omega) (NX (sUp St A S') _ (A + 1) (cUp c) fw h hok9 (gLs_save hG) (by omega) (fun j hj => ?_) hJ hr)
    unfold sUp
    rw [if_pos (by omega)]
    by_cases e : j = A
    · subst e; exact hf9
    · exact hfw j (by omega)
set_option maxRecDepth 100000 in
set_option maxHeartbeats 4000000 in
theorem law_it {i : Nat} (hX : va_X sb Ls xs F.2.2.1 F.2.2.1.heap) (hsb : sb < gB E) (hLs : Ls ≤ 260) (hB : ∀ f9 : Int → Int64, zB E F mL_law b b 525 (rW E b f9)) (hkc : kc + 2277 ≤ 773738) (hks : ks + 13662 ≤ 6780411) (hok : okT T) (hG : gLs St T A c) (hA : A ≤ i) (hi : i < 24) (hfw : ∀ j : Nat, j < A → fw (j : Int) = seenS (St j)) (hJ : isJ (gRe E b) h b T) (hr : rW E b fw h) (NX : ∀ (St' : Nat → gSt) (T' : gTt) (A' c' : Nat) (fw' : Int → Int64) (h' : gH), okT T' → gLs St' T' A' c' → A' ≤ i + 1 → (∀ j : Nat, j < A' → fw' (j : Int) = seenS (St' j)) → isJ (gRe E b) h' b T' → rW E b fw' h' → Z E b fz F mL_law Q 525 none h' (kc + 2277) (ks + 13662) 32 [(0, .ref sb), (1, .ref b), (2, .ref (b + 524)), (3, .int (gi (A' : Int))), (4, .int (gi ((i : Int) + 1)))] []) : Z E b fz F mL_law Q 525 none h kc ks 39 [(0, .ref sb), (1, .ref b), (2, .ref (b + 524)), (3, .int (gi (A : Int))), (4, .int (gi (i : Int)))] [] := by
  have C := (hB fw).1
  have hl : E.1.stackTraces = false := (hB fw).2.2.1
  refine z_aload_n 40 C dL_law_39 rfl rfl ?_
  refine z_iload 42 C dL_law_40 rfl rfl ?_
  refine z_drawn 45 C dL_law_42 rfl ⟨⟨by decide, by decide⟩, by show kc + 0 ≤ 773738; omega, by show ks + 0 ≤ 6780411; omega⟩ (Nat.le_of_ble_eq_true rfl) rfl hX hsb (by omega) (by omega) (fun d => ?_)
  refine z_istore 47 [(5, _), (0, _), (1, _), (2, _), (3, _), (4, _)] C dL_law_45 (by decide) rfl rfl ?_
  refine z_iload 49 C dL_law_47 rfl rfl ?_
  refine z_bipush 51 C dL_law_49 (by decide) rfl ?_
  refine z_part _ 8 54 C dL_law_51 rfl ⟨⟨by decide, by decide⟩, by show kc + 0 ≤ 773738; omega, by show ks + 0 ≤ 6780411; omega⟩ (Nat.le_of_ble_eq_true rfl) rfl (by decide) (fun kd hkd => ?_)
  refine z_istore 56 [(6, _), (5, _), (0, _), (1, _), (2, _), (3, _), (4, _)] C dL_law_54 (by decide) rfl rfl ?_
  refine z_aload_n 57 C dL_law_56 rfl rfl ?_
  refine z_iload_n 58 C dL_law_57 rfl rfl ?_
  refine z_aload_n 59 C dL_law_58 rfl rfl ?_
  refine zu_seen (T := T) 62 (kc + 1135) (ks + 6810) (hB fw) dL_law_59 ⟨⟨by decide, by decide⟩, by show kc + 1135 ≤ 773738; omega, by show ks + 6810 ≤ 6780411; omega⟩ (Nat.le_of_ble_eq_true rfl) rfl rfl rfl hok hJ hr (fun h1 J1 r1 => ?_)
  refine z_last (m := 64) 63 C dL_law_62 ⟨Nat.le_add_right _ _, Nat.lt_succ_self _⟩ r1 (by omega) (by decide) rfl ?_
  have J2 : isJ (gRe E b) (va_up h1 (b + 524) (gJ (gRe E b) 64 (gup fw (A : Int) (seenS T.1)))) b T := J1.kept (fun q _ q2 => up_n (Nat.ne_of_lt q2))
  have r2 : rW E b (gup fw (A : Int) (seenS T.1)) (va_up h1 (b + 524) (gJ (gRe E b) 64 (gup fw (A : Int) (seenS T.1)))) := up_s
  have hfw2 : ∀ j : Nat, j < A → gup fw (A : Int) (seenS T.1) (j : Int) = seenS (St j) := fun j hj => by rw [gup_ne (by omega)]; exact hfw j hj
  have hf9 : gup fw (A : Int) (seenS T.1) (A : Int) = seenS (St A) := by rw [gup_at, hG.1]
  have B := hB (gup fw (A : Int) (seenS T.1))
  refine z_aload_n 64 C dL_law_63 rfl rfl ?_
  refine z_bipush 66 C dL_law_64 (by decide) rfl ?_
  refine zu_Cnt7 (S := T.1) (c := T.2.1.1) (f := T.2.1.2) (bu := T.2.2) 69 (kc + 1136) (ks + 6816) B dL_law_66 ⟨⟨by decide, by decide⟩, by show kc + 1135 + 1 ≤ 773738; omega, by show ks + 6810 + 6 ≤ 6780411; omega⟩ (Nat.le_of_ble_eq_true rfl) rfl rfl rfl hok J2 r2 (fun h3 J3 r3 => ?_)
  rw [hG.2.1]
  refine z_istore 71 [(7, _), (6, _), (5, _), (0, _), (1, _), (2, _), (3, _), (4, _)] C dL_law_69 (by decide) rfl rfl ?_
  refine z_iload 73 C dL_law_71 rfl rfl ?_
  refine z_iconst 74 C dL_law_73 rfl ?_
  refine z_ishr 75 C dL_law_74 rfl rfl ?_
  refine z_iconst 76 C dL_law_75 rfl ?_
  refine z_part _ 5 79 C dL_law_76 rfl ⟨⟨by decide, by decide⟩, by show kc + 1136 + 0 ≤ 773738; omega, by show ks + 6816 + 0 ≤ 6780411; omega⟩ (Nat.le_of_ble_eq_true rfl) rfl (by decide) (fun wr hwr => ?_)
  refine z_istore 81 [(8, _), (7, _), (6, _), (5, _), (0, _), (1, _), (2, _), (3, _), (4, _)] C dL_law_79 (by decide) rfl rfl ?_
  refine z_iload 83 C dL_law_81 rfl rfl ?_
  refine z_bipush 85 C dL_law_83 (by decide) rfl ?_
  refine z_ishr 86 C dL_law_85 rfl rfl ?_
  refine z_iconst 87 C dL_law_86 rfl ?_
  refine z_part _ 3 90 C dL_law_87 rfl ⟨⟨by decide, by decide⟩, by show kc + 1136 + 0 ≤ 773738; omega, by show ks + 6816 + 0 ≤ 6780411; omega⟩ (Nat.le_of_ble_eq_true rfl) rfl (by decide) (fun ky hky => ?_)
  refine z_istore 92 [(9, _), (8, _), (7, _), (6, _), (5, _), (0, _), (1, _), (2, _), (3, _), (4, _)] C dL_law_90 (by decide) rfl rfl ?_
  refine z_iload 94 C dL_law_92 rfl rfl ?_
  refine z_bipush 96 C dL_law_94 (by decide) rfl ?_
  refine z_ishr 97 C dL_law_96 rfl rfl ?_
  refine z_iconst 98 C dL_law_97 rfl ?_
  refine z_part _ 3 101 C dL_law_98 rfl ⟨⟨by decide, by decide⟩, by show kc + 1136 + 0 ≤ 773738; omega, by show ks + 6816 + 0 ≤ 6780411; omega⟩ (Nat.le_of_ble_eq_true rfl) rfl (by decide) (fun so hso => ?_)
  refine z_istore 103 [(10, _), (9, _), (8, _), (7, _), (6, _), (5, _), (0, _), (1, _), (2, _), (3, _), (4, _)] C dL_law_101 (by decide) rfl rfl ?_
  have fin : ∀ (O : gOut) (h9 : gH), sv T O → okT O.2.2 → isJ (gRe E b) h9 b O.2.2 → rW E b (gup fw (A : Int) (seenS T.1)) h9 → Z E b fz F mL_law Q 525 none h9 (kc + 1141) (ks + 6846) 264 [(0, .ref sb), (1, .ref b), (2, .ref (b + 524)), (3, .int (gi (A : Int))), (4, .int (gi (i : Int))), (7, .int (gi (c : Int)))] [.int (gi (tO O))] := fun O h9 z1 z2 z3 z4 => law_act hB hkc hks hok hG hA hi hfw2 hf9 NX z1 z2 z3 z4
  have tl : ∀ (which a1 a2 a3 a4 : Int) (O : gOut) (pc pc' : Nat), oCall T which a1 a2 a3 a4 = O → (-2147483648 ≤ which ∧ which < 2147483648) → (-2147483648 ≤ a1 ∧ a1 < 2147483648) → (-2147483648 ≤ a2 ∧ a2 < 2147483648) → (-2147483648 ≤ a3 ∧ a3 < 2147483648) → (-2147483648 ≤ a4 ∧ a4 < 2147483648) → decode (gCode mL_law) pc = .ok (.invokestatic 86, 3) → pc + 3 = pc' → (∀ h9 : gH, isJ (gRe E b) h9 b O.2.2 → rW E b (gup fw (A : Int) (seenS T.1)) h9 → Z E b fz F mL_law Q 525 none h9 (kc + 1141) (ks + 6846) pc' [(0, .ref sb), (1, .ref b), (2, .ref (b + 524)), (3, .int (gi (A : Int))), (4, .int (gi (i : Int))), (7, .int (gi (c : Int)))] [.int (gi (tO O))]) → Z E b fz F mL_law Q 525 none h3 (kc + 1136) (ks + 6816) pc [(0, .ref sb), (1, .ref b), (2, .ref (b + 524)), (3, .int (gi (A : Int))), (4, .int (gi (i : Int))), (7, .int (gi (c : Int)))] [.int (gi a4), .int (gi a3), .int (gi a2), .int (gi a1), .int (gi which), .ref b] := fun which a1 a2 a3 a4 O pc pc' e s0 s1 s2 s3 s4 hd hp kk =>
    zu_told (T := T) which a1 a2 a3 a4 O pc' (kc + 1141) (ks + 6846) e B hd ⟨⟨by decide, by decide⟩, by show kc + 1136 + 5 ≤ 773738; omega, by show ks + 6816 + 30 ≤ 6780411; omega⟩ (Nat.le_of_ble_eq_true rfl) hp rfl rfl hok J3 r3 s0 s1 s2 s3 s4 kk
  refine z_iload 105 C dL_law_103 rfl rfl ?_
  refine z_if_ne 123 108 C dL_law_105 rfl rfl (by omega) (fun _ => ?_) (fun _ => ?_)
  rotate_left
  · skip
    refine z_aload_n 109 C dL_law_108 rfl rfl ?_
    refine z_iconst 110 C dL_law_109 rfl ?_
    refine z_iload 112 C dL_law_110 rfl rfl ?_
    refine z_iload 114 C dL_law_112 rfl rfl ?_
    refine z_iload 116 C dL_law_114 rfl rfl ?_
    refine z_iconst 117 C dL_law_116 rfl ?_
    refine z_loc [(0, _), (1, _), (2, _), (3, _), (4, _), (7, _)] ⟨rfl, rfl, rfl, rfl, rfl, rfl, trivial⟩ ?_
    exact tl 0 wr ky so 0 _ 117 120 (oCall_0 T wr ky so 0) (by omega) (by omega) (by omega) (by omega) (by omega) dL_law_117 rfl (fun h9 J9 r9 => z_goto 264 C dL_law_120 rfl (fin _ h9 (sv_cd (by decide) (by decide) (by decide) (sv_read hok)) (okT_read hok) J9 r9))
  refine z_iload 125 C dL_law_123 rfl rfl ?_
  refine z_iconst 126 C dL_law_125 rfl ?_
  refine z_icmp_ge 153 129 C dL_law_126 rfl rfl (by omega) (by omega) (fun _ => ?_) (fun _ => ?_)
  rotate_left
  · skip
    refine z_aload_n 130 C dL_law_129 rfl rfl ?_
    refine z_iconst 131 C dL_law_130 rfl ?_
    refine z_iload 133 C dL_law_131 rfl rfl ?_
    refine z_iload 135 C dL_law_133 rfl rfl ?_
    refine z_iload 137 C dL_law_135 rfl rfl ?_
    refine z_iload 139 C dL_law_137 rfl rfl ?_
    refine z_bipush 141 C dL_law_139 (by decide) rfl ?_
    refine z_ishr 142 C dL_law_141 rfl rfl ?_
    refine z_bipush 144 C dL_law_142 (by decide) rfl ?_
    refine z_part _ 100 147 C dL_law_144 rfl ⟨⟨by decide, by decide⟩, by show kc + 1136 + 0 ≤ 773738; omega, by show ks + 6816 + 0 ≤ 6780411; omega⟩ (Nat.le_of_ble_eq_true rfl) rfl (by decide) (fun vl hvl => ?_)
    refine z_loc [(0, _), (1, _), (2, _), (3, _), (4, _), (7, _)] ⟨rfl, rfl, rfl, rfl, rfl, rfl, trivial⟩ ?_
    exact tl 1 wr ky so vl _ 147 150 (oCall_1 T wr ky so vl) (by omega) (by omega) (by omega) (by omega) (by omega) dL_law_147 rfl (fun h9 J9 r9 => z_goto 264 C dL_law_150 rfl (fin _ h9 (sv_cd (by decide) (by decide) (by decide) (sv_write hok)) (okT_write hok) J9 r9))
  refine z_iload 155 C dL_law_153 rfl rfl ?_
  refine z_iconst 156 C dL_law_155 rfl ?_
  refine z_icmp_ne 178 159 C dL_law_156 rfl rfl (by omega) (by omega) (fun _ => ?_) (fun _ => ?_)
  rotate_left
  · skip
    refine z_aload_n 160 C dL_law_159 rfl rfl ?_
    refine z_iconst 161 C dL_law_160 rfl ?_
    refine z_iload 163 C dL_law_161 rfl rfl ?_
    refine z_iload 165 C dL_law_163 rfl rfl ?_
    refine z_iconst 166 C dL_law_165 rfl ?_
    refine z_iadd 167 C dL_law_166 rfl ?_
    refine z_iconst 168 C dL_law_167 rfl ?_
    refine z_irem 169 C dL_law_168 (by omega) (by omega) rfl ?_
    refine z_iload 171 C dL_law_169 rfl rfl ?_
    refine z_iconst 172 C dL_law_171 rfl ?_
    refine z_loc [(0, _), (1, _), (2, _), (3, _), (4, _), (7, _)] ⟨rfl, rfl, rfl, rfl, rfl, rfl, trivial⟩ ?_
    exact tl 2 so ((so + 1) % 3) ky 0 _ 172 175 (oCall_2 T so ((so + 1) % 3) ky 0) (by omega) (by omega) (by omega) (by omega) (by omega) dL_law_172 rfl (fun h9 J9 r9 => z_goto 264 C dL_law_175 rfl (fin _ h9 (sv_cd (by decide) (by decide) (by decide) (sv_pull hok)) (okT_pull hok) J9 r9))
  refine z_iload 180 C dL_law_178 rfl rfl ?_
  refine z_iconst 181 C dL_law_180 rfl ?_
  refine z_icmp_ne 207 184 C dL_law_181 rfl rfl (by omega) (by omega) (fun _ => ?_) (fun _ => ?_)
  rotate_left
  · skip
    refine z_aload_n 185 C dL_law_184 rfl rfl ?_
    refine z_iconst 186 C dL_law_185 rfl ?_
    refine z_iload 188 C dL_law_186 rfl rfl ?_
    refine z_iload 190 C dL_law_188 rfl rfl ?_
    refine z_iload 192 C dL_law_190 rfl rfl ?_
    refine z_iload 194 C dL_law_192 rfl rfl ?_
    refine z_bipush 196 C dL_law_194 (by decide) rfl ?_
    refine z_ishr 197 C dL_law_196 rfl rfl ?_
    refine z_iconst 198 C dL_law_197 rfl ?_
    refine z_part _ 4 201 C dL_law_198 rfl ⟨⟨by decide, by decide⟩, by show kc + 1136 + 0 ≤ 773738; omega, by show ks + 6816 + 0 ≤ 6780411; omega⟩ (Nat.le_of_ble_eq_true rfl) rfl (by decide) (fun vl hvl => ?_)
    refine z_loc [(0, _), (1, _), (2, _), (3, _), (4, _), (7, _)] ⟨rfl, rfl, rfl, rfl, rfl, rfl, trivial⟩ ?_
    exact tl 3 wr ky so vl _ 201 204 (oCall_3 T wr ky so vl) (by omega) (by omega) (by omega) (by omega) (by omega) dL_law_201 rfl (fun h9 J9 r9 => z_goto 264 C dL_law_204 rfl (fin _ h9 (sv_cd (by decide) (by decide) (by decide) (sv_join hok)) (okT_join hok) J9 r9))
  refine z_iload 209 C dL_law_207 rfl rfl ?_
  refine z_bipush 211 C dL_law_209 (by decide) rfl ?_
  refine z_icmp_ne 228 214 C dL_law_211 rfl rfl (by omega) (by omega) (fun _ => ?_) (fun _ => ?_)
  rotate_left
  · skip
    refine z_aload_n 215 C dL_law_214 rfl rfl ?_
    refine z_iconst 216 C dL_law_215 rfl ?_
    refine z_iload 218 C dL_law_216 rfl rfl ?_
    refine z_iload 220 C dL_law_218 rfl rfl ?_
    refine z_iconst 221 C dL_law_220 rfl ?_
    refine z_iconst 222 C dL_law_221 rfl ?_
    refine z_loc [(0, _), (1, _), (2, _), (3, _), (4, _), (7, _)] ⟨rfl, rfl, rfl, rfl, rfl, rfl, trivial⟩ ?_
    exact tl 5 wr ky 0 0 _ 222 225 (oCall_5 T wr ky 0 0) (by omega) (by omega) (by omega) (by omega) (by omega) dL_law_222 rfl (fun h9 J9 r9 => z_goto 264 C dL_law_225 rfl (fin _ h9 (sv_cd (by decide) (by decide) (by decide) (sv_forget hok)) (okT_forget hok) J9 r9))
  refine z_iload 230 C dL_law_228 rfl rfl ?_
  refine z_bipush 232 C dL_law_230 (by decide) rfl ?_
  refine z_ishr 233 C dL_law_232 rfl rfl ?_
  refine z_iconst 234 C dL_law_233 rfl ?_
  refine z_part _ 2 237 C dL_law_234 rfl ⟨⟨by decide, by decide⟩, by show kc + 1136 + 0 ≤ 773738; omega, by show ks + 6816 + 0 ≤ 6780411; omega⟩ (Nat.le_of_ble_eq_true rfl) rfl (by decide) (fun vl hvl => ?_)
  refine z_if_ne 253 240 C dL_law_237 rfl rfl (by omega) (fun _ => ?_) (fun _ => ?_)
  rotate_left
  · skip
    refine z_aload_n 241 C dL_law_240 rfl rfl ?_
    refine z_bipush 243 C dL_law_241 (by decide) rfl ?_
    refine z_iconst 244 C dL_law_243 rfl ?_
    refine z_iconst 245 C dL_law_244 rfl ?_
    refine z_iconst 246 C dL_law_245 rfl ?_
    refine z_iconst 247 C dL_law_246 rfl ?_
    refine z_loc [(0, _), (1, _), (2, _), (3, _), (4, _), (7, _)] ⟨rfl, rfl, rfl, rfl, rfl, rfl, trivial⟩ ?_
    exact tl 17 0 0 0 0 _ 247 250 (oCall_17 T 0 0 0 0) (by omega) (by omega) (by omega) (by omega) (by omega) dL_law_247 rfl (fun h9 J9 r9 => z_goto 264 C dL_law_250 rfl (fin _ h9 (sv_cd (by decide) (by decide) (by decide) (sv_pullAll hok)) (okT_pullAll hok) J9 r9))
  refine z_aload_n 254 C dL_law_253 rfl rfl ?_
  refine z_iconst 255 C dL_law_254 rfl ?_
  refine z_iload 257 C dL_law_255 rfl rfl ?_
  refine z_iload 259 C dL_law_257 rfl rfl ?_
  refine z_iconst 260 C dL_law_259 rfl ?_
  refine z_iconst 261 C dL_law_260 rfl ?_
  refine z_loc [(0, _), (1, _), (2, _), (3, _), (4, _), (7, _)] ⟨rfl, rfl, rfl, rfl, rfl, rfl, trivial⟩ ?_
  exact tl 4 wr ky 0 0 _ 261 264 (oCall_4 T wr ky 0 0) (by omega) (by omega) (by omega) (by omega) (by omega) dL_law_261 rfl (fun h9 J9 r9 => fin _ h9 (sv_cd (by decide) (by decide) (by decide) (sv_lose hok)) (okT_lose hok) J9 r9)
theorem law_lp (hX : va_X sb Ls xs F.2.2.1 F.2.2.1.heap) (hsb : sb < gB E) (hLs : Ls ≤ 260) (hB : ∀ f9 : Int → Int64, zB E F mL_law b b 525 (rW E b f9))
    (KE : ∀ (St : Nat → gSt) (T : gTt) (A c : Nat) (fw : Int → Int64) (h : gH), okT T → gLs St T A c → A ≤ 24 → (∀ j : Nat, j < A → fw (j : Int) = seenS (St j)) → isJ (gRe E b) h b T → rW E b fw h → Z E b fz F mL_law Q 525 none h 75173 431311 314 [(1, .ref b), (2, .ref (b + 524)), (3, .int (gi (A : Int)))] []) :
    ∀ (k9 i : Nat) (St : Nat → gSt) (T : gTt) (A c : Nat) (fw : Int → Int64) (h : gH), i ≤ 24 → 24 - i < k9 → okT T → gLs St T A c → A ≤ i → (∀ j : Nat, j < A → fw (j : Int) = seenS (St j)) → isJ (gRe E b) h b T → rW E b fw h → Z E b fz F mL_law Q 525 none h (20525 + 2277 * i) (103423 + 13662 * i) 32 [(0, .ref sb), (1, .ref b), (2, .ref (b + 524)), (3, .int (gi (A : Int))), (4, .int (gi (i : Int)))] [] := by
  intro k9
  induction k9 with
  | zero => intro i St T A c fw h h1 h2; exact absurd h2 (Nat.not_lt_zero _)
  | succ k9 ih =>
    intro i St T A c fw h h1 h2 hok hG hA hfw hJ hr
    have C := (hB fw).1
    refine z_iload 34 C dL_law_32 rfl rfl ?_
    refine z_bipush 36 C dL_law_34 (by decide) rfl ?_
    refine z_icmp_ge 314 39 C dL_law_36 rfl rfl (by omega) (by omega) (fun c9 => ?_) (fun c9 => ?_)
    · have e : i = 24 := by omega
      subst e
      refine z_loc [(1, _), (2, _), (3, _)] ⟨rfl, rfl, rfl, trivial⟩ ?_
      exact KE St T A c fw h hok hG hA hfw hJ hr
    · refine law_it hX hsb hLs hB (by omega) (by omega) hok hG hA (by omega) hfw hJ hr (fun St' T' A' c' fw' h' z1 z2 z3 z4 z5 z6 => ?_)
      have z9 := ih (i + 1) St' T' A' c' fw' h' (by omega) (by omega) z1 z2 z3 z4 z5 z6
      rw [show ((i + 1 : Nat) : Int) = (i : Int) + 1 by omega, show 20525 + 2277 * (i + 1) = 20525 + 2277 * i + 2277 by omega, show 103423 + 13662 * (i + 1) = 103423 + 13662 * i + 13662 by omega] at z9
      exact z9
set_option maxRecDepth 100000 in
set_option maxHeartbeats 4000000 in
theorem law_un (hB : ∀ f9 : Int → Int64, zB E F mL_law b b 525 (rW E b f9)) (hA : A ≤ 24) (hfw : ∀ j : Nat, j ≤ A → fw (j : Int) = seenS (St j)) (KE : ∀ (h : gH) (L : List (Nat × Value)), Z E b fz F mL_law Q 525 none h 87447 504955 462 L [.int (gi 1)]) : ∀ (c k : Nat) (T : gTt) (h : gH), okT T → gLs St T (A - k) c → k ≤ A → k + c ≤ 6 → isJ (gRe E b) h b T → rW E b fw h → Z E b fz F mL_law Q 525 none h (79478 + 1137 * k) (457141 + 6822 * k) 397 [(1, .ref b), (2, .ref (b + 524)), (3, .int (gi (A : Int))), (7, .int (gi (k : Int)))] [] := by
  have C := (hB fw).1
  have B := hB fw
  intro c
  induction c with
  | zero =>
    intro k T h hok hG hkA hk6 hJ hr
    refine z_aload_n 398 C dL_law_397 rfl rfl ?_
    refine z_bipush 400 C dL_law_398 (by decide) rfl ?_
    refine zu_Cnt7 (S := T.1) (c := T.2.1.1) (f := T.2.1.2) (bu := T.2.2) 403 (79478 + 1137 * k + 1) (457141 + 6822 * k + 6) B dL_law_400 ⟨⟨by decide, by decide⟩, by show 79478 + 1137 * k + 1 ≤ 773738; omega, by show 457141 + 6822 * k + 6 ≤ 6780411; omega⟩ (Nat.le_of_ble_eq_true rfl) rfl rfl rfl hok hJ hr (fun h1 J1 r1 => ?_)
    rw [hG.2.1]
    refine z_if_le 442 406 C dL_law_403 rfl rfl (by omega) (fun _ => ?_) (fun c9 => absurd (Int.le_refl _) c9)
    refine z_aload_n 443 C dL_law_442 rfl rfl ?_
    refine z_bipush 445 C dL_law_443 (by decide) rfl ?_
    refine z_iconst 446 C dL_law_445 rfl ?_
    refine z_iconst 447 C dL_law_446 rfl ?_
    refine z_iconst 448 C dL_law_447 rfl ?_
    refine z_iconst 449 C dL_law_448 rfl ?_
    have e : oCall T 8 0 0 0 0 = (-13, 0, T) := by rw [oCall_8, undo_0 hG.2.1]; rfl
    refine zu_told (T := T) 8 0 0 0 0 (-13, 0, T) 452 (79478 + 1137 * k + 6) (457141 + 6822 * k + 36) e B dL_law_449 ⟨⟨by decide, by decide⟩, by show 79478 + 1137 * k + 1 + 5 ≤ 773738; omega, by show 457141 + 6822 * k + 6 + 30 ≤ 6780411; omega⟩ (Nat.le_of_ble_eq_true rfl) rfl rfl rfl hok J1 r1 (by decide) (by decide) (by decide) (by decide) (by decide) (fun h2 J2 r2 => ?_)
    refine z_val (-13) (tO_r (-13) (by decide)) ?_
    refine z_bipush 454 C dL_law_452 (by decide) rfl ?_
    refine z_icmp_ne 461 457 C dL_law_454 rfl rfl (by decide) (by decide) (fun c9 => absurd rfl c9) (fun _ => ?_)
    refine z_iconst 458 C dL_law_457 rfl ?_
    refine z_goto 462 C dL_law_458 rfl ?_
    exact z_wid (by omega) (by omega) (KE h2 _)
  | succ c ih =>
    intro k T h hok hG hkA hk6 hJ hr
    obtain ⟨hA1, hO, hG2⟩ := gLs_undo hG
    have eA : ((A - k : Nat) : Int) = (A : Int) - (k : Int) := by omega
    have eA2 : A - k - 1 = A - (k + 1) := by omega
    have hok2 := okT_undo (T := T) hok
    refine z_aload_n 398 C dL_law_397 rfl rfl ?_
    refine z_bipush 400 C dL_law_398 (by decide) rfl ?_
    refine zu_Cnt7 (S := T.1) (c := T.2.1.1) (f := T.2.1.2) (bu := T.2.2) 403 (79478 + 1137 * k + 1) (457141 + 6822 * k + 6) B dL_law_400 ⟨⟨by decide, by decide⟩, by show 79478 + 1137 * k + 1 ≤ 773738; omega, by show 457141 + 6822 * k + 6 ≤ 6780411; omega⟩ (Nat.le_of_ble_eq_true rfl) rfl rfl rfl hok hJ hr (fun h1 J1 r1 => ?_)
    rw [hG.2.1]
    refine z_if_le 442 406 C dL_law_403 rfl rfl (by omega) (fun c9 => absurd c9 (by omega)) (fun _ => ?_)
    refine z_iload 408 C dL_law_406 rfl rfl ?_
    refine z_bipush 410 C dL_law_408 (by decide) rfl ?_
    refine z_icmp_gt 434 413 C dL_law_410 rfl rfl (by omega) (by omega) (fun c9 => absurd c9 (by omega)) (fun _ => ?_)
    refine z_aload_n 414 C dL_law_413 rfl rfl ?_
    refine zu_seen (T := T) 417 (79478 + 1137 * k + 1136) (457141 + 6822 * k + 6816) B dL_law_414 ⟨⟨by decide, by decide⟩, by show 79478 + 1137 * k + 1 + 1135 ≤ 773738; omega, by show 457141 + 6822 * k + 6 + 6810 ≤ 6780411; omega⟩ (Nat.le_of_ble_eq_true rfl) rfl rfl rfl hok J1 r1 (fun h2 J2 r2 => ?_)
    refine z_aload_n 418 C dL_law_417 rfl rfl ?_
    refine z_iload_n 419 C dL_law_418 rfl rfl ?_
    refine z_iload 421 C dL_law_419 rfl rfl ?_
    refine z_isub 422 C dL_law_421 rfl ?_
    refine z_lald (m := 64) 423 C dL_law_422 ⟨Nat.le_add_right _ _, Nat.lt_succ_self _⟩ r2 (by omega) (by decide) rfl ?_
    refine z_lcmp 424 C dL_law_423 rfl ?_
    rw [← eA, hfw (A - k) (by omega), hG.1, lg_cmp_s]
    refine z_if_ne 434 427 C dL_law_424 rfl rfl (by decide) (fun c9 => absurd rfl c9) (fun _ => ?_)
    refine z_aload_n 428 C dL_law_427 rfl rfl ?_
    have hM := c_X4_undo (E := gRe E b) (n := 525) (σ := none) (h := h2) b T B.2.2.1 B.2.2.2.1 J2 hok
    rw [hO] at hM hok2
    refine zu_core (As := []) 431 (79478 + 1137 * (k + 1)) (457141 + 6822 * (k + 1)) B dL_law_428 lk_RL_40 gi_X4_undo gv_X4_undo rfl ⟨⟨by decide, by decide⟩, by show 79478 + 1137 * k + 1136 + 1 ≤ 773738; omega, by show 457141 + 6822 * k + 6816 + 6 ≤ 6780411; omega⟩ (Nat.le_of_ble_eq_true rfl) rfl (by show 79478 + 1137 * k + 1136 + 1 = _; omega) (by show 457141 + 6822 * k + 6816 + 6 = _; omega) J2 r2 hM (fun _ _ z => absurd rfl z.2.1) (fun h3 J3 r3 => ?_)
    refine z_if_ge (x := (c : Int)) 436 434 C dL_law_431 rfl rfl (by omega) (fun _ => ?_) (fun c9 => absurd c9 (by omega))
    refine z_iinc 439 [(7, _), (1, _), (2, _), (3, _)] C dL_law_436 rfl (by decide) rfl rfl ?_
    refine z_goto 397 C dL_law_439 rfl ?_
    refine z_loc [(1, _), (2, _), (3, _), (7, _)] ⟨rfl, rfl, rfl, rfl, trivial⟩ ?_
    rw [eA2] at hG2
    have z9 := ih (k + 1) _ h3 hok2 (eA2 ▸ hG2) (by omega) (by omega) J3 r3
    rw [show ((k + 1 : Nat) : Int) = (k : Int) + 1 by omega] at z9
    exact z9
set_option maxRecDepth 100000 in
set_option maxHeartbeats 4000000 in
theorem law_fin (hB : ∀ f9 : Int → Int64, zB E F mL_law b b 525 (rW E b f9)) (hok : okT T) (hG : gLs St T A c) (hA : A ≤ 24) (hfw : ∀ j : Nat, j < A → fw (j : Int) = seenS (St j)) (hJ : isJ (gRe E b) h b T) (hr : rW E b fw h) (KE : ∀ (h : gH) (L : List (Nat × Value)), Z E b fz F mL_law Q 525 none h 87447 504955 462 L [.int (gi 1)]) : Z E b fz F mL_law Q 525 none h 75173 431311 314 [(1, .ref b), (2, .ref (b + 524)), (3, .int (gi (A : Int)))] [] := by
  have C := (hB fw).1
  have hc6 : c ≤ 6 := hG.2.2.1
  refine z_aload_n 315 C dL_law_314 rfl rfl ?_
  refine z_iload_n 316 C dL_law_315 rfl rfl ?_
  refine z_aload_n 317 C dL_law_316 rfl rfl ?_
  refine zu_seen (T := T) 320 76308 438121 (hB fw) dL_law_317 ⟨⟨by decide, by decide⟩, by decide, by decide⟩ (Nat.le_of_ble_eq_true rfl) rfl rfl rfl hok hJ hr (fun h1 J1 r1 => ?_)
  refine z_last (m := 64) 321 C dL_law_320 ⟨Nat.le_add_right _ _, Nat.lt_succ_self _⟩ r1 (by omega) (by decide) rfl ?_
  have J2 : isJ (gRe E b) (va_up h1 (b + 524) (gJ (gRe E b) 64 (gup fw (A : Int) (seenS T.1)))) b T := J1.kept (fun q _ q2 => up_n (Nat.ne_of_lt q2))
  have r2 : rW E b (gup fw (A : Int) (seenS T.1)) (va_up h1 (b + 524) (gJ (gRe E b) 64 (gup fw (A : Int) (seenS T.1)))) := up_s
  have hfw2 : ∀ j : Nat, j ≤ A → gup fw (A : Int) (seenS T.1) (j : Int) = seenS (St j) := fun j hj => by
    by_cases e : j = A
    · subst e; rw [gup_at, hG.1]
    · rw [gup_ne (by omega)]; exact hfw j (by omega)
  have B := hB (gup fw (A : Int) (seenS T.1))
  refine z_aload_n 322 C dL_law_321 rfl rfl ?_
  refine zu_dig (T := T) 325 B dL_law_322 ⟨⟨by decide, by decide⟩, by decide, by decide⟩ (Nat.le_of_ble_eq_true rfl) rfl hok J2 ?_
  refine z_lstore 327 [(4, _), (1, _), (2, _), (3, _)] C dL_law_325 (by decide) rfl rfl ?_
  refine z_aload_n 328 C dL_law_327 rfl rfl ?_
  refine z_bipush 330 C dL_law_328 (by decide) rfl ?_
  refine zu_Cnt7 (S := T.1) (c := T.2.1.1) (f := T.2.1.2) (bu := T.2.2) 333 76309 438127 B dL_law_330 ⟨⟨by decide, by decide⟩, by decide, by decide⟩ (Nat.le_of_ble_eq_true rfl) rfl rfl rfl hok J2 r2 (fun h3 J3 r3 => ?_)
  rw [hG.2.1]
  refine z_istore 335 [(6, _), (4, _), (1, _), (2, _), (3, _)] C dL_law_333 (by decide) rfl rfl ?_
  -- read
  have hO1 : oRead T 0 0 0 = (0, sLen T.1 0 0, tKey T.1 0 (kLearn (T.1.1 0) 0 0), (tSave T).2) := by unfold oRead; exact if_pos (by decide)
  have hs1 : 0 ≤ sLen T.1 0 0 ∧ sLen T.1 0 0 < 100 := by
    have e : sLen T.1 0 0 = (((T.1.1 0).2.2.2 0).length : Int) := rfl
    have h4 := ((hok.1 0 (by decide) (by decide)).2.2.2 0 (by decide) (by decide)).1
    omega
  have hok1 := okT_read (T := T) (w := 0) (k := 0) (s := 0) hok
  have hG1 := gLs_save (S' := tKey T.1 0 (kLearn (T.1.1 0) 0 0)) hG
  refine z_aload_n 336 C dL_law_335 rfl rfl ?_
  refine z_iconst 337 C dL_law_336 rfl ?_
  refine z_iconst 338 C dL_law_337 rfl ?_
  refine z_iconst 339 C dL_law_338 rfl ?_
  have hM := c_X4_read (E := gRe E b) (n := 525) (σ := none) (h := h3) b T 0 0 0 B.2.2.1 B.2.2.2.1 J3 hok (by decide) (by decide) (by decide)
  rw [hO1] at hM hok1
  refine zu_core (As := [.int (gi 0), .int (gi 0), .int (gi 0)]) 342 76312 438145 B dL_law_339 lk_RL_9 gi_X4_read gv_X4_read rfl ⟨⟨by decide, by decide⟩, by decide, by decide⟩ (Nat.le_of_ble_eq_true rfl) rfl rfl rfl J3 r3 hM (fun _ _ z => absurd rfl z.2.1) (fun h4 J4 r4 => ?_)
  refine z_if_lt (x := sLen T.1 0 0) 392 345 C dL_law_342 rfl rfl (by omega) (fun c9 => absurd c9 (by omega)) (fun _ => ?_)
  -- lose
  generalize hT1 : ((tKey T.1 0 (kLearn (T.1.1 0) 0 0), (tSave T).2) : gTt) = T1 at J4 hok1 hG1
  generalize hS1 : tKey T.1 0 (kLearn (T.1.1 0) 0 0) = S1 at hG1 hT1
  have J4 : isJ (gRe E b) h4 b T1 := J4
  have hok1 : okT T1 := hok1
  have hO2 : oLose T1 1 1 = (0, kUnlS (T1.1.1 1) 1, tKey T1.1 1 (kUnl (T1.1.1 1) 1), (tSave T1).2) := by unfold oLose; exact if_pos (by decide)
  have hs2 := unlS_r (hok1.1 1 (by decide) (by decide)) (w := 1) (by decide)
  have hok2 := okT_lose (T := T1) (w := 1) (k := 1) hok1
  have hG2 := gLs_save (S' := tKey T1.1 1 (kUnl (T1.1.1 1) 1)) hG1
  refine z_aload_n 346 C dL_law_345 rfl rfl ?_
  refine z_iconst 347 C dL_law_346 rfl ?_
  refine z_iconst 348 C dL_law_347 rfl ?_
  have hM := c_X4_lose (E := gRe E b) (n := 525) (σ := none) (h := h4) b T1 1 1 B.2.2.1 B.2.2.2.1 J4 hok1 (by decide) (by decide)
  rw [hO2] at hM hok2
  refine zu_core (As := [.int (gi 1), .int (gi 1)]) 351 76314 438157 B dL_law_348 lk_RL_25 gi_X4_lose gv_X4_lose rfl ⟨⟨by decide, by decide⟩, by decide, by decide⟩ (Nat.le_of_ble_eq_true rfl) rfl rfl rfl J4 r4 hM (fun _ _ z => absurd rfl z.2.1) (fun h5 J5 r5 => ?_)
  refine z_if_lt (x := kUnlS (T1.1.1 1) 1) 392 354 C dL_law_351 rfl rfl (by omega) (fun c9 => absurd c9 (by omega)) (fun _ => ?_)
  have eb : (tSave T1).2.2 = T.2.2 := by rw [← hT1]; rfl
  generalize hT2 : ((tKey T1.1 1 (kUnl (T1.1.1 1) 1), (tSave T1).2) : gTt) = T2 at J5 hok2 hG2
  have eb2 : T2.2.2 = T.2.2 := by rw [← hT2]; exact eb
  generalize hS2 : tKey T1.1 1 (kUnl (T1.1.1 1) 1) = S2 at hG2 hT2
  have J5 : isJ (gRe E b) h5 b T2 := J5
  have hok2 : okT T2 := hok2
  -- refused
  refine z_aload_n 355 C dL_law_354 rfl rfl ?_
  refine zu_refused (T := T2) 358 79476 457129 B dL_law_355 ⟨⟨by decide, by decide⟩, by decide, by decide⟩ (Nat.le_of_ble_eq_true rfl) rfl rfl rfl hok2 J5 r5 (fun h6 J6 r6 => ?_)
  refine z_if_eq 392 361 C dL_law_358 rfl rfl (by decide) (fun c9 => absurd c9 (by decide)) (fun _ => ?_)
  -- two undos
  have hSt : ∀ j : Nat, j ≤ A → sUp (sUp St A S1) (A + 1) S2 j = St j := fun j hj => by
    unfold sUp
    rw [if_pos (by omega), if_pos hj]
  generalize hStE : sUp (sUp St A S1) (A + 1) S2 = St2 at hG2 hSt
  obtain ⟨c4, hc4, hc44, hcs⟩ : ∃ c4 : Nat, cUp (cUp c) = c4 + 1 + 1 ∧ c4 ≤ 4 ∧ (c < 5 → c4 = c) := by
    refine ⟨cUp (cUp c) - 2, ?_, ?_, fun h5 => ?_⟩ <;> unfold cUp <;> split <;> split <;> omega
  rw [hc4] at hG2
  obtain ⟨-, hO3, hG3⟩ := gLs_undo hG2
  have hok3 := okT_undo (T := T2) hok2
  refine z_aload_n 362 C dL_law_361 rfl rfl ?_
  have hM := c_X4_undo (E := gRe E b) (n := 525) (σ := none) (h := h6) b T2 B.2.2.1 B.2.2.2.1 J6 hok2
  rw [hO3] at hM hok3
  refine zu_core (As := []) 365 79477 457135 B dL_law_362 lk_RL_40 gi_X4_undo gv_X4_undo rfl ⟨⟨by decide, by decide⟩, by decide, by decide⟩ (Nat.le_of_ble_eq_true rfl) rfl rfl rfl J6 r6 hM (fun _ _ z => absurd rfl z.2.1) (fun h7 J7 r7 => ?_)
  refine z_iconst 366 C dL_law_365 rfl ?_
  refine z_icmp_lt (x := ((c4 + 1 : Nat) : Int)) 392 369 C dL_law_366 rfl rfl (by omega) (by decide) (fun c9 => absurd c9 (by omega)) (fun _ => ?_)
  rw [show A + 1 + 1 - 1 = A + 1 by omega] at hG3 J7 hok3
  obtain ⟨-, hO4, hG4⟩ := gLs_undo hG3
  rw [show A + 1 - 1 = A by omega] at hG4 hO4
  have hok4 := okT_undo (T := (St2 (A + 1), (c4 + 1, T2.2.1.2), T2.2.2)) hok3
  refine z_aload_n 370 C dL_law_369 rfl rfl ?_
  have hM := c_X4_undo (E := gRe E b) (n := 525) (σ := none) (h := h7) b (St2 (A + 1), (c4 + 1, T2.2.1.2), T2.2.2) B.2.2.1 B.2.2.2.1 J7 hok3
  rw [hO4] at hM hok4
  refine zu_core (As := []) 373 79478 457141 B dL_law_370 lk_RL_40 gi_X4_undo gv_X4_undo rfl ⟨⟨by decide, by decide⟩, by decide, by decide⟩ (Nat.le_of_ble_eq_true rfl) rfl rfl rfl J7 r7 hM (fun _ _ z => absurd rfl z.2.1) (fun h8 J8 r8 => ?_)
  refine z_if_lt (x := (c4 : Int)) 392 376 C dL_law_373 rfl rfl (by omega) (fun c9 => absurd c9 (by omega)) (fun _ => ?_)
  have J8 : isJ (gRe E b) h8 b (St2 A, (c4, T2.2.1.2), T2.2.2) := J8
  have hok4 : okT (St2 A, (c4, T2.2.1.2), T2.2.2) := hok4
  have last : ∀ (L9 : List (Nat × Value)), gSub L9 [(1, .ref b), (2, .ref (b + 524)), (3, .int (gi (A : Int)))] → Z E b fz F mL_law Q 525 none h8 79478 457141 394 L9 [] := fun L9 hs9 => by
    refine z_loc [(1, .ref b), (2, .ref (b + 524)), (3, .int (gi (A : Int)))] hs9 ?_
    refine z_iconst 395 C dL_law_394 rfl ?_
    refine z_istore 397 [(7, _), (1, _), (2, _), (3, _)] C dL_law_395 (by decide) rfl rfl ?_
    refine z_loc [(1, _), (2, _), (3, _), (7, .int (gi ((0 : Nat) : Int)))] ⟨rfl, rfl, rfl, rfl, trivial⟩ ?_
    exact law_un hB hA (fun j hj => (hfw2 j hj).trans (by rw [hSt j hj])) KE c4 0 _ h8 hok4 hG4 (Nat.zero_le _) (by omega) J8 r8
  refine z_iload 378 C dL_law_376 rfl rfl ?_
  refine z_iconst 379 C dL_law_378 rfl ?_
  refine z_icmp_ge (x := (c : Int)) 394 382 C dL_law_379 rfl rfl (by omega) (by decide) (fun _ => last _ ⟨rfl, rfl, rfl, trivial⟩) (fun c9 => ?_)
  have e4 : c4 = c := hcs (by omega)
  have eD : tDig (St2 A, (c4, T2.2.1.2), T2.2.2) = tDig T := by
    rw [hSt A (Nat.le_refl _), eb2, e4, ← hG.1, ← hG.2.1]
    exact tDig_e
  refine z_aload_n 383 C dL_law_382 rfl rfl ?_
  refine zu_dig (T := (St2 A, (c4, T2.2.1.2), T2.2.2)) 386 B dL_law_383 ⟨⟨by decide, by decide⟩, by decide, by decide⟩ (Nat.le_of_ble_eq_true rfl) rfl hok4 J8 ?_
  rw [eD]
  refine z_lload 388 C dL_law_386 rfl rfl ?_
  refine z_lcmp 389 C dL_law_388 rfl ?_
  rw [lg_cmp_s]
  refine z_if_eq 394 392 C dL_law_389 rfl rfl (by decide) (fun _ => last _ ⟨rfl, rfl, rfl, trivial⟩) (fun c9 => absurd rfl c9)
end LWL
