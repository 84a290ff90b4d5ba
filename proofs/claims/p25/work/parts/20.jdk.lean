/-! String.length and String.charAt over the two shapes; what lies at old addresses -/
section GJD
variable {E : gEnv} {F : gFr} {t : gMt} {Q : State → Prop} {n : Nat} {σ : Option Nat} {h : gH} {kc ks pc : Nat} {L : List (Nat × Value)} {st : List Value}
abbrev gSa (E : gEnv) (i : Nat) : Nat := E.2.2.2.2.1 i
abbrev gSv (E : gEnv) (i : Nat) : Nat := E.2.2.2.2.2 i
theorem gC_S (C : gC E F t) : vk_S 2 gLen gByt E.2.2.2.2.1 E.2.2.2.2.2 (gA E) F.2.2.1 F.2.2.1.heap := C.2.2.2.2.2.1.2.2.2.2.2.1
theorem gC_Z (C : gC E F t) : va_Z "java/lang/String" "COMPACT_STRINGS" "Z" (.int 1) (gA E) F.2.2.1 F.2.2.1.heap := C.2.2.2.2.2.1.2.2.2.2.2.2.1
theorem gC_P (C : gC E F t) : va_Zq "jdk/internal/util/Preconditions" "SIOOBE_FORMATTER" "Ljava/util/function/BiFunction;" (gA E) F.2.2.1 F.2.2.1.heap := C.2.2.2.2.2.1.2.2.2.2.2.2.2.1
theorem g_gstZ {own : String} (pc' : Nat) (C : gC E F t) (hd : decode (gCode t) pc = .ok (.getstatic 38, 3)) (ho : t.1.cls = own) (hl : Cond.fieldLink own 38 "java/lang/String" "COMPACT_STRINGS" "Z" ∈ wsG) (hp : pc + 3 = pc') (k : G E F t Q n σ h kc ks pc' L (.int (gi 1) :: st)) : G E F t Q n σ h kc ks pc L st := by
  subst hp
  subst ho
  intro H locs ls a1 a3 a4 a5
  exact va_gets C.1 C.2.1 (gC_Z C) a4 C.2.2.2.1 (C.2.2.2.2.1 _ hl) (fun _ z => z) hd (k H locs ls a1 a3 a4 a5)
theorem g_gstP {own : String} (pc' : Nat) (C : gC E F t) (hd : decode (gCode t) pc = .ok (.getstatic 1053, 3)) (ho : t.1.cls = own) (hl : Cond.fieldLink own 1053 "jdk/internal/util/Preconditions" "SIOOBE_FORMATTER" "Ljava/util/function/BiFunction;" ∈ wsG) (hp : pc + 3 = pc') (k : ∀ v : Value, (v = .null ∨ ∃ q : Nat, v = .ref q) → G E F t Q n σ h kc ks pc' L (v :: st)) : G E F t Q n σ h kc ks pc L st := by
  subst hp
  subst ho
  intro H locs ls a1 a3 a4 a5
  rcases gC_P C with z | ⟨q, z⟩
  · exact va_gets C.1 C.2.1 z a4 C.2.2.2.1 (C.2.2.2.2.1 _ hl) (fun _ z => z) hd (k _ (Or.inl rfl) H locs ls a1 a3 a4 a5)
  · exact va_gets C.1 C.2.1 z a4 C.2.2.2.1 (C.2.2.2.2.1 _ hl) (fun _ z => z) hd (k _ (Or.inr ⟨q, rfl⟩) H locs ls a1 a3 a4 a5)
theorem g_strv {own : String} {i : Nat} (pc' : Nat) (C : gC E F t) (hd : decode (gCode t) pc = .ok (.getfield 9, 3)) (ho : t.1.cls = own) (hl : Cond.fieldLink own 9 "java/lang/String" "value" "[B" ∈ wsG) (hi : i < 2) (hp : pc + 3 = pc') (k : G E F t Q n σ h kc ks pc' L (.ref (gSv E i) :: st)) : G E F t Q n σ h kc ks pc L (.ref (gSa E i) :: st) := by
  subst hp
  subst ho
  intro H locs ls a1 a3 a4 a5
  exact vk_getf C.1 C.2.1 ((gC_S C).1 i hi).2.2.1 a4 C.2.2.2.1 (C.2.2.2.2.1 _ hl) (fun _ z => z) hd (k H locs ls a1 a3 a4 a5)
theorem g_strc {own : String} {i : Nat} (pc' : Nat) (C : gC E F t) (hd : decode (gCode t) pc = .ok (.getfield 15, 3)) (ho : t.1.cls = own) (hl : Cond.fieldLink own 15 "java/lang/String" "coder" "B" ∈ wsG) (hi : i < 2) (hp : pc + 3 = pc') (k : G E F t Q n σ h kc ks pc' L (.int (gi 0) :: st)) : G E F t Q n σ h kc ks pc L (.ref (gSa E i) :: st) := by
  subst hp
  subst ho
  intro H locs ls a1 a3 a4 a5
  exact vk_getf C.1 C.2.1 ((gC_S C).1 i hi).2.1 a4 C.2.2.2.1 (C.2.2.2.2.1 _ hl) (fun _ z => z) hd (k H locs ls a1 a3 a4 a5)
theorem g_slen {i : Nat} (pc' : Nat) (C : gC E F t) (hd : decode (gCode t) pc = .ok (.arraylength, 1)) (hi : i < 2) (hp : pc + 1 = pc') (k : G E F t Q n σ h kc ks pc' L (.int (gi ((gLen.getD i 0 : Nat) : Int)) :: st)) : G E F t Q n σ h kc ks pc L (.ref (gSv E i) :: st) := by
  subst hp
  intro H locs ls a1 a3 a4 a5
  exact va_tlen C.1 C.2.1 ((gC_S C).1 i hi).2.2.2 a4 (v := gi ((gLen.getD i 0 : Nat) : Int)) Int32.ofInt_eq_ofNat.symm hd (k H locs ls a1 a3 a4 a5)
theorem g_sbal {i j : Nat} (pc' : Nat) (C : gC E F t) (hd : decode (gCode t) pc = .ok (.baload, 1)) (hi : i < 2) (hj : j < gLen.getD i 0) (hj2 : j < 100) (hp : pc + 1 = pc') (k : G E F t Q n σ h kc ks pc' L (.int ((gByt.getD i []).getD j 0) :: st)) : G E F t Q n σ h kc ks pc L (.int (gi (j : Int)) :: .ref (gSv E i) :: st) := by
  subst hp
  intro H locs ls a1 a3 a4 a5
  have hl9 : gLen.getD i 0 < 100 := by rcases (show i = 0 ∨ i = 1 by omega) with rfl | rfl <;> decide
  exact va_tb C.1 C.2.1 ((gC_S C).1 i hi).2.2.2 a4 (i := gi (j : Int)) (gi_in (i := (j : Int)) ⟨by omega, by omega⟩ (by omega)) (by rw [gi_clamp (by omega) (by omega)]; rfl) hd (k H locs ls a1 a3 a4 a5)
theorem g_ishr {x y v : Int32} (pc' : Nat) (C : gC E F t) (hd : decode (gCode t) pc = .ok (.ishr, 1)) (hv : x >>> (y &&& 31) = v) (hp : pc + 1 = pc') (k : G E F t Q n σ h kc ks pc' L (.int v :: st)) : G E F t Q n σ h kc ks pc L (.int y :: .int x :: st) := by
  subst hp
  subst hv
  intro H locs ls a1 a3 a4 a5
  exact lv_ishr C.1 C.2.1 hd (k H locs ls a1 a3 a4 a5)
theorem g_i2c {x v : Int32} (pc' : Nat) (C : gC E F t) (hd : decode (gCode t) pc = .ok (.i2c, 1)) (hv : (x.toUInt32 % 65536).toInt32 = v) (hp : pc + 1 = pc') (k : G E F t Q n σ h kc ks pc' L (.int v :: st)) : G E F t Q n σ h kc ks pc L (.int x :: st) := by
  subst hp
  intro H locs ls a1 a3 a4 a5
  exact lv_i2c C.1 C.2.1 hd hv (k H locs ls a1 a3 a4 a5)
theorem g_ldcS {i : Nat} {own tx : String} {index : Nat} (pc' : Nat) (C : gC E F t) (hd : decode (gCode t) pc = .ok (.ldc index, 2)) (ho : t.1.cls = own) (hs : gStr[i]? = some (own, index, tx)) (hp : pc + 2 = pc') (k : G E F t Q n σ h kc ks pc' L (.ref (gSa E i) :: st)) : G E F t Q n σ h kc ks pc L st := by
  subst hp
  subst ho
  intro H locs ls a1 a3 a4 a5
  exact va_ldcS C.1 C.2.1 C.2.2.2.1 (C.2.2.2.2.2.1.2.2.1 i _ hs) hd (k H locs ls a1 a3 a4 a5)
/-- a call on one of the two shapes -/
theorem g_callT {tc : gMt} {own : String} {index np i : Nat} {As rest : List Value} {QR : gQt} {QX : String → gH → Prop} (pc' : Nat) (C : gC E F t) (hd : decode (gCode t) pc = .ok (.invokevirtual index, 3)) (ho : t.1.cls = own) (lk : gLk own index tc np) (hi : Cond.instanceMethod tc.1 ∈ wsG) (hs : Cond.selects "java/lang/String" tc.1 tc.1 ∈ wsG) (hi2 : i < 2) (hn : As.length = np) (ft : gFit tc t kc ks) (hw : (rest.map fun v => v.category).sum ≤ 8) (hp : pc + 3 = pc')
    (hM : gM E tc (.ref (gSa E i) :: As) n σ h QR QX) (hx : ∀ (X : String) (h' : gH), QX X h' → gThr E F t n Q X h')
    (kk : ∀ (v : Option Value) (n' : Nat) (σ' : Option Nat) (h' : gH), QR v n' σ' h' → G E F t Q n' σ' h' (kc + gMc tc) (ks + gMs tc) pc' L (v.toList ++ rest)) : G E F t Q n σ h kc ks pc L (As.reverse ++ .ref (gSa E i) :: rest) := by
  subst hp
  intro H locs ls a1 a3 a4 a5
  have hrecv := vk_recv (gC_S C) hi2 a4
  exact g_run (F := F) C a4 a5 (vx_runV (As := As) (rest := rest) (own := own) (C := "java/lang/String") ⟨C.1, C.2.1, C.2.2.1, ho ▸ C.2.2.2.1, C.2.2.2.2.1⟩ hM ⟨gLk_B C ho lk ft, C.2.2.2.2.1 _ hi, C.2.2.2.2.1 _ hs⟩ ⟨gW_blind, hrecv, gW_at C a1 a3 a4⟩ rfl hn a5.1 rfl (lv_room hw) hd ft.2) ft.2.1 ft.2.2 hx kk
theorem g_T0r {tc : gMt} {own : String} {index i : Nat} {rest : List Value} {r : Value} {n' : Nat} {σ' : Option Nat} {Ph : gH → Prop} {QX : String → gH → Prop} (pc' kc' ks' : Nat) (C : gC E F t) (hd : decode (gCode t) pc = .ok (.invokevirtual index, 3)) (ho : t.1.cls = own) (lk : gLk own index tc 0) (hi : Cond.instanceMethod tc.1 ∈ wsG) (hs : Cond.selects "java/lang/String" tc.1 tc.1 ∈ wsG) (hi2 : i < 2) (ft : gFit tc t kc ks) (hw : (rest.map fun v => v.category).sum ≤ 8) (hp : pc + 3 = pc') (hk1 : kc + gMc tc = kc') (hk2 : ks + gMs tc = ks') (hM : gM E tc [.ref (gSa E i)] n σ h (gD (some r) n' σ' Ph) QX) (hx : ∀ (X : String) (h' : gH), QX X h' → gThr E F t n Q X h') (kk : ∀ h' : gH, Ph h' → G E F t Q n' σ' h' kc' ks' pc' L (r :: rest)) : G E F t Q n σ h kc ks pc L (.ref (gSa E i) :: rest) := by
  subst hk1
  subst hk2
  exact g_callT (As := []) (rest := rest) pc' C hd ho lk hi hs hi2 rfl ft hw hp hM hx (fun v n9 σ9 h9 hq9 => by obtain ⟨rfl, rfl, rfl, hq9⟩ := hq9; exact kk h9 hq9)
theorem g_T1r {tc : gMt} {own : String} {index i : Nat} {v1 : Value} {rest : List Value} {r : Value} {n' : Nat} {σ' : Option Nat} {Ph : gH → Prop} {QX : String → gH → Prop} (pc' kc' ks' : Nat) (C : gC E F t) (hd : decode (gCode t) pc = .ok (.invokevirtual index, 3)) (ho : t.1.cls = own) (lk : gLk own index tc 1) (hi : Cond.instanceMethod tc.1 ∈ wsG) (hs : Cond.selects "java/lang/String" tc.1 tc.1 ∈ wsG) (hi2 : i < 2) (ft : gFit tc t kc ks) (hw : (rest.map fun v => v.category).sum ≤ 8) (hp : pc + 3 = pc') (hk1 : kc + gMc tc = kc') (hk2 : ks + gMs tc = ks') (hM : gM E tc [.ref (gSa E i), v1] n σ h (gD (some r) n' σ' Ph) QX) (hx : ∀ (X : String) (h' : gH), QX X h' → gThr E F t n Q X h') (kk : ∀ h' : gH, Ph h' → G E F t Q n' σ' h' kc' ks' pc' L (r :: rest)) : G E F t Q n σ h kc ks pc L (v1 :: .ref (gSa E i) :: rest) := by
  subst hk1
  subst hk2
  exact g_callT (As := [v1]) (rest := rest) pc' C hd ho lk hi hs hi2 rfl ft hw hp hM hx (fun v n9 σ9 h9 hq9 => by obtain ⟨rfl, rfl, rfl, hq9⟩ := hq9; exact kk h9 hq9)
theorem g_cret {n0 : Nat} {x : Int32} {ty : FieldType} {QR : gQt} {QX : String → gH → Prop} (C : gC E F t) (hd : decode (gCode t) pc = .ok (.ireturn, 1)) (hr : gRet t = some ty) (hn : narrow ty (.int x) = .int x) (hk : kc ≤ gMc t ∧ ks ≤ gMs t) (hq : QR (some (.int x)) n σ h) : G E F t (gQ E F t n0 QR QX) n σ h kc ks pc L [.int x] := g_zret C hd hr hn hk hq
end GJD
theorem gl_J38 : Cond.fieldLink "java/lang/String" 38 "java/lang/String" "COMPACT_STRINGS" "Z" ∈ wsG := wsG_of 602 (by decide +kernel) rfl
theorem gl_J1053 : Cond.fieldLink "java/lang/String" 1053 "jdk/internal/util/Preconditions" "SIOOBE_FORMATTER" "Ljava/util/function/BiFunction;" ∈ wsG := wsG_of 623 (by decide +kernel) rfl
theorem gl_J9 : Cond.fieldLink "java/lang/String" 9 "java/lang/String" "value" "[B" ∈ wsG := wsG_of 769 (by decide +kernel) rfl
theorem gl_J15 : Cond.fieldLink "java/lang/String" 15 "java/lang/String" "coder" "B" ∈ wsG := wsG_of 770 (by decide +kernel) rfl
theorem lk_RJ0_335 : gLk RJ0 335 mJ0_coder_7d493 0 := ⟨(wsG_of 598 (by decide +kernel) rfl), (wsG_of 14 (by decide +kernel) rfl), gcd_J0_coder_7d493, by decide, by decide, by decide +kernel⟩
theorem gi_J0_coder_7d493 : Cond.instanceMethod mJ0_coder_7d493.1 ∈ wsG := (wsG_of 599 (by decide +kernel) rfl)
theorem gv_J0_coder_7d493 : Cond.selects RJ0 mJ0_coder_7d493.1 mJ0_coder_7d493.1 ∈ wsG := (wsG_of 600 (by decide +kernel) rfl)
theorem lk_RJ0_492 : gLk RJ0 492 mJ0_isLatin1_aae02 0 := ⟨(wsG_of 613 (by decide +kernel) rfl), (wsG_of 14 (by decide +kernel) rfl), gcd_J0_isLatin1_aae02, by decide, by decide, by decide +kernel⟩
theorem gi_J0_isLatin1_aae02 : Cond.instanceMethod mJ0_isLatin1_aae02.1 ∈ wsG := (wsG_of 614 (by decide +kernel) rfl)
theorem gv_J0_isLatin1_aae02 : Cond.selects RJ0 mJ0_isLatin1_aae02.1 mJ0_isLatin1_aae02.1 ∈ wsG := (wsG_of 615 (by decide +kernel) rfl)
theorem lk_RJ0_495 : gLk RJ0 495 mJ1_charAt_3b067 2 := ⟨(wsG_of 617 (by decide +kernel) rfl), (wsG_of 15 (by decide +kernel) rfl), gcd_J1_charAt_3b067, by decide, by decide, by decide +kernel⟩
theorem gs_J1_charAt_3b067 : Cond.static mJ1_charAt_3b067.1 ∈ wsG := (wsG_of 618 (by decide +kernel) rfl)
theorem lk_RJ1_9 : gLk RJ1 9 mJ0_checkIndex_df160 2 := ⟨(wsG_of 620 (by decide +kernel) rfl), (wsG_of 14 (by decide +kernel) rfl), gcd_J0_checkIndex_df160, by decide, by decide, by decide +kernel⟩
theorem gs_J0_checkIndex_df160 : Cond.static mJ0_checkIndex_df160.1 ∈ wsG := (wsG_of 621 (by decide +kernel) rfl)
theorem lk_RJ0_1059 : gLk RJ0 1059 mJ3_checkIndex_8e157 3 := ⟨(wsG_of 625 (by decide +kernel) rfl), (wsG_of 16 (by decide +kernel) rfl), gcd_J3_checkIndex_8e157, by decide, by decide, by decide +kernel⟩
theorem gs_J3_checkIndex_8e157 : Cond.static mJ3_checkIndex_8e157.1 ∈ wsG := (wsG_of 626 (by decide +kernel) rfl)
/-- the character at the place j of the shape i -/
def gChr (i j : Nat) : Int := (((gByt.getD i []).getD j 0) &&& gi 255).toInt
theorem gChr_c : ∀ i, i < 2 → ∀ j, j < gLen.getD i 0 → ((((gByt.getD i []).getD j 0) &&& gi 255).toUInt32 % 65536).toInt32 = gi (gChr i j) ∧ narrow .char (.int (gi (gChr i j))) = .int (gi (gChr i j)) ∧ 0 ≤ gChr i j ∧ gChr i j < 128 := by decide
theorem gLen_r : ∀ i, i < 2 → gLen.getD i 0 < 9 := by decide

set_option maxRecDepth 100000 in
set_option maxHeartbeats 4000000 in
theorem c_J0_coder_7d493 {E : gEnv} {n : Nat} {σ : Option Nat} {h : gH} (i : Nat) (hi : i < 2) : gM E mJ0_coder_7d493 [.ref (gSa E i)] n σ h (gD (some (.int (gi 0))) n σ (fun h9 => h9 = h)) (gNo) := by
  refine gM_of (by decide) (Nat.le_of_ble_eq_true rfl) (fun F C => ?_)
  refine g_gstZ 3 C dJ0_coder_7d493_0 rfl gl_J38 rfl ?_
  refine g_if_eq 13 6 C dJ0_coder_7d493_3 rfl rfl (by omega) (fun c3 => ?_) (fun c3 => ?_)
  · skip
    exact absurd c3 (by omega)
  · skip
    refine g_aload_n 7 C dJ0_coder_7d493_6 rfl rfl ?_
    refine g_strc 10 C dJ0_coder_7d493_7 rfl gl_J15 hi rfl ?_
    refine g_goto 14 C dJ0_coder_7d493_10 rfl ?_
    exact g_zret C dJ0_coder_7d493_14 rfl rfl ⟨by decide, by decide⟩ (⟨rfl, rfl, rfl, rfl⟩)
set_option maxRecDepth 100000 in
set_option maxHeartbeats 4000000 in
theorem c_J0_isLatin1_aae02 {E : gEnv} {n : Nat} {σ : Option Nat} {h : gH} (i : Nat) (hi : i < 2) : gM E mJ0_isLatin1_aae02 [.ref (gSa E i)] n σ h (gD (some (.int (gi 1))) n σ (fun h9 => h9 = h)) (gNo) := by
  refine gM_of (by decide) (Nat.le_of_ble_eq_true rfl) (fun F C => ?_)
  refine g_gstZ 3 C dJ0_isLatin1_aae02_0 rfl gl_J38 rfl ?_
  refine g_if_eq 17 6 C dJ0_isLatin1_aae02_3 rfl rfl (by omega) (fun c3 => ?_) (fun c3 => ?_)
  · skip
    exact absurd c3 (by omega)
  · skip
    refine g_aload_n 7 C dJ0_isLatin1_aae02_6 rfl rfl ?_
    refine g_strc 10 C dJ0_isLatin1_aae02_7 rfl gl_J15 hi rfl ?_
    refine g_if_ne 17 13 C dJ0_isLatin1_aae02_10 rfl rfl (by omega) (fun c10 => ?_) (fun c10 => ?_)
    · skip
      exact absurd c10 (by omega)
    · skip
      refine g_iconst 14 C dJ0_isLatin1_aae02_13 rfl ?_
      refine g_goto 18 C dJ0_isLatin1_aae02_14 rfl ?_
      exact g_zret C dJ0_isLatin1_aae02_18 rfl rfl ⟨by decide, by decide⟩ (⟨rfl, rfl, rfl, rfl⟩)
set_option maxRecDepth 100000 in
set_option maxHeartbeats 4000000 in
theorem c_J0_length_8abf5 {E : gEnv} {n : Nat} {σ : Option Nat} {h : gH} (i : Nat) (hi : i < 2) : gM E mJ0_length_8abf5 [.ref (gSa E i)] n σ h (gD (some (.int (gi ((gLen.getD i 0 : Nat) : Int)))) n σ (fun h9 => h9 = h)) (gNo) := by
  refine gM_of (by decide) (Nat.le_of_ble_eq_true rfl) (fun F C => ?_)
  refine g_aload_n 1 C dJ0_length_8abf5_0 rfl rfl ?_
  refine g_strv 4 C dJ0_length_8abf5_1 rfl gl_J9 hi rfl ?_
  refine g_slen 5 C dJ0_length_8abf5_4 hi rfl ?_
  refine g_aload_n 6 C dJ0_length_8abf5_5 rfl rfl ?_
  refine g_T0r 9 0 0 C dJ0_length_8abf5_6 rfl lk_RJ0_335 gi_J0_coder_7d493 gv_J0_coder_7d493 hi ⟨⟨by decide, by decide⟩, by decide, by decide⟩ (Nat.le_of_ble_eq_true rfl) rfl rfl rfl (c_J0_coder_7d493 i hi) g_no (fun h9 e6 => ?_)
  subst e6
  refine g_ishr 10 C dJ0_length_8abf5_9 (v := gi ((gLen.getD i 0 : Nat) : Int)) (by rcases (show i = 0 ∨ i = 1 by omega) with rfl | rfl <;> decide) rfl ?_
  exact g_iret C dJ0_length_8abf5_10 rfl ⟨by decide, by decide⟩ (⟨rfl, rfl, rfl, rfl⟩)
set_option maxRecDepth 100000 in
set_option maxHeartbeats 4000000 in
theorem c_J3n {E : gEnv} {n : Nat} {σ : Option Nat} {h : gH} (x y : Int) (hx : 0 ≤ x ∧ x < y ∧ y < 1000) : gM E mJ3_checkIndex_8e157 [.int (gi x), .int (gi y), .null] n σ h (gD (some (.int (gi x))) n σ (fun h9 => h9 = h)) (gNo) := by
  refine gM_of (by decide) (Nat.le_of_ble_eq_true rfl) (fun F C => ?_)
  refine g_iload_n 1 C dJ3_checkIndex_8e157_0 rfl rfl ?_
  refine g_if_lt 9 4 C dJ3_checkIndex_8e157_1 rfl rfl (by omega) (fun c1 => ?_) (fun c1 => ?_)
  · skip
    exact absurd c1 (by omega)
  · skip
    refine g_iload_n 5 C dJ3_checkIndex_8e157_4 rfl rfl ?_
    refine g_iload_n 6 C dJ3_checkIndex_8e157_5 rfl rfl ?_
    refine g_icmp_lt 16 9 C dJ3_checkIndex_8e157_6 rfl rfl (by omega) (by omega) (fun c6 => ?_) (fun c6 => ?_)
    · skip
      refine g_iload_n 17 C dJ3_checkIndex_8e157_16 rfl rfl ?_
      exact g_iret C dJ3_checkIndex_8e157_17 rfl ⟨by decide, by decide⟩ (⟨rfl, rfl, rfl, rfl⟩)
    · skip
      exact absurd c6 (by omega)
set_option maxRecDepth 100000 in
set_option maxHeartbeats 4000000 in
theorem c_J3r {E : gEnv} {n : Nat} {σ : Option Nat} {h : gH} (x y : Int) (q : Nat) (hx : 0 ≤ x ∧ x < y ∧ y < 1000) : gM E mJ3_checkIndex_8e157 [.int (gi x), .int (gi y), .ref q] n σ h (gD (some (.int (gi x))) n σ (fun h9 => h9 = h)) (gNo) := by
  refine gM_of (by decide) (Nat.le_of_ble_eq_true rfl) (fun F C => ?_)
  refine g_iload_n 1 C dJ3_checkIndex_8e157_0 rfl rfl ?_
  refine g_if_lt 9 4 C dJ3_checkIndex_8e157_1 rfl rfl (by omega) (fun c1 => ?_) (fun c1 => ?_)
  · skip
    exact absurd c1 (by omega)
  · skip
    refine g_iload_n 5 C dJ3_checkIndex_8e157_4 rfl rfl ?_
    refine g_iload_n 6 C dJ3_checkIndex_8e157_5 rfl rfl ?_
    refine g_icmp_lt 16 9 C dJ3_checkIndex_8e157_6 rfl rfl (by omega) (by omega) (fun c6 => ?_) (fun c6 => ?_)
    · skip
      refine g_iload_n 17 C dJ3_checkIndex_8e157_16 rfl rfl ?_
      exact g_iret C dJ3_checkIndex_8e157_17 rfl ⟨by decide, by decide⟩ (⟨rfl, rfl, rfl, rfl⟩)
    · skip
      exact absurd c6 (by omega)
theorem c_J3_checkIndex_8e157 {E : gEnv} {n : Nat} {σ : Option Nat} {h : gH} (x y : Int) (v : Value) (hx : 0 ≤ x ∧ x < y ∧ y < 1000) (hv : v = .null ∨ ∃ q : Nat, v = .ref q) : gM E mJ3_checkIndex_8e157 [.int (gi x), .int (gi y), v] n σ h (gD (some (.int (gi x))) n σ (fun h9 => h9 = h)) gNo := by
  rcases hv with rfl | ⟨q, rfl⟩
  · exact c_J3n x y hx
  · exact c_J3r x y q hx
set_option maxRecDepth 100000 in
set_option maxHeartbeats 4000000 in
theorem c_J0_checkIndex_df160 {E : gEnv} {n : Nat} {σ : Option Nat} {h : gH} (x y : Int) (hx : 0 ≤ x ∧ x < y ∧ y < 1000) : gM E mJ0_checkIndex_df160 [.int (gi x), .int (gi y)] n σ h (gD none n σ (fun h9 => h9 = h)) (gNo) := by
  refine gM_of (by decide) (Nat.le_of_ble_eq_true rfl) (fun F C => ?_)
  refine g_iload_n 1 C dJ0_checkIndex_df160_0 rfl rfl ?_
  refine g_iload_n 2 C dJ0_checkIndex_df160_1 rfl rfl ?_
  refine g_gstP 5 C dJ0_checkIndex_df160_2 rfl gl_J1053 rfl (fun v hv => ?_)
  refine g_S3r 8 0 0 C dJ0_checkIndex_df160_5 rfl lk_RJ0_1059 gs_J3_checkIndex_8e157 ⟨⟨by decide, by decide⟩, by decide, by decide⟩ (Nat.le_of_ble_eq_true rfl) rfl rfl rfl (c_J3_checkIndex_8e157 x y v hx hv) g_no (fun h9 e5 => ?_)
  subst e5
  refine g_pop 9 C dJ0_checkIndex_df160_8 rfl rfl ?_
  exact g_vret C dJ0_checkIndex_df160_9 rfl ⟨by decide, by decide⟩ (⟨rfl, rfl, rfl, rfl⟩)
set_option maxRecDepth 100000 in
set_option maxHeartbeats 4000000 in
theorem c_J1_charAt_3b067 {E : gEnv} {n : Nat} {σ : Option Nat} {h : gH} (i j : Nat) (hi : i < 2) (hj : j < gLen.getD i 0) : gM E mJ1_charAt_3b067 [.ref (gSv E i), .int (gi (j : Int))] n σ h (gD (some (.int (gi (gChr i j)))) n σ (fun h9 => h9 = h)) (gNo) := by
  have hl := gLen_r i hi
  obtain ⟨hc1, hc2, hc3, hc4⟩ := gChr_c i hi j hj
  refine gM_of (by decide) (Nat.le_of_ble_eq_true rfl) (fun F C => ?_)
  refine g_iload_n 1 C dJ1_charAt_3b067_0 rfl rfl ?_
  refine g_aload_n 2 C dJ1_charAt_3b067_1 rfl rfl ?_
  refine g_slen 3 C dJ1_charAt_3b067_2 hi rfl ?_
  refine g_S2v 6 0 0 C dJ1_charAt_3b067_3 rfl lk_RJ1_9 gs_J0_checkIndex_df160 ⟨⟨by decide, by decide⟩, by decide, by decide⟩ (Nat.le_of_ble_eq_true rfl) rfl rfl rfl (c_J0_checkIndex_df160 (j : Int) _ ⟨by omega, by omega, by omega⟩) g_no (fun h9 e3 => ?_)
  subst e3
  refine g_aload_n 7 C dJ1_charAt_3b067_6 rfl rfl ?_
  refine g_iload_n 8 C dJ1_charAt_3b067_7 rfl rfl ?_
  refine g_sbal 9 C dJ1_charAt_3b067_8 hi hj (by omega) rfl ?_
  refine g_sipush 12 C dJ1_charAt_3b067_9 (by decide) rfl ?_
  refine g_iand 13 C dJ1_charAt_3b067_12 rfl rfl ?_
  refine g_i2c 14 C dJ1_charAt_3b067_13 hc1 rfl ?_
  exact g_zret C dJ1_charAt_3b067_14 rfl hc2 ⟨by decide, by decide⟩ (⟨rfl, rfl, rfl, rfl⟩)
set_option maxRecDepth 100000 in
set_option maxHeartbeats 4000000 in
theorem c_J0_charAt_5068e {E : gEnv} {n : Nat} {σ : Option Nat} {h : gH} (i j : Nat) (hi : i < 2) (hj : j < gLen.getD i 0) : gM E mJ0_charAt_5068e [.ref (gSa E i), .int (gi (j : Int))] n σ h (gD (some (.int (gi (gChr i j)))) n σ (fun h9 => h9 = h)) (gNo) := by
  obtain ⟨hc1, hc2, hc3, hc4⟩ := gChr_c i hi j hj
  refine gM_of (by decide) (Nat.le_of_ble_eq_true rfl) (fun F C => ?_)
  refine g_aload_n 1 C dJ0_charAt_5068e_0 rfl rfl ?_
  refine g_T0r 4 0 0 C dJ0_charAt_5068e_1 rfl lk_RJ0_492 gi_J0_isLatin1_aae02 gv_J0_isLatin1_aae02 hi ⟨⟨by decide, by decide⟩, by decide, by decide⟩ (Nat.le_of_ble_eq_true rfl) rfl rfl rfl (c_J0_isLatin1_aae02 i hi) g_no (fun h9 e1 => ?_)
  subst e1
  refine g_if_eq 16 7 C dJ0_charAt_5068e_4 rfl rfl (by omega) (fun c4 => ?_) (fun c4 => ?_)
  · skip
    exact absurd c4 (by omega)
  · skip
    refine g_aload_n 8 C dJ0_charAt_5068e_7 rfl rfl ?_
    refine g_strv 11 C dJ0_charAt_5068e_8 rfl gl_J9 hi rfl ?_
    refine g_iload_n 12 C dJ0_charAt_5068e_11 rfl rfl ?_
    refine g_S2r 15 0 0 C dJ0_charAt_5068e_12 rfl lk_RJ0_495 gs_J1_charAt_3b067 ⟨⟨by decide, by decide⟩, by decide, by decide⟩ (Nat.le_of_ble_eq_true rfl) rfl rfl rfl (c_J1_charAt_3b067 i j hi hj) g_no (fun h9 e12 => ?_)
    subst e12
    exact g_zret C dJ0_charAt_5068e_15 rfl hc2 ⟨by decide, by decide⟩ (⟨rfl, rfl, rfl, rfl⟩)
