/-! frames with a table of handlers; the law's own rows -/
def gCt (hh : List (Nat × Nat × Nat × Nat)) (E : gEnv) (F : gFr) (t : gMt) : Prop :=
  F.1.tables.exec = Jvm.exec ∧ F.2.2.2.2.2.2.2.code = gCode t ∧ F.2.2.2.2.2.2.2.maxLocals = gMax t ∧ F.2.2.1.vm.findClass t.1.cls = some F.2.2.2.1.cls ∧ (∀ w ∈ wsG, w.before F.2.2.2.2.1 F.2.2.1 = true) ∧ gX E F.2.2.1 F.2.2.1.heap ∧ F.2.2.2.2.2.2.1.locks = false ∧ F.2.2.2.2.2.2.1.sig.returnType = gRet t ∧ gB E ≤ F.2.2.1.heap.size ∧ F.2.2.2.2.2.2.2.exceptionTable.toList = tableOf hh ∧ F.2.2.2.2.2.2.1.name = t.1.name
/-- a contract of a method with handlers -/
def gMH (E : gEnv) (t : gMt) (hh : List (Nat × Nat × Nat × Nat)) (av : List Value) (n : Nat) (σ : Option Nat) (h : gH) (QR : gQt) (QX : String → gH → Prop) : Prop :=
  vx_Met E.1 t.1 (.codeWith t.1 (gCode t) (gMax t) (gRet t) hh :: wsG) (gRm t) (va_Pc av (gW E n σ h)) (gQc E QR) (gXC E n QX) (gMc t) (gMs t) (gA E)
theorem gMH_of {E : gEnv} {t : gMt} {hh : List (Nat × Nat × Nat × Nat)} {av : List Value} {n : Nat} {σ : Option Nat} {h : gH} {QR : gQt} {QX : String → gH → Prop} (hy : plainName t.1.cls = true) (hlen : (lg_sl av).length ≤ gMax t)
    (body : ∀ F : gFr, gCt hh E F t → G E F t (gQ E F t n QR QX) n σ h 0 0 0 (lv_args 0 av) []) : gMH E t hh av n σ h QR QX := by
  refine vx_ofWH (cc := gCode t) (maxL := gMax t) (ret := gRet t) (hh := hh) hy rfl ?_
  intro p e s m args below meth c s₁ B hml hv
  obtain ⟨rfl, hsz, hbn, hP, hX⟩ := hv
  have hts := atoms_spec (ws := .codeWith t.1 (gCode t) (gMax t) (gRet t) hh :: wsG) B.pre
  have hl := lv_entry av (n := gMax t) hlen
  rw [lg_entry_eq]
  exact body (p, e, s, m, av.toArray, below, meth, c) ⟨B.exec, B.bytes, hml, findClass_of_methodNamed B.named, fun w hw => hts w (List.mem_cons_of_mem _ hw), hX, B.notSynchronized, B.returns, hbn, vx_table (x := t.1) B (hts _ List.mem_cons_self), (name_of_methodNamed B.named B.method).1⟩ s.heap [] _ hsz hP va_S.rf hl
section GLK
variable {hh : List (Nat × Nat × Nat × Nat)} {E : gEnv} {F : gFr} {t : gMt} {Q : State → Prop} {n : Nat} {σ : Option Nat} {h : gH} {kc ks pc pc' : Nat} {L L' : List (Nat × Value)} {st : List Value}
theorem k_aload {i : Nat} {x : Nat} (pc' : Nat) (C : gCt hh E F t) (hd : decode (gCode t) pc = .ok (.aload i, 2)) (hl : L.lookup i = some (.ref x)) (hp : pc + 2 = pc') (k : G E F t Q n σ h kc ks pc' L (.ref x :: st)) : G E F t Q n σ h kc ks pc L st := by
  subst hp
  intro H locs ls a1 a3 a4 a5
  exact lv_aload C.1 C.2.1 hd (gl_at a5 hl) (k H locs ls a1 a3 a4 a5)
theorem k_aload_n {j : Fin 4} {x : Nat} (pc' : Nat) (C : gCt hh E F t) (hd : decode (gCode t) pc = .ok (.aload_n j, 1)) (hl : L.lookup (j : Nat) = some (.ref x)) (hp : pc + 1 = pc') (k : G E F t Q n σ h kc ks pc' L (.ref x :: st)) : G E F t Q n σ h kc ks pc L st := by
  subst hp
  intro H locs ls a1 a3 a4 a5
  exact lv_aload_n C.1 C.2.1 hd rfl (gl_at a5 hl) (k H locs ls a1 a3 a4 a5)
theorem k_iload {i : Nat} {x : Int32} (pc' : Nat) (C : gCt hh E F t) (hd : decode (gCode t) pc = .ok (.iload i, 2)) (hl : L.lookup i = some (.int x)) (hp : pc + 2 = pc') (k : G E F t Q n σ h kc ks pc' L (.int x :: st)) : G E F t Q n σ h kc ks pc L st := by
  subst hp
  intro H locs ls a1 a3 a4 a5
  exact lv_iload C.1 C.2.1 hd (gl_at a5 hl) (k H locs ls a1 a3 a4 a5)
theorem k_iload_n {j : Fin 4} {x : Int32} (pc' : Nat) (C : gCt hh E F t) (hd : decode (gCode t) pc = .ok (.iload_n j, 1)) (hl : L.lookup (j : Nat) = some (.int x)) (hp : pc + 1 = pc') (k : G E F t Q n σ h kc ks pc' L (.int x :: st)) : G E F t Q n σ h kc ks pc L st := by
  subst hp
  intro H locs ls a1 a3 a4 a5
  exact lv_iload_n C.1 C.2.1 hd rfl (gl_at a5 hl) (k H locs ls a1 a3 a4 a5)
theorem k_iconst {d : Int} (pc' : Nat) (C : gCt hh E F t) (hd : decode (gCode t) pc = .ok (.iconst d, 1)) (hp : pc + 1 = pc') (k : G E F t Q n σ h kc ks pc' L (.int (gi d) :: st)) : G E F t Q n σ h kc ks pc L st := by
  subst hp
  intro H locs ls a1 a3 a4 a5
  exact lv_iconst C.1 C.2.1 hd rfl (k H locs ls a1 a3 a4 a5)
theorem k_bipush {d : Int} (pc' : Nat) (C : gCt hh E F t) (hd : decode (gCode t) pc = .ok (.bipush d, 2)) (hv : (Int8.ofInt d).toInt32 = gi d) (hp : pc + 2 = pc') (k : G E F t Q n σ h kc ks pc' L (.int (gi d) :: st)) : G E F t Q n σ h kc ks pc L st := by
  subst hp
  intro H locs ls a1 a3 a4 a5
  exact lv_bipush C.1 C.2.1 hd hv (k H locs ls a1 a3 a4 a5)
theorem k_goto {off : Int} (pc' : Nat) (C : gCt hh E F t) (hd : decode (gCode t) pc = .ok (.goto off, 3)) (hp : (pc : Int) + off = (pc' : Int)) (k : G E F t Q n σ h kc ks pc' L st) : G E F t Q n σ h kc ks pc L st := by
  intro H locs ls a1 a3 a4 a5
  exact lv_goto C.1 C.2.1 hd hp (k H locs ls a1 a3 a4 a5)
theorem k_astore {i : Nat} {x : Nat} (pc' : Nat) (L' : List (Nat × Value)) (C : gCt hh E F t) (hd : decode (gCode t) pc = .ok (.astore i, 2)) (hn : i < gMax t) (hL : gset i (.ref x) L = L') (hp : pc + 2 = pc') (k : G E F t Q n σ h kc ks pc' L' st) : G E F t Q n σ h kc ks pc L (.ref x :: st) := by
  subst hp
  intro H locs ls a1 a3 a4 a5
  exact lv_astore C.1 C.2.1 hd a5 hn hL (fun ls' a5' => k H locs ls' a1 a3 a4 a5')
theorem k_astore_n {j : Fin 4} {x : Nat} (pc' : Nat) (L' : List (Nat × Value)) (C : gCt hh E F t) (hd : decode (gCode t) pc = .ok (.astore_n j, 1)) (hn : (j : Nat) < gMax t) (hL : gset (j : Nat) (.ref x) L = L') (hp : pc + 1 = pc') (k : G E F t Q n σ h kc ks pc' L' st) : G E F t Q n σ h kc ks pc L (.ref x :: st) := by
  subst hp
  intro H locs ls a1 a3 a4 a5
  exact lv_astore_n C.1 C.2.1 hd rfl a5 hn hL (fun ls' a5' => k H locs ls' a1 a3 a4 a5')
theorem k_iret {n0 : Nat} {x : Int32} {QR : gQt} {QX : String → gH → Prop} (C : gCt hh E F t) (hd : decode (gCode t) pc = .ok (.ireturn, 1)) (hr : gRet t = some .int) (hk : kc ≤ gMc t ∧ ks ≤ gMs t) (hq : QR (some (.int x)) n σ h) : G E F t (gQ E F t n0 QR QX) n σ h kc ks pc L [.int x] := by
  intro H locs ls a1 a3 a4 a5
  refine vx_ret (W.widen hk.1 hk.2 ?_)
  exact W.iret C.1 C.2.1 (C.2.2.2.2.2.2.2.1.trans hr) (fun t9 ht hW => ⟨⟨_, n, σ, h, rfl, hq, by rw [ht]; exact a1, by rw [ht]; exact a3⟩, a4.F ht⟩) a4.2.2 hd C.2.2.2.2.2.2.1
theorem gW_atk {av : List Value} {H : Heap} {locs : List Loc} (C : gCt hh E F t) (a1 : gS σ H) (a3 : gP E n h H) (a4 : va_S (gA E) F.2.2.1.heap H locs) : ∀ U : State, U.heap = H → F.2.2.1.WarmedH U.vm → va_Pc av (gW E n σ h) av.toArray U := fun U hU hW => ⟨rfl, by rw [hU]; exact a1, by rw [hU]; exact Nat.le_trans C.2.2.2.2.2.2.2.2.1 a4.1, by rw [hU]; exact a3, gX_go C.2.2.2.2.2.1 hW (locs := locs) (by rw [hU]; exact a4)⟩
theorem kLk_B {tc : gMt} {own : String} {index np : Nat} (C : gCt hh E F t) (ho : t.1.cls = own) (lk : gLk own index tc np) (ft : gFit tc t kc ks) : CallB (gRm t) F.2.2.1 F.2.2.2.2.1 own index tc.1 (gCode tc) (gMax tc) (gRet tc) (.code tc.1 (gCode tc) (gMax tc) (gRet tc) :: wsG) (gRm tc) (gMc tc) (gMs tc) np :=
  callB_of np C.2.2.2.2.1 (wsG_goodC lk.2.2.1) rfl rfl rfl (C.2.2.2.2.1 _ lk.2.1) (C.2.2.2.2.1 _ lk.1) lk.2.2.2 ft.1
/-- X, thrown at pc, is caught: P holds of its handler -/
def kCat (hh : List (Nat × Nat × Nat × Nat)) (own : String) (pc : Nat) (X : String) (P : Nat → Prop) : Prop :=
  ∃ (pre : List ExceptionTableEntry) (x : ExceptionTableEntry) (suf : List ExceptionTableEntry) (name : String), tableOf hh = pre ++ x :: suf ∧ (∀ z ∈ pre, covers z pc = false ∨ (z.catchType ≠ 0 ∧ ∃ nm : String, Cond.classLink own z.catchType nm ∈ wsG ∧ (X, nm) ∈ gNc)) ∧ covers x pc = true ∧ x.catchType ≠ 0 ∧ Cond.classLink own x.catchType name ∈ wsG ∧ Cond.castable X name ∈ gNest ∧ P x.handlerPc
theorem kCat_1 {own X nm : String} {s1 e1 h1 c1 : Nat} {hh : List (Nat × Nat × Nat × Nat)} {P : Nat → Prop} (hc : s1 ≤ pc ∧ pc < e1) (h0 : c1 ≠ 0) (hl : Cond.classLink own c1 nm ∈ wsG) (hk : Cond.castable X nm ∈ gNest) (k : P h1) : kCat ((s1, e1, h1, c1) :: hh) own pc X P :=
  ⟨[], ⟨s1, e1, h1, c1⟩, tableOf hh, nm, rfl, fun z hz => absurd hz List.not_mem_nil, by show (decide (s1 ≤ pc) && decide (pc < e1)) = true; rw [decide_eq_true hc.1, decide_eq_true hc.2]; rfl, h0, hl, hk, k⟩
theorem kCat_s {own X nm : String} {s1 e1 h1 c1 : Nat} {hh : List (Nat × Nat × Nat × Nat)} {P : Nat → Prop} (h0 : c1 ≠ 0) (hl : Cond.classLink own c1 nm ∈ wsG) (hn : (X, nm) ∈ gNc) (k : kCat hh own pc X P) : kCat ((s1, e1, h1, c1) :: hh) own pc X P := by
  obtain ⟨pre, x, suf, name, k1, k2, k3, k4, k5, k6, k7⟩ := k
  refine ⟨⟨s1, e1, h1, c1⟩ :: pre, x, suf, name, by show _ :: tableOf hh = _; rw [k1]; rfl, fun z hz => ?_, k3, k4, k5, k6, k7⟩
  rcases List.mem_cons.mp hz with rfl | hz
  · exact Or.inr ⟨h0, nm, hl, hn⟩
  · exact k2 z hz
theorem k_run {mc ms : Nat} {a : Array Value} {QR : gQt} {QX : String → gH → Prop} {st0 rest : List Value} {H : Heap} {locs : List Loc} {ls : Array Slot} (C : gCt hh E F t) (a4 : va_S (gA E) F.2.2.1.heap H locs) (a5 : lv_has ls (gMax t) L)
    (hr : vx_Run F.1 E.1 F.2.1 (gRm t) F.2.2.1 F.2.2.2.1 F.2.2.2.2.1 F.2.2.2.2.2.1 F.2.2.2.2.2.2.1 F.2.2.2.2.2.2.2 H locs kc ks mc ms (F0 F.2.2.2.1 pc ls st0) rest (gQc E QR a) (gXC E n QX) (gA E))
    (hx : ∀ (X : String) (h' : gH), QX X h' → kCat hh t.1.cls pc X (fun hp => ∀ q : Nat, G E F t Q n none h' (kc + mc) (ks + ms) hp L [.ref q]))
    (kk : ∀ (v : Option Value) (n' : Nat) (σ' : Option Nat) (h' : gH), QR v n' σ' h' → G E F t Q n' σ' h' (kc + mc) (ks + ms) (pc + 3) L (v.toList ++ rest)) :
    W F.1 E.1 F.2.1 (gRm t) F.2.2.1 F.2.2.2.1 F.2.2.2.2.1 F.2.2.2.2.2.1 F.2.2.2.2.2.2.1 F.2.2.2.2.2.2.2 H locs kc ks Q (F0 F.2.2.2.1 pc ls st0) := by
  intro T hT X
  rcases hr T hT X with ⟨v, st₀, t9, T', L9, h0, X', hL, e1, e2, ⟨⟨v', n', σ', h', hv, hq, z1, z3⟩, hF⟩, st⟩ | ⟨q, st₀, t9, T', L9, Ex, ce, h0, X', hL, e1, e2, ⟨⟨h', hq, z3⟩, hF⟩, hce, hcv, hcl, st⟩
  · cases hv
    obtain ⟨k1, k2, k3⟩ := vx_keep h0 e1 a4 (fun _ _ z => z) (fun _ z => z) hL hF
    obtain ⟨t2, b1, b2⟩ := kk v n' σ' h' hq T'.heap (locs ++ L9) ls (by rw [e1]; exact z1) (by rw [e1]; exact z3) k3 a5 T' rfl X'
    exact ⟨t2, st t2 b1, b2⟩
  · obtain ⟨k1, k2, k3⟩ := vx_keep h0 e1 a4 (fun _ _ z => z) (fun _ z => z) hL hF
    obtain ⟨pre, x, suf, name, g1, g2, g3, g4, g5, g6, g7⟩ := hx Ex h' hq
    have hw := vx_catch (own := t.1.cls) (name := name) (E := Ex) (ce := ce) (q := q) (pc := pc) (ls := ls) (rest := rest) (locs := locs ++ L9) (H := T'.heap) (cells := kc + mc) (slots := ks + ms) (p := F.1) (l := E.1) (e := F.2.1) (R := gRm t) (s := F.2.2.1) (m := F.2.2.2.1) (args := F.2.2.2.2.1) (below := F.2.2.2.2.2.1) (meth := F.2.2.2.2.2.2.1) (c := F.2.2.2.2.2.2.2) (Q := Q) C.2.2.2.1 pre x suf (C.2.2.2.2.2.2.2.2.2.1.trans g1)
      (fun z hz => (g2 z hz).imp id (fun ⟨y0, nm, y1, y2⟩ => ⟨y0, nm, C.2.2.2.2.1 _ y1, C.2.2.2.2.2.1.2.2.2.2.2.2.2.2.2.2.2.2 _ y2⟩)) g3 g4 (C.2.2.2.2.1 _ g5) (va_Nw.use rfl (C.2.2.2.2.2.1.2.1 _ g6)) (by rw [e1]; exact hce) hcv hcl
      (g7 q T'.heap (locs ++ L9) ls (fun z hz => by cases hz) (by rw [e1]; exact z3) k3 a5)
    obtain ⟨t2, b1, b2⟩ := hw T' rfl X'
    exact ⟨t2, st.trans b1, b2⟩
theorem k_callV {tc : gMt} {own Cl : String} {index np ci a : Nat} {fs As rest : List Value} {QR : gQt} {QX : String → gH → Prop} (pc' : Nat) (C : gCt hh E F t) (hd : decode (gCode t) pc = .ok (.invokevirtual index, 3)) (ho : t.1.cls = own) (lk : gLk own index tc np) (hi : Cond.instanceMethod tc.1 ∈ wsG) (hs : Cond.selects Cl tc.1 tc.1 ∈ wsG) (hci : ∃ (T : u_T) (N : Nat), vwCl[ci]? = some (Cl, T, N)) (hb : gB E ≤ a ∧ a < gB E + n) (hq : h a = gO ci fs) (hn : As.length = np) (ft : gFit tc t kc ks) (hw : (rest.map fun v => v.category).sum ≤ 8) (hp : pc + 3 = pc')
    (hM : gM E tc (.ref a :: As) n σ h QR QX) (hx : ∀ (X : String) (h' : gH), QX X h' → kCat hh t.1.cls pc X (fun hp => ∀ q : Nat, G E F t Q n none h' (kc + gMc tc) (ks + gMs tc) hp L [.ref q]))
    (kk : ∀ (v : Option Value) (n' : Nat) (σ' : Option Nat) (h' : gH), QR v n' σ' h' → G E F t Q n' σ' h' (kc + gMc tc) (ks + gMs tc) pc' L (v.toList ++ rest)) : G E F t Q n σ h kc ks pc L (As.reverse ++ .ref a :: rest) := by
  subst hp
  intro H locs ls a1 a3 a4 a5
  obtain ⟨T9, N9, hci⟩ := hci
  have hrecv := va_recv C.2.2.2.2.2.1.1 a3 hci (show (gws (gB E) n h)[a - gB E]? = some (a, .inr (ci, fs)) by rw [gws_get hb.1 hb.2, hq]; rfl)
  exact k_run (F := F) C a4 a5 (vx_runV (As := As) (rest := rest) (own := own) (C := Cl) ⟨C.1, C.2.1, C.2.2.1, ho ▸ C.2.2.2.1, C.2.2.2.2.1⟩ hM ⟨kLk_B C ho lk ft, C.2.2.2.2.1 _ hi, C.2.2.2.2.1 _ hs⟩ ⟨gW_blind, hrecv, gW_atk C a1 a3 a4⟩ rfl hn a5.1 rfl (lv_room hw) hd ft.2) hx kk
theorem k_callS {tc : gMt} {own : String} {index np : Nat} {As rest : List Value} {QR : gQt} {QX : String → gH → Prop} (pc' : Nat) (C : gCt hh E F t) (hd : decode (gCode t) pc = .ok (.invokestatic index, 3)) (ho : t.1.cls = own) (lk : gLk own index tc np) (hs : Cond.static tc.1 ∈ wsG) (hn : As.length = np) (ft : gFit tc t kc ks) (hw : (rest.map fun v => v.category).sum ≤ 8) (hp : pc + 3 = pc')
    (hM : gM E tc As n σ h QR QX) (hx : ∀ (X : String) (h' : gH), QX X h' → kCat hh t.1.cls pc X (fun hp => ∀ q : Nat, G E F t Q n none h' (kc + gMc tc) (ks + gMs tc) hp L [.ref q]))
    (kk : ∀ (v : Option Value) (n' : Nat) (σ' : Option Nat) (h' : gH), QR v n' σ' h' → G E F t Q n' σ' h' (kc + gMc tc) (ks + gMs tc) pc' L (v.toList ++ rest)) : G E F t Q n σ h kc ks pc L (As.reverse ++ rest) := by
  subst hp
  intro H locs ls a1 a3 a4 a5
  exact k_run (F := F) C a4 a5 (vx_runS (As := As) (rest := rest) (own := own) ⟨C.1, C.2.1, C.2.2.1, ho ▸ C.2.2.2.1, C.2.2.2.2.1⟩ hM ⟨kLk_B C ho lk ft, C.2.2.2.2.1 _ hs⟩ ⟨gW_blind, gW_atk C a1 a3 a4⟩ rfl hn a5.1 rfl (lv_room hw) hd ft.2) hx kk
/-- a call of a static method with handlers that throws nothing -/
theorem g_callSW {tc : gMt} {own : String} {index np : Nat} {As rest : List Value} {QR : gQt} {QX : String → gH → Prop} (pc' : Nat) (C : gC E F t) (hd : decode (gCode t) pc = .ok (.invokestatic index, 3)) (ho : t.1.cls = own) (hl : Cond.methodLink own index tc.1 ∈ wsG) (hini : Cond.initialized tc.1.cls ∈ wsG) (hcd : Cond.codeWith tc.1 (gCode tc) (gMax tc) (gRet tc) hh ∈ wsG) (hcl : tc.1.cls ≠ "java/lang/invoke/MethodHandle" ∧ tc.1.cls ≠ "java/lang/invoke/VarHandle" ∧ (parseMethodDescriptor tc.1.desc).map (fun d => d.parameters.length) = some np) (hs : Cond.static tc.1 ∈ wsG) (hn : As.length = np) (ft : gFit tc t kc ks) (hw : (rest.map fun v => v.category).sum ≤ 8) (hp : pc + 3 = pc')
    (hM : gMH E tc hh As n σ h QR QX) (hx : ∀ (X : String) (h' : gH), QX X h' → gThr E F t n Q X h')
    (kk : ∀ (v : Option Value) (n' : Nat) (σ' : Option Nat) (h' : gH), QR v n' σ' h' → G E F t Q n' σ' h' (kc + gMc tc) (ks + gMs tc) pc' L (v.toList ++ rest)) : G E F t Q n σ h kc ks pc L (As.reverse ++ rest) := by
  subst hp
  intro H locs ls a1 a3 a4 a5
  have cw : vx_CSW (gRm t) F.2.2.1 F.2.2.2.2.1 own index tc.1 (gCode tc) (gMax tc) (gRet tc) hh (.codeWith tc.1 (gCode tc) (gMax tc) (gRet tc) hh :: wsG) (gRm tc) (gMc tc) (gMs tc) np :=
    ⟨⟨rfl, rfl, ft.1.1, ft.1.2, pay_in C.2.2.2.2.1 (wsG_goodC hcd), List.mem_cons_self⟩, C.2.2.2.2.1 _ hcd, C.2.2.2.2.1 _ hini, ⟨hcl.1, hcl.2.1⟩, fun sig h9 => by
      have h2 := hcl.2.2
      rw [h9] at h2
      exact (Option.some.inj h2).symm, C.2.2.2.2.1 _ hl, C.2.2.2.2.1 _ hs⟩
  exact g_run (F := F) C a4 a5 (vx_runSX (As := As) (rest := rest) (own := own) (hh := hh) ⟨C.1, C.2.1, C.2.2.1, ho ▸ C.2.2.2.1, C.2.2.2.2.1⟩ hM cw ⟨gW_blind, gW_at C a1 a3 a4⟩ rfl hn a5.1 rfl (lv_room hw) hd ft.2) ft.2.1 ft.2.2 hx kk
/-- more room is taken -/
theorem g_wid {kc2 ks2 : Nat} (h1 : kc ≤ kc2) (h2 : ks ≤ ks2) (k : G E F t Q n σ h kc2 ks2 pc L st) : G E F t Q n σ h kc ks pc L st := fun H locs ls a1 a3 a4 a5 => W.widen h1 h2 (k H locs ls a1 a3 a4 a5)
/-- the heap's size matters no more -/
theorem g_nos (k : G E F t Q n none h kc ks pc L st) : G E F t Q n σ h kc ks pc L st := fun H locs ls _ a3 a4 a5 => k H locs ls (fun z hz => by cases hz) a3 a4 a5
/-- the script -/
def sX (xs : Nat → Int32) (i : Int) : Int := (xs i.toNat).toInt
theorem sX_r (xs : Nat → Int32) (i : Int) : -2147483648 ≤ sX xs i ∧ sX xs i < 2147483648 := ⟨Int32.le_toInt _, Int32.toInt_lt _⟩
theorem g_xld {b Ls : Nat} {xs : Nat → Int32} {i : Int} (pc' : Nat) (C : gC E F t) (hX : va_X b Ls xs F.2.2.1 F.2.2.1.heap) (hbl : b < F.2.2.1.heap.size) (hbA : ¬ gA E b) (hd : decode (gCode t) pc = .ok (.iaload, 1)) (hi : 0 ≤ i ∧ i < (Ls : Int)) (hL : Ls < 2147483648) (hp : pc + 1 = pc') (k : G E F t Q n σ h kc ks pc' L (.int (gi (sX xs i)) :: st)) : G E F t Q n σ h kc ks pc L (.int (gi i) :: .ref b :: st) := by
  subst hp
  intro H locs ls a1 a3 a4 a5
  refine va_sld C.1 C.2.1 hX hbl hbA a4 (gi_in hi hL) hd ?_
  rw [gi_clamp hi.1 (by omega), gi_asI (xs i.toNat)]
  exact k H locs ls a1 a3 a4 a5
theorem g_xlen {b Ls : Nat} {xs : Nat → Int32} (pc' : Nat) (C : gC E F t) (hX : va_X b Ls xs F.2.2.1 F.2.2.1.heap) (hbl : b < F.2.2.1.heap.size) (hbA : ¬ gA E b) (hd : decode (gCode t) pc = .ok (.arraylength, 1)) (hp : pc + 1 = pc') (k : G E F t Q n σ h kc ks pc' L (.int (gi (Ls : Int)) :: st)) : G E F t Q n σ h kc ks pc L (.ref b :: st) := by
  subst hp
  intro H locs ls a1 a3 a4 a5
  exact va_slen C.1 C.2.1 hX hbl hbA a4 hd (k H locs ls a1 a3 a4 a5)
end GLK
theorem lg_cmp_s (x : Int64) : lg_cmp x x = gi 0 := by
  unfold lg_cmp
  simp
  rfl
