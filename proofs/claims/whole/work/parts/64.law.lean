/-! the law's cases -/
def lwS (E : gEnv) (n : Nat) (h : gH) (x m q : Nat) (T : gTt) (c : Int) (fo : Int → Int64) : Prop := (gB E ≤ x ∧ x + 524 ≤ gB E + n) ∧ (gB E ≤ m ∧ m + 7 ≤ gB E + n) ∧ (gB E ≤ q ∧ q < gB E + n) ∧ x + 524 ≤ m ∧ m + 7 ≤ q ∧ isJ E h x T ∧ isM E h m T c ∧ okA T ∧ h q = gJ E 1 fo
theorem isM.kept {E : gEnv} {h h1 : gH} {m : Nat} {T : gTt} {c : Int} (y : isM E h m T c) (hk : ∀ q : Nat, m ≤ q → q < m + 7 → h1 q = h q) : isM E h1 m T c := by
  obtain ⟨g, hs, f, fp, ⟨x1, x2, x3, ⟨fs, x4⟩, x5, x6, x7, ⟨ft, x8, x8e⟩, x9, ⟨fm, x10⟩, ⟨fo, x11⟩⟩, g6⟩ := y
  exact ⟨g, hs, f, fp, ⟨(hk _ (by omega) (by omega)).trans x1, (hk _ (by omega) (by omega)).trans x2, x3, ⟨fs, (hk _ (by omega) (by omega)).trans x4⟩, (hk _ (by omega) (by omega)).trans x5, x6, x7, ⟨ft, (hk _ (by omega) (by omega)).trans x8, x8e⟩, x9, ⟨fm, (hk _ (by omega) (by omega)).trans x10⟩, ⟨fo, (hk _ (by omega) (by omega)).trans x11⟩⟩, g6⟩
set_option maxRecDepth 100000 in
set_option maxHeartbeats 4000000 in
theorem law_read {E : gEnv} {F : gFr} {Q : State → Prop} {n : Nat} {h : gH} {b Ls kc ks : Nat} {xs : Nat → Int32} {x m q i : Nat} {T : gTt} {c0 : Int} {fo : Int → Int64} (C : gC E F mL_law) (hX : va_X b Ls xs F.2.2.1 F.2.2.1.heap) (hbl : b < F.2.2.1.heap.size) (hbA : ¬ gA E b) (hl : E.1.stackTraces = false) (hLs : Ls ≤ 2560) (hi5 : i + 5 ≤ Ls) (hkc : kc + 5 ≤ 601899) (hks : ks + 30 ≤ 7290406) (I : lwS E n h x m q T c0 fo) (K : ∀ (h9 : gH) (T9 : gTt) (c9 : Int) (fo9 : Int → Int64), lwS E n h9 x m q T9 c9 fo9 → G E F mL_law Q n none h9 (kc + 5) (ks + 30) 1517 [(4, .int (gi (i : Int))), (3, .ref q), (2, .ref m), (1, .ref x), (0, .ref b)] []) : G E F mL_law Q n none h kc ks 140 [(4, .int (gi (i : Int))), (3, .ref q), (2, .ref m), (1, .ref x), (0, .ref b)] [] := by
  obtain ⟨hxb, hmb, hqb, hxm, hmq, hJ, hM, hA, hfo⟩ := I
  have hok := hA.1
  have hI := hA.2.1
  have j1 := hJ.1
  unfold isJo at j1
  refine g_aload_n 141 C dL_law_140 rfl rfl ?_
  refine g_aload_n 142 C dL_law_141 rfl rfl ?_
  refine g_iload 144 C dL_law_142 rfl rfl ?_
  refine g_iconst 145 C dL_law_144 rfl ?_
  refine g_iadd 146 C dL_law_145 rfl ?_
  refine g_xld 147 C hX hbl hbA dL_law_146 (by omega) (by omega) rfl ?_
  refine g_aload_n 148 C dL_law_147 rfl rfl ?_
  refine g_iload 150 C dL_law_148 rfl rfl ?_
  refine g_iconst 151 C dL_law_150 rfl ?_
  refine g_iadd 152 C dL_law_151 rfl ?_
  refine g_xld 153 C hX hbl hbA dL_law_152 (by omega) (by omega) rfl ?_
  refine g_aload_n 154 C dL_law_153 rfl rfl ?_
  refine g_iload 156 C dL_law_154 rfl rfl ?_
  refine g_iconst 157 C dL_law_156 rfl ?_
  refine g_iadd 158 C dL_law_157 rfl ?_
  refine g_xld 159 C hX hbl hbA dL_law_158 (by omega) (by omega) rfl ?_
  refine g_aload_n 160 C dL_law_159 rfl rfl ?_
  refine g_callSW (np := 5) (hh := [(0, 12, 15, 13)]) (tc := mL_read) (As := [.ref x, .int (gi (sX xs ((i : Int) + 1))), .int (gi (sX xs ((i : Int) + 2))), .int (gi (sX xs ((i : Int) + 3))), .ref q]) (rest := []) 163 C dL_law_160 rfl (wsG_of 400 (by decide +kernel) rfl) gii_RL gcd_L_read ⟨by decide, by decide, by decide +kernel⟩ gs_L_read rfl ⟨⟨by decide, by decide⟩, (show kc + 3 ≤ 601899 by omega), (show ks + 18 ≤ 7290406 by omega)⟩ (Nat.le_of_ble_eq_true rfl) rfl (c_L_read x q T (sX xs ((i : Int) + 1)) (sX xs ((i : Int) + 2)) (sX xs ((i : Int) + 3)) fo hl hxb hqb (by omega) hJ hok hfo (sX_r _ _) (sX_r _ _) (sX_r _ _)) g_no (fun v8 n8 σ8 h1 hq8 => ?_)
  obtain ⟨rfl, rfl, rfl, eJ, ⟨fo1, hf1, hf1e⟩, eK⟩ := hq8
  refine g_wid (kc2 := kc + 5) (ks2 := ks + 30) (show kc + 3 ≤ kc + 5 by omega) (show ks + 18 ≤ ks + 30 by omega) ?_
  have hM1 : isM E h1 m T c0 := hM.kept (fun q9 z1 z2 => eK q9 (by omega) (by omega))
  obtain ⟨g1, hs1, f1, fp1, X1, -⟩ := id hM1
  have m1 := X1.1
  unfold isMo at m1
  have hcr : -2147483648 ≤ (oRead T (sX xs ((i : Int) + 1)) (sX xs ((i : Int) + 2)) (sX xs ((i : Int) + 3))).1 ∧ (oRead T (sX xs ((i : Int) + 1)) (sX xs ((i : Int) + 2)) (sX xs ((i : Int) + 3))).1 < 2147483648 := by rcases oRead_c T (sX xs ((i : Int) + 1)) (sX xs ((i : Int) + 2)) (sX xs ((i : Int) + 3)) with e | e <;> rw [e] <;> decide
  refine g_istore 165 [(5, _), (4, _), (3, _), (2, _), (1, _), (0, _)] C dL_law_163 (by decide) rfl rfl ?_
  refine g_aload_n 166 C dL_law_165 rfl rfl ?_
  refine g_aload_n 167 C dL_law_166 rfl rfl ?_
  refine g_iload 169 C dL_law_167 rfl rfl ?_
  refine g_iconst 170 C dL_law_169 rfl ?_
  refine g_iadd 171 C dL_law_170 rfl ?_
  refine g_xld 172 C hX hbl hbA dL_law_171 (by omega) (by omega) rfl ?_
  refine g_aload_n 173 C dL_law_172 rfl rfl ?_
  refine g_iload 175 C dL_law_173 rfl rfl ?_
  refine g_iconst 176 C dL_law_175 rfl ?_
  refine g_iadd 177 C dL_law_176 rfl ?_
  refine g_xld 178 C hX hbl hbA dL_law_177 (by omega) (by omega) rfl ?_
  refine g_aload_n 179 C dL_law_178 rfl rfl ?_
  refine g_iload 181 C dL_law_179 rfl rfl ?_
  refine g_iconst 182 C dL_law_181 rfl ?_
  refine g_iadd 183 C dL_law_182 rfl ?_
  refine g_xld 184 C hX hbl hbA dL_law_183 (by omega) (by omega) rfl ?_
  refine g_V3r 187 (kc + 5) (ks + 30) C dL_law_184 rfl lk_RL_83 gi_X5_read gv_X5_read ⟨_, _, rfl⟩ (by omega) m1 ⟨⟨by decide, by decide⟩, (show kc + 5 + 0 ≤ 601899 by omega), (show ks + 30 + 0 ≤ 7290406 by omega)⟩ (Nat.le_of_ble_eq_true rfl) rfl rfl rfl (c_X5_read m T c0 (sX xs ((i : Int) + 1)) (sX xs ((i : Int) + 2)) (sX xs ((i : Int) + 3)) hmb hM1 hok hI (sX_r _ _) (sX_r _ _) (sX_r _ _)) g_no (fun h2 hq2 => ?_)
  obtain ⟨hM2, k2⟩ := hq2
  obtain ⟨g2, hs2, f2, fp2, X2, g26⟩ := id hM2
  have m2 := X2.1
  unfold isMo at m2
  have hf2 : h2 q = gJ E 1 fo1 := (k2 q (by omega)).trans hf1
  have I2 : lwS E n8 h2 x m q (oRead T (sX xs ((i : Int) + 1)) (sX xs ((i : Int) + 2)) (sX xs ((i : Int) + 3))).2.2 (oRead T (sX xs ((i : Int) + 1)) (sX xs ((i : Int) + 2)) (sX xs ((i : Int) + 3))).1 fo1 := ⟨hxb, hmb, hqb, hxm, hmq, eJ.kept (fun q9 z1 z2 => k2 q9 (by omega)), hM2, okA_read hA, hf2⟩
  refine g_istore 189 [(6, _), (5, _), (4, _), (3, _), (2, _), (1, _), (0, _)] C dL_law_187 (by decide) rfl rfl ?_
  refine g_aload_n 190 C dL_law_189 rfl rfl ?_
  refine g_V0r 193 (kc + 5) (ks + 30) C dL_law_190 rfl lk_RL_84 gi_X5_thrown gv_X5_thrown ⟨_, _, rfl⟩ (by omega) m2 ⟨⟨by decide, by decide⟩, (show kc + 5 + 0 ≤ 601899 by omega), (show ks + 30 + 0 ≤ 7290406 by omega)⟩ (Nat.le_of_ble_eq_true rfl) rfl rfl rfl (c_X5_thrown m g2 hs2 (by omega) X2.1) g_no (fun h3 e3 => ?_)
  subst e3
  rw [g26]
  refine g_iload 195 C dL_law_193 rfl rfl ?_
  refine g_icmp_eq 200 198 C dL_law_195 rfl rfl hcr hcr (fun _ => ?_) (fun z => absurd rfl z)
  refine g_iload 202 C dL_law_200 rfl rfl ?_
  refine g_if_ne 217 205 C dL_law_202 rfl rfl hcr (fun _ => ?_) (fun z0 => ?_)
  · refine g_goto 1517 C dL_law_217 rfl ?_
    refine g_loc [(4, .int (gi (i : Int))), (3, .ref q), (2, .ref m), (1, .ref x), (0, .ref b)] ⟨rfl, rfl, rfl, rfl, rfl, trivial⟩ ?_
    exact K _ _ _ _ I2
  refine g_aload_n 206 C dL_law_205 rfl rfl ?_
  refine g_iconst 207 C dL_law_206 rfl ?_
  refine g_lald 208 C dL_law_207 (by omega) hf2 (by decide) (by decide) rfl ?_
  rw [hf1e z0]
  refine g_iload 210 C dL_law_208 rfl rfl ?_
  refine g_i2l 211 C dL_law_210 rfl ?_
  refine g_lcmp 212 C dL_law_211 rfl ?_
  rw [lg_cmp_s]
  refine g_if_eq 217 215 C dL_law_212 rfl rfl (by decide) (fun _ => ?_) (fun z => absurd rfl z)
  refine g_goto 1517 C dL_law_217 rfl ?_
  refine g_loc [(4, .int (gi (i : Int))), (3, .ref q), (2, .ref m), (1, .ref x), (0, .ref b)] ⟨rfl, rfl, rfl, rfl, rfl, trivial⟩ ?_
  exact K _ _ _ _ I2
set_option maxRecDepth 100000 in
set_option maxHeartbeats 4000000 in
theorem law_write {E : gEnv} {F : gFr} {Q : State → Prop} {n : Nat} {h : gH} {b Ls kc ks : Nat} {xs : Nat → Int32} {x m q i : Nat} {T : gTt} {c0 : Int} {fo : Int → Int64} (C : gC E F mL_law) (hX : va_X b Ls xs F.2.2.1 F.2.2.1.heap) (hbl : b < F.2.2.1.heap.size) (hbA : ¬ gA E b) (hl : E.1.stackTraces = false) (hLs : Ls ≤ 2560) (hi5 : i + 5 ≤ Ls) (hkc : kc + 5 ≤ 601899) (hks : ks + 30 ≤ 7290406) (I : lwS E n h x m q T c0 fo) (K : ∀ (h9 : gH) (T9 : gTt) (c9 : Int) (fo9 : Int → Int64), lwS E n h9 x m q T9 c9 fo9 → G E F mL_law Q n none h9 (kc + 5) (ks + 30) 1517 [(4, .int (gi (i : Int))), (3, .ref q), (2, .ref m), (1, .ref x), (0, .ref b)] []) : G E F mL_law Q n none h kc ks 220 [(4, .int (gi (i : Int))), (3, .ref q), (2, .ref m), (1, .ref x), (0, .ref b)] [] := by
  obtain ⟨hxb, hmb, hqb, hxm, hmq, hJ, hM, hA, hfo⟩ := I
  have hok := hA.1
  have hI := hA.2.1
  have j1 := hJ.1
  unfold isJo at j1
  refine g_aload_n 221 C dL_law_220 rfl rfl ?_
  refine g_aload_n 222 C dL_law_221 rfl rfl ?_
  refine g_iload 224 C dL_law_222 rfl rfl ?_
  refine g_iconst 225 C dL_law_224 rfl ?_
  refine g_iadd 226 C dL_law_225 rfl ?_
  refine g_xld 227 C hX hbl hbA dL_law_226 (by omega) (by omega) rfl ?_
  refine g_aload_n 228 C dL_law_227 rfl rfl ?_
  refine g_iload 230 C dL_law_228 rfl rfl ?_
  refine g_iconst 231 C dL_law_230 rfl ?_
  refine g_iadd 232 C dL_law_231 rfl ?_
  refine g_xld 233 C hX hbl hbA dL_law_232 (by omega) (by omega) rfl ?_
  refine g_aload_n 234 C dL_law_233 rfl rfl ?_
  refine g_iload 236 C dL_law_234 rfl rfl ?_
  refine g_iconst 237 C dL_law_236 rfl ?_
  refine g_iadd 238 C dL_law_237 rfl ?_
  refine g_xld 239 C hX hbl hbA dL_law_238 (by omega) (by omega) rfl ?_
  refine g_aload_n 240 C dL_law_239 rfl rfl ?_
  refine g_iload 242 C dL_law_240 rfl rfl ?_
  refine g_iconst 243 C dL_law_242 rfl ?_
  refine g_iadd 244 C dL_law_243 rfl ?_
  refine g_xld 245 C hX hbl hbA dL_law_244 (by omega) (by omega) rfl ?_
  refine g_aload_n 246 C dL_law_245 rfl rfl ?_
  refine g_callSW (np := 6) (hh := [(0, 14, 17, 13), (0, 14, 21, 19), (0, 14, 25, 21)]) (tc := mL_write) (As := [.ref x, .int (gi (sX xs ((i : Int) + 1))), .int (gi (sX xs ((i : Int) + 2))), .int (gi (sX xs ((i : Int) + 3))), .int (gi (sX xs ((i : Int) + 4))), .ref q]) (rest := []) 249 C dL_law_246 rfl (wsG_of 513 (by decide +kernel) rfl) gii_RL gcd_L_write ⟨by decide, by decide, by decide +kernel⟩ gs_L_write rfl ⟨⟨by decide, by decide⟩, (show kc + 5 ≤ 601899 by omega), (show ks + 30 ≤ 7290406 by omega)⟩ (Nat.le_of_ble_eq_true rfl) rfl (c_L_write x q T (sX xs ((i : Int) + 1)) (sX xs ((i : Int) + 2)) (sX xs ((i : Int) + 3)) (sX xs ((i : Int) + 4)) fo hl hxb hqb (by omega) hJ hok hfo (sX_r _ _) (sX_r _ _) (sX_r _ _) (sX_r _ _)) g_no (fun v8 n8 σ8 h1 hq8 => ?_)
  obtain ⟨rfl, rfl, rfl, eJ, ⟨fo1, hf1, hf1e⟩, eK⟩ := hq8
  refine g_wid (kc2 := kc + 5) (ks2 := ks + 30) (show kc + 5 ≤ kc + 5 by omega) (show ks + 30 ≤ ks + 30 by omega) ?_
  have hM1 : isM E h1 m T c0 := hM.kept (fun q9 z1 z2 => eK q9 (by omega) (by omega))
  obtain ⟨g1, hs1, f1, fp1, X1, -⟩ := id hM1
  have m1 := X1.1
  unfold isMo at m1
  have hcr : -2147483648 ≤ (oWrite T (sX xs ((i : Int) + 1)) (sX xs ((i : Int) + 2)) (sX xs ((i : Int) + 3)) (sX xs ((i : Int) + 4))).1 ∧ (oWrite T (sX xs ((i : Int) + 1)) (sX xs ((i : Int) + 2)) (sX xs ((i : Int) + 3)) (sX xs ((i : Int) + 4))).1 < 2147483648 := by rcases oWrite_c T (sX xs ((i : Int) + 1)) (sX xs ((i : Int) + 2)) (sX xs ((i : Int) + 3)) (sX xs ((i : Int) + 4)) with e | e | e | e <;> rw [e] <;> decide
  refine g_istore 251 [(5, _), (4, _), (3, _), (2, _), (1, _), (0, _)] C dL_law_249 (by decide) rfl rfl ?_
  refine g_aload_n 252 C dL_law_251 rfl rfl ?_
  refine g_aload_n 253 C dL_law_252 rfl rfl ?_
  refine g_iload 255 C dL_law_253 rfl rfl ?_
  refine g_iconst 256 C dL_law_255 rfl ?_
  refine g_iadd 257 C dL_law_256 rfl ?_
  refine g_xld 258 C hX hbl hbA dL_law_257 (by omega) (by omega) rfl ?_
  refine g_aload_n 259 C dL_law_258 rfl rfl ?_
  refine g_iload 261 C dL_law_259 rfl rfl ?_
  refine g_iconst 262 C dL_law_261 rfl ?_
  refine g_iadd 263 C dL_law_262 rfl ?_
  refine g_xld 264 C hX hbl hbA dL_law_263 (by omega) (by omega) rfl ?_
  refine g_aload_n 265 C dL_law_264 rfl rfl ?_
  refine g_iload 267 C dL_law_265 rfl rfl ?_
  refine g_iconst 268 C dL_law_267 rfl ?_
  refine g_iadd 269 C dL_law_268 rfl ?_
  refine g_xld 270 C hX hbl hbA dL_law_269 (by omega) (by omega) rfl ?_
  refine g_aload_n 271 C dL_law_270 rfl rfl ?_
  refine g_iload 273 C dL_law_271 rfl rfl ?_
  refine g_iconst 274 C dL_law_273 rfl ?_
  refine g_iadd 275 C dL_law_274 rfl ?_
  refine g_xld 276 C hX hbl hbA dL_law_275 (by omega) (by omega) rfl ?_
  refine g_V4r 279 (kc + 5) (ks + 30) C dL_law_276 rfl lk_RL_90 gi_X5_write gv_X5_write ⟨_, _, rfl⟩ (by omega) m1 ⟨⟨by decide, by decide⟩, (show kc + 5 + 0 ≤ 601899 by omega), (show ks + 30 + 0 ≤ 7290406 by omega)⟩ (Nat.le_of_ble_eq_true rfl) rfl rfl rfl (c_X5_write m T c0 (sX xs ((i : Int) + 1)) (sX xs ((i : Int) + 2)) (sX xs ((i : Int) + 3)) (sX xs ((i : Int) + 4)) hmb hM1 hok hI (sX_r _ _) (sX_r _ _) (sX_r _ _) (sX_r _ _)) g_no (fun h2 hq2 => ?_)
  obtain ⟨hM2, k2⟩ := hq2
  obtain ⟨g2, hs2, f2, fp2, X2, g26⟩ := id hM2
  have m2 := X2.1
  unfold isMo at m2
  have hf2 : h2 q = gJ E 1 fo1 := (k2 q (by omega)).trans hf1
  have I2 : lwS E n8 h2 x m q (oWrite T (sX xs ((i : Int) + 1)) (sX xs ((i : Int) + 2)) (sX xs ((i : Int) + 3)) (sX xs ((i : Int) + 4))).2.2 (oWrite T (sX xs ((i : Int) + 1)) (sX xs ((i : Int) + 2)) (sX xs ((i : Int) + 3)) (sX xs ((i : Int) + 4))).1 fo1 := ⟨hxb, hmb, hqb, hxm, hmq, eJ.kept (fun q9 z1 z2 => k2 q9 (by omega)), hM2, okA_write hA, hf2⟩
  refine g_istore 281 [(6, _), (5, _), (4, _), (3, _), (2, _), (1, _), (0, _)] C dL_law_279 (by decide) rfl rfl ?_
  refine g_aload_n 282 C dL_law_281 rfl rfl ?_
  refine g_V0r 285 (kc + 5) (ks + 30) C dL_law_282 rfl lk_RL_84 gi_X5_thrown gv_X5_thrown ⟨_, _, rfl⟩ (by omega) m2 ⟨⟨by decide, by decide⟩, (show kc + 5 + 0 ≤ 601899 by omega), (show ks + 30 + 0 ≤ 7290406 by omega)⟩ (Nat.le_of_ble_eq_true rfl) rfl rfl rfl (c_X5_thrown m g2 hs2 (by omega) X2.1) g_no (fun h3 e3 => ?_)
  subst e3
  rw [g26]
  refine g_iload 287 C dL_law_285 rfl rfl ?_
  refine g_icmp_eq 292 290 C dL_law_287 rfl rfl hcr hcr (fun _ => ?_) (fun z => absurd rfl z)
  refine g_iload 294 C dL_law_292 rfl rfl ?_
  refine g_if_ne 309 297 C dL_law_294 rfl rfl hcr (fun _ => ?_) (fun z0 => ?_)
  · refine g_goto 1517 C dL_law_309 rfl ?_
    refine g_loc [(4, .int (gi (i : Int))), (3, .ref q), (2, .ref m), (1, .ref x), (0, .ref b)] ⟨rfl, rfl, rfl, rfl, rfl, trivial⟩ ?_
    exact K _ _ _ _ I2
  refine g_aload_n 298 C dL_law_297 rfl rfl ?_
  refine g_iconst 299 C dL_law_298 rfl ?_
  refine g_lald 300 C dL_law_299 (by omega) hf2 (by decide) (by decide) rfl ?_
  rw [hf1e z0]
  refine g_iload 302 C dL_law_300 rfl rfl ?_
  refine g_i2l 303 C dL_law_302 rfl ?_
  refine g_lcmp 304 C dL_law_303 rfl ?_
  rw [lg_cmp_s]
  refine g_if_eq 309 307 C dL_law_304 rfl rfl (by decide) (fun _ => ?_) (fun z => absurd rfl z)
  refine g_goto 1517 C dL_law_309 rfl ?_
  refine g_loc [(4, .int (gi (i : Int))), (3, .ref q), (2, .ref m), (1, .ref x), (0, .ref b)] ⟨rfl, rfl, rfl, rfl, rfl, trivial⟩ ?_
  exact K _ _ _ _ I2
set_option maxRecDepth 100000 in
set_option maxHeartbeats 4000000 in
theorem law_pull {E : gEnv} {F : gFr} {Q : State → Prop} {n : Nat} {h : gH} {b Ls kc ks : Nat} {xs : Nat → Int32} {x m q i : Nat} {T : gTt} {c0 : Int} {fo : Int → Int64} (C : gC E F mL_law) (hX : va_X b Ls xs F.2.2.1 F.2.2.1.heap) (hbl : b < F.2.2.1.heap.size) (hbA : ¬ gA E b) (hl : E.1.stackTraces = false) (hLs : Ls ≤ 2560) (hi5 : i + 5 ≤ Ls) (hkc : kc + 5 ≤ 601899) (hks : ks + 30 ≤ 7290406) (I : lwS E n h x m q T c0 fo) (K : ∀ (h9 : gH) (T9 : gTt) (c9 : Int) (fo9 : Int → Int64), lwS E n h9 x m q T9 c9 fo9 → G E F mL_law Q n none h9 (kc + 5) (ks + 30) 1517 [(4, .int (gi (i : Int))), (3, .ref q), (2, .ref m), (1, .ref x), (0, .ref b)] []) : G E F mL_law Q n none h kc ks 312 [(4, .int (gi (i : Int))), (3, .ref q), (2, .ref m), (1, .ref x), (0, .ref b)] [] := by
  obtain ⟨hxb, hmb, hqb, hxm, hmq, hJ, hM, hA, hfo⟩ := I
  have hok := hA.1
  have hI := hA.2.1
  have j1 := hJ.1
  unfold isJo at j1
  refine g_aload_n 313 C dL_law_312 rfl rfl ?_
  refine g_aload_n 314 C dL_law_313 rfl rfl ?_
  refine g_iload 316 C dL_law_314 rfl rfl ?_
  refine g_iconst 317 C dL_law_316 rfl ?_
  refine g_iadd 318 C dL_law_317 rfl ?_
  refine g_xld 319 C hX hbl hbA dL_law_318 (by omega) (by omega) rfl ?_
  refine g_aload_n 320 C dL_law_319 rfl rfl ?_
  refine g_iload 322 C dL_law_320 rfl rfl ?_
  refine g_iconst 323 C dL_law_322 rfl ?_
  refine g_iadd 324 C dL_law_323 rfl ?_
  refine g_xld 325 C hX hbl hbA dL_law_324 (by omega) (by omega) rfl ?_
  refine g_aload_n 326 C dL_law_325 rfl rfl ?_
  refine g_iload 328 C dL_law_326 rfl rfl ?_
  refine g_iconst 329 C dL_law_328 rfl ?_
  refine g_iadd 330 C dL_law_329 rfl ?_
  refine g_xld 331 C hX hbl hbA dL_law_330 (by omega) (by omega) rfl ?_
  refine g_aload_n 332 C dL_law_331 rfl rfl ?_
  refine g_callSW (np := 5) (hh := [(0, 12, 15, 13), (0, 12, 19, 19), (0, 12, 23, 21)]) (tc := mL_pull) (As := [.ref x, .int (gi (sX xs ((i : Int) + 1))), .int (gi (sX xs ((i : Int) + 2))), .int (gi (sX xs ((i : Int) + 3))), .ref q]) (rest := []) 335 C dL_law_332 rfl (wsG_of 583 (by decide +kernel) rfl) gii_RL gcd_L_pull ⟨by decide, by decide, by decide +kernel⟩ gs_L_pull rfl ⟨⟨by decide, by decide⟩, (show kc + 5 ≤ 601899 by omega), (show ks + 30 ≤ 7290406 by omega)⟩ (Nat.le_of_ble_eq_true rfl) rfl (c_L_pull x q T (sX xs ((i : Int) + 1)) (sX xs ((i : Int) + 2)) (sX xs ((i : Int) + 3)) fo hl hxb hqb (by omega) hJ hok hfo (sX_r _ _) (sX_r _ _) (sX_r _ _)) g_no (fun v8 n8 σ8 h1 hq8 => ?_)
  obtain ⟨rfl, rfl, rfl, eJ, ⟨fo1, hf1, hf1e⟩, eK⟩ := hq8
  refine g_wid (kc2 := kc + 5) (ks2 := ks + 30) (show kc + 5 ≤ kc + 5 by omega) (show ks + 30 ≤ ks + 30 by omega) ?_
  have hM1 : isM E h1 m T c0 := hM.kept (fun q9 z1 z2 => eK q9 (by omega) (by omega))
  obtain ⟨g1, hs1, f1, fp1, X1, -⟩ := id hM1
  have m1 := X1.1
  unfold isMo at m1
  have hcr : -2147483648 ≤ (oPull T (sX xs ((i : Int) + 1)) (sX xs ((i : Int) + 2)) (sX xs ((i : Int) + 3))).1 ∧ (oPull T (sX xs ((i : Int) + 1)) (sX xs ((i : Int) + 2)) (sX xs ((i : Int) + 3))).1 < 2147483648 := by rcases oPull_c T (sX xs ((i : Int) + 1)) (sX xs ((i : Int) + 2)) (sX xs ((i : Int) + 3)) with e | e | e | e <;> rw [e] <;> decide
  refine g_istore 337 [(5, _), (4, _), (3, _), (2, _), (1, _), (0, _)] C dL_law_335 (by decide) rfl rfl ?_
  refine g_aload_n 338 C dL_law_337 rfl rfl ?_
  refine g_aload_n 339 C dL_law_338 rfl rfl ?_
  refine g_iload 341 C dL_law_339 rfl rfl ?_
  refine g_iconst 342 C dL_law_341 rfl ?_
  refine g_iadd 343 C dL_law_342 rfl ?_
  refine g_xld 344 C hX hbl hbA dL_law_343 (by omega) (by omega) rfl ?_
  refine g_aload_n 345 C dL_law_344 rfl rfl ?_
  refine g_iload 347 C dL_law_345 rfl rfl ?_
  refine g_iconst 348 C dL_law_347 rfl ?_
  refine g_iadd 349 C dL_law_348 rfl ?_
  refine g_xld 350 C hX hbl hbA dL_law_349 (by omega) (by omega) rfl ?_
  refine g_aload_n 351 C dL_law_350 rfl rfl ?_
  refine g_iload 353 C dL_law_351 rfl rfl ?_
  refine g_iconst 354 C dL_law_353 rfl ?_
  refine g_iadd 355 C dL_law_354 rfl ?_
  refine g_xld 356 C hX hbl hbA dL_law_355 (by omega) (by omega) rfl ?_
  refine g_V3r 359 (kc + 5) (ks + 30) C dL_law_356 rfl lk_RL_93 gi_X5_pull gv_X5_pull ⟨_, _, rfl⟩ (by omega) m1 ⟨⟨by decide, by decide⟩, (show kc + 5 + 0 ≤ 601899 by omega), (show ks + 30 + 0 ≤ 7290406 by omega)⟩ (Nat.le_of_ble_eq_true rfl) rfl rfl rfl (c_X5_pull m T c0 (sX xs ((i : Int) + 1)) (sX xs ((i : Int) + 2)) (sX xs ((i : Int) + 3)) hmb hM1 hok hI (sX_r _ _) (sX_r _ _) (sX_r _ _)) g_no (fun h2 hq2 => ?_)
  obtain ⟨hM2, k2⟩ := hq2
  obtain ⟨g2, hs2, f2, fp2, X2, g26⟩ := id hM2
  have m2 := X2.1
  unfold isMo at m2
  have hf2 : h2 q = gJ E 1 fo1 := (k2 q (by omega)).trans hf1
  have I2 : lwS E n8 h2 x m q (oPull T (sX xs ((i : Int) + 1)) (sX xs ((i : Int) + 2)) (sX xs ((i : Int) + 3))).2.2 (oPull T (sX xs ((i : Int) + 1)) (sX xs ((i : Int) + 2)) (sX xs ((i : Int) + 3))).1 fo1 := ⟨hxb, hmb, hqb, hxm, hmq, eJ.kept (fun q9 z1 z2 => k2 q9 (by omega)), hM2, okA_pull hA, hf2⟩
  refine g_istore 361 [(6, _), (5, _), (4, _), (3, _), (2, _), (1, _), (0, _)] C dL_law_359 (by decide) rfl rfl ?_
  refine g_aload_n 362 C dL_law_361 rfl rfl ?_
  refine g_V0r 365 (kc + 5) (ks + 30) C dL_law_362 rfl lk_RL_84 gi_X5_thrown gv_X5_thrown ⟨_, _, rfl⟩ (by omega) m2 ⟨⟨by decide, by decide⟩, (show kc + 5 + 0 ≤ 601899 by omega), (show ks + 30 + 0 ≤ 7290406 by omega)⟩ (Nat.le_of_ble_eq_true rfl) rfl rfl rfl (c_X5_thrown m g2 hs2 (by omega) X2.1) g_no (fun h3 e3 => ?_)
  subst e3
  rw [g26]
  refine g_iload 367 C dL_law_365 rfl rfl ?_
  refine g_icmp_eq 372 370 C dL_law_367 rfl rfl hcr hcr (fun _ => ?_) (fun z => absurd rfl z)
  refine g_iload 374 C dL_law_372 rfl rfl ?_
  refine g_if_ne 389 377 C dL_law_374 rfl rfl hcr (fun _ => ?_) (fun z0 => ?_)
  · refine g_goto 1517 C dL_law_389 rfl ?_
    refine g_loc [(4, .int (gi (i : Int))), (3, .ref q), (2, .ref m), (1, .ref x), (0, .ref b)] ⟨rfl, rfl, rfl, rfl, rfl, trivial⟩ ?_
    exact K _ _ _ _ I2
  refine g_aload_n 378 C dL_law_377 rfl rfl ?_
  refine g_iconst 379 C dL_law_378 rfl ?_
  refine g_lald 380 C dL_law_379 (by omega) hf2 (by decide) (by decide) rfl ?_
  rw [hf1e z0]
  refine g_iload 382 C dL_law_380 rfl rfl ?_
  refine g_i2l 383 C dL_law_382 rfl ?_
  refine g_lcmp 384 C dL_law_383 rfl ?_
  rw [lg_cmp_s]
  refine g_if_eq 389 387 C dL_law_384 rfl rfl (by decide) (fun _ => ?_) (fun z => absurd rfl z)
  refine g_goto 1517 C dL_law_389 rfl ?_
  refine g_loc [(4, .int (gi (i : Int))), (3, .ref q), (2, .ref m), (1, .ref x), (0, .ref b)] ⟨rfl, rfl, rfl, rfl, rfl, trivial⟩ ?_
  exact K _ _ _ _ I2
set_option maxRecDepth 100000 in
set_option maxHeartbeats 4000000 in
theorem law_join {E : gEnv} {F : gFr} {Q : State → Prop} {n : Nat} {h : gH} {b Ls kc ks : Nat} {xs : Nat → Int32} {x m q i : Nat} {T : gTt} {c0 : Int} {fo : Int → Int64} (C : gC E F mL_law) (hX : va_X b Ls xs F.2.2.1 F.2.2.1.heap) (hbl : b < F.2.2.1.heap.size) (hbA : ¬ gA E b) (hl : E.1.stackTraces = false) (hLs : Ls ≤ 2560) (hi5 : i + 5 ≤ Ls) (hkc : kc + 5 ≤ 601899) (hks : ks + 30 ≤ 7290406) (I : lwS E n h x m q T c0 fo) (K : ∀ (h9 : gH) (T9 : gTt) (c9 : Int) (fo9 : Int → Int64), lwS E n h9 x m q T9 c9 fo9 → G E F mL_law Q n none h9 (kc + 5) (ks + 30) 1517 [(4, .int (gi (i : Int))), (3, .ref q), (2, .ref m), (1, .ref x), (0, .ref b)] []) : G E F mL_law Q n none h kc ks 392 [(4, .int (gi (i : Int))), (3, .ref q), (2, .ref m), (1, .ref x), (0, .ref b)] [] := by
  obtain ⟨hxb, hmb, hqb, hxm, hmq, hJ, hM, hA, hfo⟩ := I
  have hok := hA.1
  have hI := hA.2.1
  have j1 := hJ.1
  unfold isJo at j1
  refine g_aload_n 393 C dL_law_392 rfl rfl ?_
  refine g_aload_n 394 C dL_law_393 rfl rfl ?_
  refine g_iload 396 C dL_law_394 rfl rfl ?_
  refine g_iconst 397 C dL_law_396 rfl ?_
  refine g_iadd 398 C dL_law_397 rfl ?_
  refine g_xld 399 C hX hbl hbA dL_law_398 (by omega) (by omega) rfl ?_
  refine g_aload_n 400 C dL_law_399 rfl rfl ?_
  refine g_iload 402 C dL_law_400 rfl rfl ?_
  refine g_iconst 403 C dL_law_402 rfl ?_
  refine g_iadd 404 C dL_law_403 rfl ?_
  refine g_xld 405 C hX hbl hbA dL_law_404 (by omega) (by omega) rfl ?_
  refine g_aload_n 406 C dL_law_405 rfl rfl ?_
  refine g_iload 408 C dL_law_406 rfl rfl ?_
  refine g_iconst 409 C dL_law_408 rfl ?_
  refine g_iadd 410 C dL_law_409 rfl ?_
  refine g_xld 411 C hX hbl hbA dL_law_410 (by omega) (by omega) rfl ?_
  refine g_aload_n 412 C dL_law_411 rfl rfl ?_
  refine g_iload 414 C dL_law_412 rfl rfl ?_
  refine g_iconst 415 C dL_law_414 rfl ?_
  refine g_iadd 416 C dL_law_415 rfl ?_
  refine g_xld 417 C hX hbl hbA dL_law_416 (by omega) (by omega) rfl ?_
  refine g_aload_n 418 C dL_law_417 rfl rfl ?_
  refine g_callSW (np := 6) (hh := [(0, 14, 17, 13), (0, 14, 21, 19), (0, 14, 25, 21)]) (tc := mL_join) (As := [.ref x, .int (gi (sX xs ((i : Int) + 1))), .int (gi (sX xs ((i : Int) + 2))), .int (gi (sX xs ((i : Int) + 3))), .int (gi (sX xs ((i : Int) + 4))), .ref q]) (rest := []) 421 C dL_law_418 rfl (wsG_of 611 (by decide +kernel) rfl) gii_RL gcd_L_join ⟨by decide, by decide, by decide +kernel⟩ gs_L_join rfl ⟨⟨by decide, by decide⟩, (show kc + 5 ≤ 601899 by omega), (show ks + 30 ≤ 7290406 by omega)⟩ (Nat.le_of_ble_eq_true rfl) rfl (c_L_join x q T (sX xs ((i : Int) + 1)) (sX xs ((i : Int) + 2)) (sX xs ((i : Int) + 3)) (sX xs ((i : Int) + 4)) fo hl hxb hqb (by omega) hJ hok hfo (sX_r _ _) (sX_r _ _) (sX_r _ _) (sX_r _ _)) g_no (fun v8 n8 σ8 h1 hq8 => ?_)
  obtain ⟨rfl, rfl, rfl, eJ, ⟨fo1, hf1, hf1e⟩, eK⟩ := hq8
  refine g_wid (kc2 := kc + 5) (ks2 := ks + 30) (show kc + 5 ≤ kc + 5 by omega) (show ks + 30 ≤ ks + 30 by omega) ?_
  have hM1 : isM E h1 m T c0 := hM.kept (fun q9 z1 z2 => eK q9 (by omega) (by omega))
  obtain ⟨g1, hs1, f1, fp1, X1, -⟩ := id hM1
  have m1 := X1.1
  unfold isMo at m1
  have hcr : -2147483648 ≤ (oJoin T (sX xs ((i : Int) + 1)) (sX xs ((i : Int) + 2)) (sX xs ((i : Int) + 3)) (sX xs ((i : Int) + 4))).1 ∧ (oJoin T (sX xs ((i : Int) + 1)) (sX xs ((i : Int) + 2)) (sX xs ((i : Int) + 3)) (sX xs ((i : Int) + 4))).1 < 2147483648 := by rcases oJoin_c T (sX xs ((i : Int) + 1)) (sX xs ((i : Int) + 2)) (sX xs ((i : Int) + 3)) (sX xs ((i : Int) + 4)) with e | e | e | e <;> rw [e] <;> decide
  refine g_istore 423 [(5, _), (4, _), (3, _), (2, _), (1, _), (0, _)] C dL_law_421 (by decide) rfl rfl ?_
  refine g_aload_n 424 C dL_law_423 rfl rfl ?_
  refine g_aload_n 425 C dL_law_424 rfl rfl ?_
  refine g_iload 427 C dL_law_425 rfl rfl ?_
  refine g_iconst 428 C dL_law_427 rfl ?_
  refine g_iadd 429 C dL_law_428 rfl ?_
  refine g_xld 430 C hX hbl hbA dL_law_429 (by omega) (by omega) rfl ?_
  refine g_aload_n 431 C dL_law_430 rfl rfl ?_
  refine g_iload 433 C dL_law_431 rfl rfl ?_
  refine g_iconst 434 C dL_law_433 rfl ?_
  refine g_iadd 435 C dL_law_434 rfl ?_
  refine g_xld 436 C hX hbl hbA dL_law_435 (by omega) (by omega) rfl ?_
  refine g_aload_n 437 C dL_law_436 rfl rfl ?_
  refine g_iload 439 C dL_law_437 rfl rfl ?_
  refine g_iconst 440 C dL_law_439 rfl ?_
  refine g_iadd 441 C dL_law_440 rfl ?_
  refine g_xld 442 C hX hbl hbA dL_law_441 (by omega) (by omega) rfl ?_
  refine g_aload_n 443 C dL_law_442 rfl rfl ?_
  refine g_iload 445 C dL_law_443 rfl rfl ?_
  refine g_iconst 446 C dL_law_445 rfl ?_
  refine g_iadd 447 C dL_law_446 rfl ?_
  refine g_xld 448 C hX hbl hbA dL_law_447 (by omega) (by omega) rfl ?_
  refine g_V4r 451 (kc + 5) (ks + 30) C dL_law_448 rfl lk_RL_96 gi_X5_join gv_X5_join ⟨_, _, rfl⟩ (by omega) m1 ⟨⟨by decide, by decide⟩, (show kc + 5 + 0 ≤ 601899 by omega), (show ks + 30 + 0 ≤ 7290406 by omega)⟩ (Nat.le_of_ble_eq_true rfl) rfl rfl rfl (c_X5_join m T c0 (sX xs ((i : Int) + 1)) (sX xs ((i : Int) + 2)) (sX xs ((i : Int) + 3)) (sX xs ((i : Int) + 4)) hmb hM1 hok hI (sX_r _ _) (sX_r _ _) (sX_r _ _) (sX_r _ _)) g_no (fun h2 hq2 => ?_)
  obtain ⟨hM2, k2⟩ := hq2
  obtain ⟨g2, hs2, f2, fp2, X2, g26⟩ := id hM2
  have m2 := X2.1
  unfold isMo at m2
  have hf2 : h2 q = gJ E 1 fo1 := (k2 q (by omega)).trans hf1
  have I2 : lwS E n8 h2 x m q (oJoin T (sX xs ((i : Int) + 1)) (sX xs ((i : Int) + 2)) (sX xs ((i : Int) + 3)) (sX xs ((i : Int) + 4))).2.2 (oJoin T (sX xs ((i : Int) + 1)) (sX xs ((i : Int) + 2)) (sX xs ((i : Int) + 3)) (sX xs ((i : Int) + 4))).1 fo1 := ⟨hxb, hmb, hqb, hxm, hmq, eJ.kept (fun q9 z1 z2 => k2 q9 (by omega)), hM2, okA_join hA, hf2⟩
  refine g_istore 453 [(6, _), (5, _), (4, _), (3, _), (2, _), (1, _), (0, _)] C dL_law_451 (by decide) rfl rfl ?_
  refine g_aload_n 454 C dL_law_453 rfl rfl ?_
  refine g_V0r 457 (kc + 5) (ks + 30) C dL_law_454 rfl lk_RL_84 gi_X5_thrown gv_X5_thrown ⟨_, _, rfl⟩ (by omega) m2 ⟨⟨by decide, by decide⟩, (show kc + 5 + 0 ≤ 601899 by omega), (show ks + 30 + 0 ≤ 7290406 by omega)⟩ (Nat.le_of_ble_eq_true rfl) rfl rfl rfl (c_X5_thrown m g2 hs2 (by omega) X2.1) g_no (fun h3 e3 => ?_)
  subst e3
  rw [g26]
  refine g_iload 459 C dL_law_457 rfl rfl ?_
  refine g_icmp_eq 464 462 C dL_law_459 rfl rfl hcr hcr (fun _ => ?_) (fun z => absurd rfl z)
  refine g_iload 466 C dL_law_464 rfl rfl ?_
  refine g_if_ne 481 469 C dL_law_466 rfl rfl hcr (fun _ => ?_) (fun z0 => ?_)
  · refine g_goto 1517 C dL_law_481 rfl ?_
    refine g_loc [(4, .int (gi (i : Int))), (3, .ref q), (2, .ref m), (1, .ref x), (0, .ref b)] ⟨rfl, rfl, rfl, rfl, rfl, trivial⟩ ?_
    exact K _ _ _ _ I2
  refine g_aload_n 470 C dL_law_469 rfl rfl ?_
  refine g_iconst 471 C dL_law_470 rfl ?_
  refine g_lald 472 C dL_law_471 (by omega) hf2 (by decide) (by decide) rfl ?_
  rw [hf1e z0]
  refine g_iload 474 C dL_law_472 rfl rfl ?_
  refine g_i2l 475 C dL_law_474 rfl ?_
  refine g_lcmp 476 C dL_law_475 rfl ?_
  rw [lg_cmp_s]
  refine g_if_eq 481 479 C dL_law_476 rfl rfl (by decide) (fun _ => ?_) (fun z => absurd rfl z)
  refine g_goto 1517 C dL_law_481 rfl ?_
  refine g_loc [(4, .int (gi (i : Int))), (3, .ref q), (2, .ref m), (1, .ref x), (0, .ref b)] ⟨rfl, rfl, rfl, rfl, rfl, trivial⟩ ?_
  exact K _ _ _ _ I2
set_option maxRecDepth 100000 in
set_option maxHeartbeats 4000000 in
theorem law_lose {E : gEnv} {F : gFr} {Q : State → Prop} {n : Nat} {h : gH} {b Ls kc ks : Nat} {xs : Nat → Int32} {x m q i : Nat} {T : gTt} {c0 : Int} {fo : Int → Int64} (C : gC E F mL_law) (hX : va_X b Ls xs F.2.2.1 F.2.2.1.heap) (hbl : b < F.2.2.1.heap.size) (hbA : ¬ gA E b) (hl : E.1.stackTraces = false) (hLs : Ls ≤ 2560) (hi5 : i + 5 ≤ Ls) (hkc : kc + 5 ≤ 601899) (hks : ks + 30 ≤ 7290406) (I : lwS E n h x m q T c0 fo) (K : ∀ (h9 : gH) (T9 : gTt) (c9 : Int) (fo9 : Int → Int64), lwS E n h9 x m q T9 c9 fo9 → G E F mL_law Q n none h9 (kc + 5) (ks + 30) 1517 [(4, .int (gi (i : Int))), (3, .ref q), (2, .ref m), (1, .ref x), (0, .ref b)] []) : G E F mL_law Q n none h kc ks 484 [(4, .int (gi (i : Int))), (3, .ref q), (2, .ref m), (1, .ref x), (0, .ref b)] [] := by
  obtain ⟨hxb, hmb, hqb, hxm, hmq, hJ, hM, hA, hfo⟩ := I
  have hok := hA.1
  have hI := hA.2.1
  have j1 := hJ.1
  unfold isJo at j1
  refine g_aload_n 485 C dL_law_484 rfl rfl ?_
  refine g_aload_n 486 C dL_law_485 rfl rfl ?_
  refine g_iload 488 C dL_law_486 rfl rfl ?_
  refine g_iconst 489 C dL_law_488 rfl ?_
  refine g_iadd 490 C dL_law_489 rfl ?_
  refine g_xld 491 C hX hbl hbA dL_law_490 (by omega) (by omega) rfl ?_
  refine g_aload_n 492 C dL_law_491 rfl rfl ?_
  refine g_iload 494 C dL_law_492 rfl rfl ?_
  refine g_iconst 495 C dL_law_494 rfl ?_
  refine g_iadd 496 C dL_law_495 rfl ?_
  refine g_xld 497 C hX hbl hbA dL_law_496 (by omega) (by omega) rfl ?_
  refine g_aload_n 498 C dL_law_497 rfl rfl ?_
  refine g_callSW (np := 4) (hh := [(0, 10, 13, 13)]) (tc := mL_lose) (As := [.ref x, .int (gi (sX xs ((i : Int) + 1))), .int (gi (sX xs ((i : Int) + 2))), .ref q]) (rest := []) 501 C dL_law_498 rfl (wsG_of 627 (by decide +kernel) rfl) gii_RL gcd_L_lose ⟨by decide, by decide, by decide +kernel⟩ gs_L_lose rfl ⟨⟨by decide, by decide⟩, (show kc + 2 ≤ 601899 by omega), (show ks + 12 ≤ 7290406 by omega)⟩ (Nat.le_of_ble_eq_true rfl) rfl (c_L_lose x q T (sX xs ((i : Int) + 1)) (sX xs ((i : Int) + 2)) fo hl hxb hqb (by omega) hJ hok hfo (sX_r _ _) (sX_r _ _)) g_no (fun v8 n8 σ8 h1 hq8 => ?_)
  obtain ⟨rfl, rfl, rfl, eJ, ⟨fo1, hf1, hf1e⟩, eK⟩ := hq8
  refine g_wid (kc2 := kc + 5) (ks2 := ks + 30) (show kc + 2 ≤ kc + 5 by omega) (show ks + 12 ≤ ks + 30 by omega) ?_
  have hM1 : isM E h1 m T c0 := hM.kept (fun q9 z1 z2 => eK q9 (by omega) (by omega))
  obtain ⟨g1, hs1, f1, fp1, X1, -⟩ := id hM1
  have m1 := X1.1
  unfold isMo at m1
  have hcr : -2147483648 ≤ (oLose T (sX xs ((i : Int) + 1)) (sX xs ((i : Int) + 2))).1 ∧ (oLose T (sX xs ((i : Int) + 1)) (sX xs ((i : Int) + 2))).1 < 2147483648 := by rcases oLose_c T (sX xs ((i : Int) + 1)) (sX xs ((i : Int) + 2)) with e | e <;> rw [e] <;> decide
  refine g_istore 503 [(5, _), (4, _), (3, _), (2, _), (1, _), (0, _)] C dL_law_501 (by decide) rfl rfl ?_
  refine g_aload_n 504 C dL_law_503 rfl rfl ?_
  refine g_aload_n 505 C dL_law_504 rfl rfl ?_
  refine g_iload 507 C dL_law_505 rfl rfl ?_
  refine g_iconst 508 C dL_law_507 rfl ?_
  refine g_iadd 509 C dL_law_508 rfl ?_
  refine g_xld 510 C hX hbl hbA dL_law_509 (by omega) (by omega) rfl ?_
  refine g_aload_n 511 C dL_law_510 rfl rfl ?_
  refine g_iload 513 C dL_law_511 rfl rfl ?_
  refine g_iconst 514 C dL_law_513 rfl ?_
  refine g_iadd 515 C dL_law_514 rfl ?_
  refine g_xld 516 C hX hbl hbA dL_law_515 (by omega) (by omega) rfl ?_
  refine g_V2r 519 (kc + 5) (ks + 30) C dL_law_516 rfl lk_RL_100 gi_X5_lose gv_X5_lose ⟨_, _, rfl⟩ (by omega) m1 ⟨⟨by decide, by decide⟩, (show kc + 5 + 0 ≤ 601899 by omega), (show ks + 30 + 0 ≤ 7290406 by omega)⟩ (Nat.le_of_ble_eq_true rfl) rfl rfl rfl (c_X5_lose m T c0 (sX xs ((i : Int) + 1)) (sX xs ((i : Int) + 2)) hmb hM1 hok hI (sX_r _ _) (sX_r _ _)) g_no (fun h2 hq2 => ?_)
  obtain ⟨hM2, k2⟩ := hq2
  obtain ⟨g2, hs2, f2, fp2, X2, g26⟩ := id hM2
  have m2 := X2.1
  unfold isMo at m2
  have hf2 : h2 q = gJ E 1 fo1 := (k2 q (by omega)).trans hf1
  have I2 : lwS E n8 h2 x m q (oLose T (sX xs ((i : Int) + 1)) (sX xs ((i : Int) + 2))).2.2 (oLose T (sX xs ((i : Int) + 1)) (sX xs ((i : Int) + 2))).1 fo1 := ⟨hxb, hmb, hqb, hxm, hmq, eJ.kept (fun q9 z1 z2 => k2 q9 (by omega)), hM2, okA_lose hA, hf2⟩
  refine g_istore 521 [(6, _), (5, _), (4, _), (3, _), (2, _), (1, _), (0, _)] C dL_law_519 (by decide) rfl rfl ?_
  refine g_aload_n 522 C dL_law_521 rfl rfl ?_
  refine g_V0r 525 (kc + 5) (ks + 30) C dL_law_522 rfl lk_RL_84 gi_X5_thrown gv_X5_thrown ⟨_, _, rfl⟩ (by omega) m2 ⟨⟨by decide, by decide⟩, (show kc + 5 + 0 ≤ 601899 by omega), (show ks + 30 + 0 ≤ 7290406 by omega)⟩ (Nat.le_of_ble_eq_true rfl) rfl rfl rfl (c_X5_thrown m g2 hs2 (by omega) X2.1) g_no (fun h3 e3 => ?_)
  subst e3
  rw [g26]
  refine g_iload 527 C dL_law_525 rfl rfl ?_
  refine g_icmp_eq 532 530 C dL_law_527 rfl rfl hcr hcr (fun _ => ?_) (fun z => absurd rfl z)
  refine g_iload 534 C dL_law_532 rfl rfl ?_
  refine g_if_ne 549 537 C dL_law_534 rfl rfl hcr (fun _ => ?_) (fun z0 => ?_)
  · refine g_goto 1517 C dL_law_549 rfl ?_
    refine g_loc [(4, .int (gi (i : Int))), (3, .ref q), (2, .ref m), (1, .ref x), (0, .ref b)] ⟨rfl, rfl, rfl, rfl, rfl, trivial⟩ ?_
    exact K _ _ _ _ I2
  refine g_aload_n 538 C dL_law_537 rfl rfl ?_
  refine g_iconst 539 C dL_law_538 rfl ?_
  refine g_lald 540 C dL_law_539 (by omega) hf2 (by decide) (by decide) rfl ?_
  rw [hf1e z0]
  refine g_iload 542 C dL_law_540 rfl rfl ?_
  refine g_i2l 543 C dL_law_542 rfl ?_
  refine g_lcmp 544 C dL_law_543 rfl ?_
  rw [lg_cmp_s]
  refine g_if_eq 549 547 C dL_law_544 rfl rfl (by decide) (fun _ => ?_) (fun z => absurd rfl z)
  refine g_goto 1517 C dL_law_549 rfl ?_
  refine g_loc [(4, .int (gi (i : Int))), (3, .ref q), (2, .ref m), (1, .ref x), (0, .ref b)] ⟨rfl, rfl, rfl, rfl, rfl, trivial⟩ ?_
  exact K _ _ _ _ I2
set_option maxRecDepth 100000 in
set_option maxHeartbeats 4000000 in
theorem law_forget {E : gEnv} {F : gFr} {Q : State → Prop} {n : Nat} {h : gH} {b Ls kc ks : Nat} {xs : Nat → Int32} {x m q i : Nat} {T : gTt} {c0 : Int} {fo : Int → Int64} (C : gC E F mL_law) (hX : va_X b Ls xs F.2.2.1 F.2.2.1.heap) (hbl : b < F.2.2.1.heap.size) (hbA : ¬ gA E b) (hl : E.1.stackTraces = false) (hLs : Ls ≤ 2560) (hi5 : i + 5 ≤ Ls) (hkc : kc + 5 ≤ 601899) (hks : ks + 30 ≤ 7290406) (I : lwS E n h x m q T c0 fo) (K : ∀ (h9 : gH) (T9 : gTt) (c9 : Int) (fo9 : Int → Int64), lwS E n h9 x m q T9 c9 fo9 → G E F mL_law Q n none h9 (kc + 5) (ks + 30) 1517 [(4, .int (gi (i : Int))), (3, .ref q), (2, .ref m), (1, .ref x), (0, .ref b)] []) : G E F mL_law Q n none h kc ks 552 [(4, .int (gi (i : Int))), (3, .ref q), (2, .ref m), (1, .ref x), (0, .ref b)] [] := by
  obtain ⟨hxb, hmb, hqb, hxm, hmq, hJ, hM, hA, hfo⟩ := I
  have hok := hA.1
  have hI := hA.2.1
  have j1 := hJ.1
  unfold isJo at j1
  refine g_aload_n 553 C dL_law_552 rfl rfl ?_
  refine g_aload_n 554 C dL_law_553 rfl rfl ?_
  refine g_iload 556 C dL_law_554 rfl rfl ?_
  refine g_iconst 557 C dL_law_556 rfl ?_
  refine g_iadd 558 C dL_law_557 rfl ?_
  refine g_xld 559 C hX hbl hbA dL_law_558 (by omega) (by omega) rfl ?_
  refine g_aload_n 560 C dL_law_559 rfl rfl ?_
  refine g_iload 562 C dL_law_560 rfl rfl ?_
  refine g_iconst 563 C dL_law_562 rfl ?_
  refine g_iadd 564 C dL_law_563 rfl ?_
  refine g_xld 565 C hX hbl hbA dL_law_564 (by omega) (by omega) rfl ?_
  refine g_aload_n 566 C dL_law_565 rfl rfl ?_
  refine g_callSW (np := 4) (hh := [(0, 10, 13, 13), (0, 10, 17, 21)]) (tc := mL_forget) (As := [.ref x, .int (gi (sX xs ((i : Int) + 1))), .int (gi (sX xs ((i : Int) + 2))), .ref q]) (rest := []) 569 C dL_law_566 rfl (wsG_of 638 (by decide +kernel) rfl) gii_RL gcd_L_forget ⟨by decide, by decide, by decide +kernel⟩ gs_L_forget rfl ⟨⟨by decide, by decide⟩, (show kc + 3 ≤ 601899 by omega), (show ks + 18 ≤ 7290406 by omega)⟩ (Nat.le_of_ble_eq_true rfl) rfl (c_L_forget x q T (sX xs ((i : Int) + 1)) (sX xs ((i : Int) + 2)) fo hl hxb hqb (by omega) hJ hok hfo (sX_r _ _) (sX_r _ _)) g_no (fun v8 n8 σ8 h1 hq8 => ?_)
  obtain ⟨rfl, rfl, rfl, eJ, ⟨fo1, hf1, hf1e⟩, eK⟩ := hq8
  refine g_wid (kc2 := kc + 5) (ks2 := ks + 30) (show kc + 3 ≤ kc + 5 by omega) (show ks + 18 ≤ ks + 30 by omega) ?_
  have hM1 : isM E h1 m T c0 := hM.kept (fun q9 z1 z2 => eK q9 (by omega) (by omega))
  obtain ⟨g1, hs1, f1, fp1, X1, -⟩ := id hM1
  have m1 := X1.1
  unfold isMo at m1
  have hcr : -2147483648 ≤ (oForget T (sX xs ((i : Int) + 1)) (sX xs ((i : Int) + 2))).1 ∧ (oForget T (sX xs ((i : Int) + 1)) (sX xs ((i : Int) + 2))).1 < 2147483648 := by rcases oForget_c T (sX xs ((i : Int) + 1)) (sX xs ((i : Int) + 2)) with e | e | e <;> rw [e] <;> decide
  refine g_istore 571 [(5, _), (4, _), (3, _), (2, _), (1, _), (0, _)] C dL_law_569 (by decide) rfl rfl ?_
  refine g_aload_n 572 C dL_law_571 rfl rfl ?_
  refine g_aload_n 573 C dL_law_572 rfl rfl ?_
  refine g_iload 575 C dL_law_573 rfl rfl ?_
  refine g_iconst 576 C dL_law_575 rfl ?_
  refine g_iadd 577 C dL_law_576 rfl ?_
  refine g_xld 578 C hX hbl hbA dL_law_577 (by omega) (by omega) rfl ?_
  refine g_aload_n 579 C dL_law_578 rfl rfl ?_
  refine g_iload 581 C dL_law_579 rfl rfl ?_
  refine g_iconst 582 C dL_law_581 rfl ?_
  refine g_iadd 583 C dL_law_582 rfl ?_
  refine g_xld 584 C hX hbl hbA dL_law_583 (by omega) (by omega) rfl ?_
  refine g_V2r 587 (kc + 5) (ks + 30) C dL_law_584 rfl lk_RL_103 gi_X5_forget gv_X5_forget ⟨_, _, rfl⟩ (by omega) m1 ⟨⟨by decide, by decide⟩, (show kc + 5 + 0 ≤ 601899 by omega), (show ks + 30 + 0 ≤ 7290406 by omega)⟩ (Nat.le_of_ble_eq_true rfl) rfl rfl rfl (c_X5_forget m T c0 (sX xs ((i : Int) + 1)) (sX xs ((i : Int) + 2)) hmb hM1 hok hI (sX_r _ _) (sX_r _ _)) g_no (fun h2 hq2 => ?_)
  obtain ⟨hM2, k2⟩ := hq2
  obtain ⟨g2, hs2, f2, fp2, X2, g26⟩ := id hM2
  have m2 := X2.1
  unfold isMo at m2
  have hf2 : h2 q = gJ E 1 fo1 := (k2 q (by omega)).trans hf1
  have I2 : lwS E n8 h2 x m q (oForget T (sX xs ((i : Int) + 1)) (sX xs ((i : Int) + 2))).2.2 (oForget T (sX xs ((i : Int) + 1)) (sX xs ((i : Int) + 2))).1 fo1 := ⟨hxb, hmb, hqb, hxm, hmq, eJ.kept (fun q9 z1 z2 => k2 q9 (by omega)), hM2, okA_forget hA, hf2⟩
  refine g_istore 589 [(6, _), (5, _), (4, _), (3, _), (2, _), (1, _), (0, _)] C dL_law_587 (by decide) rfl rfl ?_
  refine g_aload_n 590 C dL_law_589 rfl rfl ?_
  refine g_V0r 593 (kc + 5) (ks + 30) C dL_law_590 rfl lk_RL_84 gi_X5_thrown gv_X5_thrown ⟨_, _, rfl⟩ (by omega) m2 ⟨⟨by decide, by decide⟩, (show kc + 5 + 0 ≤ 601899 by omega), (show ks + 30 + 0 ≤ 7290406 by omega)⟩ (Nat.le_of_ble_eq_true rfl) rfl rfl rfl (c_X5_thrown m g2 hs2 (by omega) X2.1) g_no (fun h3 e3 => ?_)
  subst e3
  rw [g26]
  refine g_iload 595 C dL_law_593 rfl rfl ?_
  refine g_icmp_eq 600 598 C dL_law_595 rfl rfl hcr hcr (fun _ => ?_) (fun z => absurd rfl z)
  refine g_iload 602 C dL_law_600 rfl rfl ?_
  refine g_if_ne 617 605 C dL_law_602 rfl rfl hcr (fun _ => ?_) (fun z0 => ?_)
  · refine g_goto 1517 C dL_law_617 rfl ?_
    refine g_loc [(4, .int (gi (i : Int))), (3, .ref q), (2, .ref m), (1, .ref x), (0, .ref b)] ⟨rfl, rfl, rfl, rfl, rfl, trivial⟩ ?_
    exact K _ _ _ _ I2
  refine g_aload_n 606 C dL_law_605 rfl rfl ?_
  refine g_iconst 607 C dL_law_606 rfl ?_
  refine g_lald 608 C dL_law_607 (by omega) hf2 (by decide) (by decide) rfl ?_
  rw [hf1e z0]
  refine g_iload 610 C dL_law_608 rfl rfl ?_
  refine g_i2l 611 C dL_law_610 rfl ?_
  refine g_lcmp 612 C dL_law_611 rfl ?_
  rw [lg_cmp_s]
  refine g_if_eq 617 615 C dL_law_612 rfl rfl (by decide) (fun _ => ?_) (fun z => absurd rfl z)
  refine g_goto 1517 C dL_law_617 rfl ?_
  refine g_loc [(4, .int (gi (i : Int))), (3, .ref q), (2, .ref m), (1, .ref x), (0, .ref b)] ⟨rfl, rfl, rfl, rfl, rfl, trivial⟩ ?_
  exact K _ _ _ _ I2
set_option maxRecDepth 100000 in
set_option maxHeartbeats 4000000 in
theorem law_pullAll {E : gEnv} {F : gFr} {Q : State → Prop} {n : Nat} {h : gH} {b Ls kc ks : Nat} {xs : Nat → Int32} {x m q i : Nat} {T : gTt} {c0 : Int} {fo : Int → Int64} (C : gC E F mL_law) (hX : va_X b Ls xs F.2.2.1 F.2.2.1.heap) (hbl : b < F.2.2.1.heap.size) (hbA : ¬ gA E b) (hl : E.1.stackTraces = false) (hLs : Ls ≤ 2560) (hi5 : i + 5 ≤ Ls) (hkc : kc + 5 ≤ 601899) (hks : ks + 30 ≤ 7290406) (I : lwS E n h x m q T c0 fo) (K : ∀ (h9 : gH) (T9 : gTt) (c9 : Int) (fo9 : Int → Int64), lwS E n h9 x m q T9 c9 fo9 → G E F mL_law Q n none h9 (kc + 5) (ks + 30) 1517 [(4, .int (gi (i : Int))), (3, .ref q), (2, .ref m), (1, .ref x), (0, .ref b)] []) : G E F mL_law Q n none h kc ks 620 [(4, .int (gi (i : Int))), (3, .ref q), (2, .ref m), (1, .ref x), (0, .ref b)] [] := by
  obtain ⟨hxb, hmb, hqb, hxm, hmq, hJ, hM, hA, hfo⟩ := I
  have hok := hA.1
  have hI := hA.2.1
  have j1 := hJ.1
  unfold isJo at j1
  refine g_aload_n 621 C dL_law_620 rfl rfl ?_
  refine g_aload_n 622 C dL_law_621 rfl rfl ?_
  refine g_callSW (np := 2) (hh := [(0, 8, 11, 21)]) (tc := mL_pullAll) (As := [.ref x, .ref q]) (rest := []) 625 C dL_law_622 rfl (wsG_of 650 (by decide +kernel) rfl) gii_RL gcd_L_pullAll ⟨by decide, by decide, by decide +kernel⟩ gs_L_pullAll rfl ⟨⟨by decide, by decide⟩, (show kc + 1 ≤ 601899 by omega), (show ks + 6 ≤ 7290406 by omega)⟩ (Nat.le_of_ble_eq_true rfl) rfl (c_L_pullAll x q T fo hl hxb hqb (by omega) hJ hok hfo) g_no (fun v8 n8 σ8 h1 hq8 => ?_)
  obtain ⟨rfl, rfl, rfl, eJ, ⟨fo1, hf1, hf1e⟩, eK⟩ := hq8
  refine g_wid (kc2 := kc + 5) (ks2 := ks + 30) (show kc + 1 ≤ kc + 5 by omega) (show ks + 6 ≤ ks + 30 by omega) ?_
  have hM1 : isM E h1 m T c0 := hM.kept (fun q9 z1 z2 => eK q9 (by omega) (by omega))
  obtain ⟨g1, hs1, f1, fp1, X1, -⟩ := id hM1
  have m1 := X1.1
  unfold isMo at m1
  have hcr : -2147483648 ≤ (oPullAll T).1 ∧ (oPullAll T).1 < 2147483648 := by rcases oPullAll_c T with e | e <;> rw [e] <;> decide
  refine g_istore 627 [(5, _), (4, _), (3, _), (2, _), (1, _), (0, _)] C dL_law_625 (by decide) rfl rfl ?_
  refine g_aload_n 628 C dL_law_627 rfl rfl ?_
  refine g_V0r 631 (kc + 5) (ks + 30) C dL_law_628 rfl lk_RL_107 gi_X5_pullAll gv_X5_pullAll ⟨_, _, rfl⟩ (by omega) m1 ⟨⟨by decide, by decide⟩, (show kc + 5 + 0 ≤ 601899 by omega), (show ks + 30 + 0 ≤ 7290406 by omega)⟩ (Nat.le_of_ble_eq_true rfl) rfl rfl rfl (c_X5_pullAll m T c0 hmb hM1 hok hI) g_no (fun h2 hq2 => ?_)
  obtain ⟨hM2, k2⟩ := hq2
  obtain ⟨g2, hs2, f2, fp2, X2, g26⟩ := id hM2
  have m2 := X2.1
  unfold isMo at m2
  have hf2 : h2 q = gJ E 1 fo1 := (k2 q (by omega)).trans hf1
  have I2 : lwS E n8 h2 x m q (oPullAll T).2.2 (oPullAll T).1 fo1 := ⟨hxb, hmb, hqb, hxm, hmq, eJ.kept (fun q9 z1 z2 => k2 q9 (by omega)), hM2, okA_pullAll hA, hf2⟩
  refine g_istore 633 [(6, _), (5, _), (4, _), (3, _), (2, _), (1, _), (0, _)] C dL_law_631 (by decide) rfl rfl ?_
  refine g_aload_n 634 C dL_law_633 rfl rfl ?_
  refine g_V0r 637 (kc + 5) (ks + 30) C dL_law_634 rfl lk_RL_84 gi_X5_thrown gv_X5_thrown ⟨_, _, rfl⟩ (by omega) m2 ⟨⟨by decide, by decide⟩, (show kc + 5 + 0 ≤ 601899 by omega), (show ks + 30 + 0 ≤ 7290406 by omega)⟩ (Nat.le_of_ble_eq_true rfl) rfl rfl rfl (c_X5_thrown m g2 hs2 (by omega) X2.1) g_no (fun h3 e3 => ?_)
  subst e3
  rw [g26]
  refine g_iload 639 C dL_law_637 rfl rfl ?_
  refine g_icmp_eq 644 642 C dL_law_639 rfl rfl hcr hcr (fun _ => ?_) (fun z => absurd rfl z)
  refine g_iload 646 C dL_law_644 rfl rfl ?_
  refine g_if_ne 661 649 C dL_law_646 rfl rfl hcr (fun _ => ?_) (fun z0 => ?_)
  · refine g_goto 1517 C dL_law_661 rfl ?_
    refine g_loc [(4, .int (gi (i : Int))), (3, .ref q), (2, .ref m), (1, .ref x), (0, .ref b)] ⟨rfl, rfl, rfl, rfl, rfl, trivial⟩ ?_
    exact K _ _ _ _ I2
  refine g_aload_n 650 C dL_law_649 rfl rfl ?_
  refine g_iconst 651 C dL_law_650 rfl ?_
  refine g_lald 652 C dL_law_651 (by omega) hf2 (by decide) (by decide) rfl ?_
  rw [hf1e z0]
  refine g_iload 654 C dL_law_652 rfl rfl ?_
  refine g_i2l 655 C dL_law_654 rfl ?_
  refine g_lcmp 656 C dL_law_655 rfl ?_
  rw [lg_cmp_s]
  refine g_if_eq 661 659 C dL_law_656 rfl rfl (by decide) (fun _ => ?_) (fun z => absurd rfl z)
  refine g_goto 1517 C dL_law_661 rfl ?_
  refine g_loc [(4, .int (gi (i : Int))), (3, .ref q), (2, .ref m), (1, .ref x), (0, .ref b)] ⟨rfl, rfl, rfl, rfl, rfl, trivial⟩ ?_
  exact K _ _ _ _ I2
set_option maxRecDepth 100000 in
set_option maxHeartbeats 4000000 in
theorem law_append {E : gEnv} {F : gFr} {Q : State → Prop} {n : Nat} {h : gH} {b Ls kc ks : Nat} {xs : Nat → Int32} {x m q i : Nat} {T : gTt} {c0 : Int} {fo : Int → Int64} (C : gC E F mL_law) (hX : va_X b Ls xs F.2.2.1 F.2.2.1.heap) (hbl : b < F.2.2.1.heap.size) (hbA : ¬ gA E b) (hl : E.1.stackTraces = false) (hLs : Ls ≤ 2560) (hi5 : i + 5 ≤ Ls) (hkc : kc + 5 ≤ 601899) (hks : ks + 30 ≤ 7290406) (I : lwS E n h x m q T c0 fo) (K : ∀ (h9 : gH) (T9 : gTt) (c9 : Int) (fo9 : Int → Int64), lwS E n h9 x m q T9 c9 fo9 → G E F mL_law Q n none h9 (kc + 5) (ks + 30) 1517 [(4, .int (gi (i : Int))), (3, .ref q), (2, .ref m), (1, .ref x), (0, .ref b)] []) : G E F mL_law Q n none h kc ks 664 [(4, .int (gi (i : Int))), (3, .ref q), (2, .ref m), (1, .ref x), (0, .ref b)] [] := by
  obtain ⟨hxb, hmb, hqb, hxm, hmq, hJ, hM, hA, hfo⟩ := I
  have hok := hA.1
  have hI := hA.2.1
  have j1 := hJ.1
  unfold isJo at j1
  refine g_aload_n 665 C dL_law_664 rfl rfl ?_
  refine g_aload_n 666 C dL_law_665 rfl rfl ?_
  refine g_iload 668 C dL_law_666 rfl rfl ?_
  refine g_iconst 669 C dL_law_668 rfl ?_
  refine g_iadd 670 C dL_law_669 rfl ?_
  refine g_xld 671 C hX hbl hbA dL_law_670 (by omega) (by omega) rfl ?_
  refine g_aload_n 672 C dL_law_671 rfl rfl ?_
  refine g_callSW (np := 3) (hh := [(0, 9, 12, 19), (0, 9, 15, 21)]) (tc := mL_append) (As := [.ref x, .int (gi (sX xs ((i : Int) + 1))), .ref q]) (rest := []) 675 C dL_law_672 rfl (wsG_of 663 (by decide +kernel) rfl) gii_RL gcd_L_append ⟨by decide, by decide, by decide +kernel⟩ gs_L_append rfl ⟨⟨by decide, by decide⟩, (show kc + 2 ≤ 601899 by omega), (show ks + 12 ≤ 7290406 by omega)⟩ (Nat.le_of_ble_eq_true rfl) rfl (c_L_append x q T (sX xs ((i : Int) + 1)) fo hl hxb hqb (by omega) hJ hok hfo (sX_r _ _)) g_no (fun v8 n8 σ8 h1 hq8 => ?_)
  obtain ⟨rfl, rfl, rfl, eJ, ⟨fo1, hf1, hf1e⟩, eK⟩ := hq8
  refine g_wid (kc2 := kc + 5) (ks2 := ks + 30) (show kc + 2 ≤ kc + 5 by omega) (show ks + 12 ≤ ks + 30 by omega) ?_
  have hM1 : isM E h1 m T c0 := hM.kept (fun q9 z1 z2 => eK q9 (by omega) (by omega))
  obtain ⟨g1, hs1, f1, fp1, X1, -⟩ := id hM1
  have m1 := X1.1
  unfold isMo at m1
  have hcr : -2147483648 ≤ (oAppend T (sX xs ((i : Int) + 1))).1 ∧ (oAppend T (sX xs ((i : Int) + 1))).1 < 2147483648 := by rcases oAppend_c T (sX xs ((i : Int) + 1)) with e | e | e <;> rw [e] <;> decide
  refine g_istore 677 [(5, _), (4, _), (3, _), (2, _), (1, _), (0, _)] C dL_law_675 (by decide) rfl rfl ?_
  refine g_aload_n 678 C dL_law_677 rfl rfl ?_
  refine g_aload_n 679 C dL_law_678 rfl rfl ?_
  refine g_iload 681 C dL_law_679 rfl rfl ?_
  refine g_iconst 682 C dL_law_681 rfl ?_
  refine g_iadd 683 C dL_law_682 rfl ?_
  refine g_xld 684 C hX hbl hbA dL_law_683 (by omega) (by omega) rfl ?_
  refine g_V1r 687 (kc + 5) (ks + 30) C dL_law_684 rfl lk_RL_111 gi_X5_append gv_X5_append ⟨_, _, rfl⟩ (by omega) m1 ⟨⟨by decide, by decide⟩, (show kc + 5 + 0 ≤ 601899 by omega), (show ks + 30 + 0 ≤ 7290406 by omega)⟩ (Nat.le_of_ble_eq_true rfl) rfl rfl rfl (c_X5_append m T c0 (sX xs ((i : Int) + 1)) hmb hM1 hok hI (sX_r _ _)) g_no (fun h2 hq2 => ?_)
  obtain ⟨hM2, k2⟩ := hq2
  obtain ⟨g2, hs2, f2, fp2, X2, g26⟩ := id hM2
  have m2 := X2.1
  unfold isMo at m2
  have hf2 : h2 q = gJ E 1 fo1 := (k2 q (by omega)).trans hf1
  have I2 : lwS E n8 h2 x m q (oAppend T (sX xs ((i : Int) + 1))).2.2 (oAppend T (sX xs ((i : Int) + 1))).1 fo1 := ⟨hxb, hmb, hqb, hxm, hmq, eJ.kept (fun q9 z1 z2 => k2 q9 (by omega)), hM2, okA_append hA, hf2⟩
  refine g_istore 689 [(6, _), (5, _), (4, _), (3, _), (2, _), (1, _), (0, _)] C dL_law_687 (by decide) rfl rfl ?_
  refine g_aload_n 690 C dL_law_689 rfl rfl ?_
  refine g_V0r 693 (kc + 5) (ks + 30) C dL_law_690 rfl lk_RL_84 gi_X5_thrown gv_X5_thrown ⟨_, _, rfl⟩ (by omega) m2 ⟨⟨by decide, by decide⟩, (show kc + 5 + 0 ≤ 601899 by omega), (show ks + 30 + 0 ≤ 7290406 by omega)⟩ (Nat.le_of_ble_eq_true rfl) rfl rfl rfl (c_X5_thrown m g2 hs2 (by omega) X2.1) g_no (fun h3 e3 => ?_)
  subst e3
  rw [g26]
  refine g_iload 695 C dL_law_693 rfl rfl ?_
  refine g_icmp_eq 700 698 C dL_law_695 rfl rfl hcr hcr (fun _ => ?_) (fun z => absurd rfl z)
  refine g_iload 702 C dL_law_700 rfl rfl ?_
  refine g_if_ne 717 705 C dL_law_702 rfl rfl hcr (fun _ => ?_) (fun z0 => ?_)
  · refine g_goto 1517 C dL_law_717 rfl ?_
    refine g_loc [(4, .int (gi (i : Int))), (3, .ref q), (2, .ref m), (1, .ref x), (0, .ref b)] ⟨rfl, rfl, rfl, rfl, rfl, trivial⟩ ?_
    exact K _ _ _ _ I2
  refine g_aload_n 706 C dL_law_705 rfl rfl ?_
  refine g_iconst 707 C dL_law_706 rfl ?_
  refine g_lald 708 C dL_law_707 (by omega) hf2 (by decide) (by decide) rfl ?_
  rw [hf1e z0]
  refine g_iload 710 C dL_law_708 rfl rfl ?_
  refine g_i2l 711 C dL_law_710 rfl ?_
  refine g_lcmp 712 C dL_law_711 rfl ?_
  rw [lg_cmp_s]
  refine g_if_eq 717 715 C dL_law_712 rfl rfl (by decide) (fun _ => ?_) (fun z => absurd rfl z)
  refine g_goto 1517 C dL_law_717 rfl ?_
  refine g_loc [(4, .int (gi (i : Int))), (3, .ref q), (2, .ref m), (1, .ref x), (0, .ref b)] ⟨rfl, rfl, rfl, rfl, rfl, trivial⟩ ?_
  exact K _ _ _ _ I2
set_option maxRecDepth 100000 in
set_option maxHeartbeats 4000000 in
theorem law_clearBuffer {E : gEnv} {F : gFr} {Q : State → Prop} {n : Nat} {h : gH} {b Ls kc ks : Nat} {xs : Nat → Int32} {x m q i : Nat} {T : gTt} {c0 : Int} {fo : Int → Int64} (C : gC E F mL_law) (hX : va_X b Ls xs F.2.2.1 F.2.2.1.heap) (hbl : b < F.2.2.1.heap.size) (hbA : ¬ gA E b) (hl : E.1.stackTraces = false) (hLs : Ls ≤ 2560) (hi5 : i + 5 ≤ Ls) (hkc : kc + 5 ≤ 601899) (hks : ks + 30 ≤ 7290406) (I : lwS E n h x m q T c0 fo) (K : ∀ (h9 : gH) (T9 : gTt) (c9 : Int) (fo9 : Int → Int64), lwS E n h9 x m q T9 c9 fo9 → G E F mL_law Q n none h9 (kc + 5) (ks + 30) 1517 [(4, .int (gi (i : Int))), (3, .ref q), (2, .ref m), (1, .ref x), (0, .ref b)] []) : G E F mL_law Q n none h kc ks 720 [(4, .int (gi (i : Int))), (3, .ref q), (2, .ref m), (1, .ref x), (0, .ref b)] [] := by
  obtain ⟨hxb, hmb, hqb, hxm, hmq, hJ, hM, hA, hfo⟩ := I
  have hok := hA.1
  have hI := hA.2.1
  have j1 := hJ.1
  unfold isJo at j1
  refine g_aload_n 721 C dL_law_720 rfl rfl ?_
  have z9 := hok.2.2.2.1
  have hr : -2147483648 ≤ (oClear T).2.1 ∧ (oClear T).2.1 < 2147483648 := by
    show -2147483648 ≤ (T.2.2.1 : Int) ∧ (T.2.2.1 : Int) < 2147483648
    omega
  refine g_wid (kc2 := kc + 5) (ks2 := ks + 30) (by omega) (by omega) ?_
  refine g_V0r 724 (kc + 5) (ks + 30) C dL_law_721 rfl lk_RL_112 gi_X4_clearBuffer gv_X4_clearBuffer ⟨_, _, rfl⟩ (by omega) j1 ⟨⟨by decide, by decide⟩, (show kc + 5 + 0 ≤ 601899 by omega), (show ks + 30 + 0 ≤ 7290406 by omega)⟩ (Nat.le_of_ble_eq_true rfl) rfl rfl rfl (c_X4_clearBuffer (σ := none) x T hxb hJ hok) g_no (fun h1 hq1 => ?_)
  obtain ⟨-, eJ, eK⟩ := hq1
  have hM1 : isM E h1 m T c0 := hM.kept (fun q9 z1 z2 => eK q9 (by omega))
  obtain ⟨g1, hs1, f1, fp1, X1, -⟩ := id hM1
  have m1 := X1.1
  unfold isMo at m1
  refine g_aload_n 725 C dL_law_724 rfl rfl ?_
  refine g_V0r 728 (kc + 5) (ks + 30) C dL_law_725 rfl lk_RL_115 gi_X5_clearBuffer gv_X5_clearBuffer ⟨_, _, rfl⟩ (by omega) m1 ⟨⟨by decide, by decide⟩, (show kc + 5 + 0 ≤ 601899 by omega), (show ks + 30 + 0 ≤ 7290406 by omega)⟩ (Nat.le_of_ble_eq_true rfl) rfl rfl rfl (c_X5_clearBuffer m T c0 hmb hM1 hok hI) g_no (fun h2 hq2 => ?_)
  obtain ⟨hM2, k2⟩ := hq2
  have I2 : lwS E n h2 x m q (oClear T).2.2 (oClear T).1 fo := ⟨hxb, hmb, hqb, hxm, hmq, eJ.kept (fun q9 z1 z2 => k2 q9 (by omega)), hM2, okA_clear hA, (k2 q (by omega)).trans ((eK q (by omega)).trans hfo)⟩
  refine g_icmp_eq 1517 731 C dL_law_728 rfl rfl hr hr (fun _ => ?_) (fun z => absurd rfl z)
  exact K _ _ _ _ I2
set_option maxRecDepth 100000 in
set_option maxHeartbeats 4000000 in
theorem law_firstError {E : gEnv} {F : gFr} {Q : State → Prop} {n : Nat} {h : gH} {b Ls kc ks : Nat} {xs : Nat → Int32} {x m q i : Nat} {T : gTt} {c0 : Int} {fo : Int → Int64} (C : gC E F mL_law) (hX : va_X b Ls xs F.2.2.1 F.2.2.1.heap) (hbl : b < F.2.2.1.heap.size) (hbA : ¬ gA E b) (hl : E.1.stackTraces = false) (hLs : Ls ≤ 2560) (hi5 : i + 5 ≤ Ls) (hkc : kc + 5 ≤ 601899) (hks : ks + 30 ≤ 7290406) (I : lwS E n h x m q T c0 fo) (K : ∀ (h9 : gH) (T9 : gTt) (c9 : Int) (fo9 : Int → Int64), lwS E n h9 x m q T9 c9 fo9 → G E F mL_law Q n none h9 (kc + 5) (ks + 30) 1517 [(4, .int (gi (i : Int))), (3, .ref q), (2, .ref m), (1, .ref x), (0, .ref b)] []) : G E F mL_law Q n none h kc ks 733 [(4, .int (gi (i : Int))), (3, .ref q), (2, .ref m), (1, .ref x), (0, .ref b)] [] := by
  obtain ⟨hxb, hmb, hqb, hxm, hmq, hJ, hM, hA, hfo⟩ := I
  have hok := hA.1
  have hI := hA.2.1
  have j1 := hJ.1
  unfold isJo at j1
  refine g_aload_n 734 C dL_law_733 rfl rfl ?_
  have z9 := hok.2.2.2.1
  have hr : -2147483648 ≤ (oFirst T).2.1 ∧ (oFirst T).2.1 < 2147483648 := by
    show -2147483648 ≤ (scE T.2.2.2 T.2.2.1 : Int) ∧ (scE T.2.2.2 T.2.2.1 : Int) < 2147483648
    have := scE_le (f := T.2.2.2) T.2.2.1
    omega
  refine g_wid (kc2 := kc + 5) (ks2 := ks + 30) (by omega) (by omega) ?_
  refine g_V0r 737 (kc + 5) (ks + 30) C dL_law_734 rfl lk_RL_116 gi_X4_firstError gv_X4_firstError ⟨_, _, rfl⟩ (by omega) j1 ⟨⟨by decide, by decide⟩, (show kc + 5 + 0 ≤ 601899 by omega), (show ks + 30 + 0 ≤ 7290406 by omega)⟩ (Nat.le_of_ble_eq_true rfl) rfl rfl rfl (c_X4_firstError (σ := none) x T hxb hJ hok) g_no (fun h1 hq1 => ?_)
  obtain ⟨-, eJ, eK⟩ := hq1
  have hM1 : isM E h1 m T c0 := hM.kept (fun q9 z1 z2 => eK q9 (by omega))
  obtain ⟨g1, hs1, f1, fp1, X1, -⟩ := id hM1
  have m1 := X1.1
  unfold isMo at m1
  refine g_aload_n 738 C dL_law_737 rfl rfl ?_
  refine g_V0r 741 (kc + 5) (ks + 30) C dL_law_738 rfl lk_RL_119 gi_X5_firstError gv_X5_firstError ⟨_, _, rfl⟩ (by omega) m1 ⟨⟨by decide, by decide⟩, (show kc + 5 + 0 ≤ 601899 by omega), (show ks + 30 + 0 ≤ 7290406 by omega)⟩ (Nat.le_of_ble_eq_true rfl) rfl rfl rfl (c_X5_firstError m T c0 hmb hM1 hok hI) g_no (fun h2 hq2 => ?_)
  obtain ⟨hM2, k2⟩ := hq2
  have I2 : lwS E n h2 x m q (oFirst T).2.2 (oFirst T).1 fo := ⟨hxb, hmb, hqb, hxm, hmq, eJ.kept (fun q9 z1 z2 => k2 q9 (by omega)), hM2, okA_first hA, (k2 q (by omega)).trans ((eK q (by omega)).trans hfo)⟩
  refine g_icmp_eq 1517 744 C dL_law_741 rfl rfl hr hr (fun _ => ?_) (fun z => absurd rfl z)
  exact K _ _ _ _ I2
set_option maxRecDepth 100000 in
set_option maxHeartbeats 4000000 in
theorem law_runAll {E : gEnv} {F : gFr} {Q : State → Prop} {n : Nat} {h : gH} {b Ls kc ks : Nat} {xs : Nat → Int32} {x m q i : Nat} {T : gTt} {c0 : Int} {fo : Int → Int64} (C : gC E F mL_law) (hX : va_X b Ls xs F.2.2.1 F.2.2.1.heap) (hbl : b < F.2.2.1.heap.size) (hbA : ¬ gA E b) (hl : E.1.stackTraces = false) (hLs : Ls ≤ 2560) (hi5 : i + 5 ≤ Ls) (hkc : kc + 5 ≤ 601899) (hks : ks + 30 ≤ 7290406) (I : lwS E n h x m q T c0 fo) (K : ∀ (h9 : gH) (T9 : gTt) (c9 : Int) (fo9 : Int → Int64), lwS E n h9 x m q T9 c9 fo9 → G E F mL_law Q n none h9 (kc + 5) (ks + 30) 1517 [(4, .int (gi (i : Int))), (3, .ref q), (2, .ref m), (1, .ref x), (0, .ref b)] []) : G E F mL_law Q n none h kc ks 746 [(4, .int (gi (i : Int))), (3, .ref q), (2, .ref m), (1, .ref x), (0, .ref b)] [] := by
  obtain ⟨hxb, hmb, hqb, hxm, hmq, hJ, hM, hA, hfo⟩ := I
  have hok := hA.1
  have hI := hA.2.1
  have j1 := hJ.1
  unfold isJo at j1
  refine g_aload_n 747 C dL_law_746 rfl rfl ?_
  refine g_aload_n 748 C dL_law_747 rfl rfl ?_
  refine g_callSW (np := 2) (hh := [(0, 8, 11, 19)]) (tc := mL_runAll) (As := [.ref x, .ref q]) (rest := []) 751 C dL_law_748 rfl (wsG_of 672 (by decide +kernel) rfl) gii_RL gcd_L_runAll ⟨by decide, by decide, by decide +kernel⟩ gs_L_runAll rfl ⟨⟨by decide, by decide⟩, (show kc + 1 ≤ 601899 by omega), (show ks + 6 ≤ 7290406 by omega)⟩ (Nat.le_of_ble_eq_true rfl) rfl (c_L_runAll x q T fo hl hxb hqb (by omega) hJ hok hfo) g_no (fun v8 n8 σ8 h1 hq8 => ?_)
  obtain ⟨rfl, rfl, rfl, eJ, ⟨fo1, hf1, hf1e⟩, eK⟩ := hq8
  refine g_wid (kc2 := kc + 5) (ks2 := ks + 30) (show kc + 1 ≤ kc + 5 by omega) (show ks + 6 ≤ ks + 30 by omega) ?_
  have hM1 : isM E h1 m T c0 := hM.kept (fun q9 z1 z2 => eK q9 (by omega) (by omega))
  obtain ⟨g1, hs1, f1, fp1, X1, -⟩ := id hM1
  have m1 := X1.1
  unfold isMo at m1
  have hcr : -2147483648 ≤ (oRunAll T).1 ∧ (oRunAll T).1 < 2147483648 := by rcases oRunAll_c T with e | e <;> rw [e] <;> decide
  refine g_istore 753 [(5, _), (4, _), (3, _), (2, _), (1, _), (0, _)] C dL_law_751 (by decide) rfl rfl ?_
  refine g_aload_n 754 C dL_law_753 rfl rfl ?_
  refine g_V0r 757 (kc + 5) (ks + 30) C dL_law_754 rfl lk_RL_122 gi_X5_runAll gv_X5_runAll ⟨_, _, rfl⟩ (by omega) m1 ⟨⟨by decide, by decide⟩, (show kc + 5 + 0 ≤ 601899 by omega), (show ks + 30 + 0 ≤ 7290406 by omega)⟩ (Nat.le_of_ble_eq_true rfl) rfl rfl rfl (c_X5_runAll m T c0 hmb hM1 hok hI) g_no (fun h2 hq2 => ?_)
  obtain ⟨hM2, k2⟩ := hq2
  obtain ⟨g2, hs2, f2, fp2, X2, g26⟩ := id hM2
  have m2 := X2.1
  unfold isMo at m2
  have hf2 : h2 q = gJ E 1 fo1 := (k2 q (by omega)).trans hf1
  have I2 : lwS E n8 h2 x m q (oRunAll T).2.2 (oRunAll T).1 fo1 := ⟨hxb, hmb, hqb, hxm, hmq, eJ.kept (fun q9 z1 z2 => k2 q9 (by omega)), hM2, okA_runAll hA, hf2⟩
  refine g_istore 759 [(6, _), (5, _), (4, _), (3, _), (2, _), (1, _), (0, _)] C dL_law_757 (by decide) rfl rfl ?_
  refine g_aload_n 760 C dL_law_759 rfl rfl ?_
  refine g_V0r 763 (kc + 5) (ks + 30) C dL_law_760 rfl lk_RL_84 gi_X5_thrown gv_X5_thrown ⟨_, _, rfl⟩ (by omega) m2 ⟨⟨by decide, by decide⟩, (show kc + 5 + 0 ≤ 601899 by omega), (show ks + 30 + 0 ≤ 7290406 by omega)⟩ (Nat.le_of_ble_eq_true rfl) rfl rfl rfl (c_X5_thrown m g2 hs2 (by omega) X2.1) g_no (fun h3 e3 => ?_)
  subst e3
  rw [g26]
  refine g_iload 765 C dL_law_763 rfl rfl ?_
  refine g_icmp_eq 770 768 C dL_law_765 rfl rfl hcr hcr (fun _ => ?_) (fun z => absurd rfl z)
  refine g_iload 772 C dL_law_770 rfl rfl ?_
  refine g_if_ne 787 775 C dL_law_772 rfl rfl hcr (fun _ => ?_) (fun z0 => ?_)
  · refine g_goto 1517 C dL_law_787 rfl ?_
    refine g_loc [(4, .int (gi (i : Int))), (3, .ref q), (2, .ref m), (1, .ref x), (0, .ref b)] ⟨rfl, rfl, rfl, rfl, rfl, trivial⟩ ?_
    exact K _ _ _ _ I2
  refine g_aload_n 776 C dL_law_775 rfl rfl ?_
  refine g_iconst 777 C dL_law_776 rfl ?_
  refine g_lald 778 C dL_law_777 (by omega) hf2 (by decide) (by decide) rfl ?_
  rw [hf1e z0]
  refine g_iload 780 C dL_law_778 rfl rfl ?_
  refine g_i2l 781 C dL_law_780 rfl ?_
  refine g_lcmp 782 C dL_law_781 rfl ?_
  rw [lg_cmp_s]
  refine g_if_eq 787 785 C dL_law_782 rfl rfl (by decide) (fun _ => ?_) (fun z => absurd rfl z)
  refine g_goto 1517 C dL_law_787 rfl ?_
  refine g_loc [(4, .int (gi (i : Int))), (3, .ref q), (2, .ref m), (1, .ref x), (0, .ref b)] ⟨rfl, rfl, rfl, rfl, rfl, trivial⟩ ?_
  exact K _ _ _ _ I2
set_option maxRecDepth 100000 in
set_option maxHeartbeats 4000000 in
theorem law_undo {E : gEnv} {F : gFr} {Q : State → Prop} {n : Nat} {h : gH} {b Ls kc ks : Nat} {xs : Nat → Int32} {x m q i : Nat} {T : gTt} {c0 : Int} {fo : Int → Int64} (C : gC E F mL_law) (hX : va_X b Ls xs F.2.2.1 F.2.2.1.heap) (hbl : b < F.2.2.1.heap.size) (hbA : ¬ gA E b) (hl : E.1.stackTraces = false) (hLs : Ls ≤ 2560) (hi5 : i + 5 ≤ Ls) (hkc : kc + 5 ≤ 601899) (hks : ks + 30 ≤ 7290406) (I : lwS E n h x m q T c0 fo) (K : ∀ (h9 : gH) (T9 : gTt) (c9 : Int) (fo9 : Int → Int64), lwS E n h9 x m q T9 c9 fo9 → G E F mL_law Q n none h9 (kc + 5) (ks + 30) 1517 [(4, .int (gi (i : Int))), (3, .ref q), (2, .ref m), (1, .ref x), (0, .ref b)] []) : G E F mL_law Q n none h kc ks 790 [(4, .int (gi (i : Int))), (3, .ref q), (2, .ref m), (1, .ref x), (0, .ref b)] [] := by
  obtain ⟨hxb, hmb, hqb, hxm, hmq, hJ, hM, hA, hfo⟩ := I
  have hok := hA.1
  have hI := hA.2.1
  have j1 := hJ.1
  unfold isJo at j1
  refine g_aload_n 791 C dL_law_790 rfl rfl ?_
  refine g_aload_n 792 C dL_law_791 rfl rfl ?_
  refine g_callSW (np := 2) (hh := [(0, 8, 11, 21)]) (tc := mL_undo) (As := [.ref x, .ref q]) (rest := []) 795 C dL_law_792 rfl (wsG_of 689 (by decide +kernel) rfl) gii_RL gcd_L_undo ⟨by decide, by decide, by decide +kernel⟩ gs_L_undo rfl ⟨⟨by decide, by decide⟩, (show kc + 1 ≤ 601899 by omega), (show ks + 6 ≤ 7290406 by omega)⟩ (Nat.le_of_ble_eq_true rfl) rfl (c_L_undo x q T fo hl hxb hqb (by omega) hJ hok hfo) g_no (fun v8 n8 σ8 h1 hq8 => ?_)
  obtain ⟨rfl, rfl, rfl, eJ, ⟨fo1, hf1, hf1e⟩, eK⟩ := hq8
  refine g_wid (kc2 := kc + 5) (ks2 := ks + 30) (show kc + 1 ≤ kc + 5 by omega) (show ks + 6 ≤ ks + 30 by omega) ?_
  have hM1 : isM E h1 m T c0 := hM.kept (fun q9 z1 z2 => eK q9 (by omega) (by omega))
  obtain ⟨g1, hs1, f1, fp1, X1, -⟩ := id hM1
  have m1 := X1.1
  unfold isMo at m1
  have hcr : -2147483648 ≤ (oUndo T).1 ∧ (oUndo T).1 < 2147483648 := by rcases oUndo_c T with e | e <;> rw [e] <;> decide
  refine g_istore 797 [(5, _), (4, _), (3, _), (2, _), (1, _), (0, _)] C dL_law_795 (by decide) rfl rfl ?_
  refine g_aload_n 798 C dL_law_797 rfl rfl ?_
  refine g_V0r 801 (kc + 5) (ks + 30) C dL_law_798 rfl lk_RL_125 gi_X5_undo gv_X5_undo ⟨_, _, rfl⟩ (by omega) m1 ⟨⟨by decide, by decide⟩, (show kc + 5 + 0 ≤ 601899 by omega), (show ks + 30 + 0 ≤ 7290406 by omega)⟩ (Nat.le_of_ble_eq_true rfl) rfl rfl rfl (c_X5_undo m T c0 hmb hM1 hok hI) g_no (fun h2 hq2 => ?_)
  obtain ⟨hM2, k2⟩ := hq2
  obtain ⟨g2, hs2, f2, fp2, X2, g26⟩ := id hM2
  have m2 := X2.1
  unfold isMo at m2
  have hf2 : h2 q = gJ E 1 fo1 := (k2 q (by omega)).trans hf1
  have I2 : lwS E n8 h2 x m q (oUndo T).2.2 (oUndo T).1 fo1 := ⟨hxb, hmb, hqb, hxm, hmq, eJ.kept (fun q9 z1 z2 => k2 q9 (by omega)), hM2, okA_undo hA, hf2⟩
  refine g_istore 803 [(6, _), (5, _), (4, _), (3, _), (2, _), (1, _), (0, _)] C dL_law_801 (by decide) rfl rfl ?_
  refine g_aload_n 804 C dL_law_803 rfl rfl ?_
  refine g_V0r 807 (kc + 5) (ks + 30) C dL_law_804 rfl lk_RL_84 gi_X5_thrown gv_X5_thrown ⟨_, _, rfl⟩ (by omega) m2 ⟨⟨by decide, by decide⟩, (show kc + 5 + 0 ≤ 601899 by omega), (show ks + 30 + 0 ≤ 7290406 by omega)⟩ (Nat.le_of_ble_eq_true rfl) rfl rfl rfl (c_X5_thrown m g2 hs2 (by omega) X2.1) g_no (fun h3 e3 => ?_)
  subst e3
  rw [g26]
  refine g_iload 809 C dL_law_807 rfl rfl ?_
  refine g_icmp_eq 814 812 C dL_law_809 rfl rfl hcr hcr (fun _ => ?_) (fun z => absurd rfl z)
  refine g_iload 816 C dL_law_814 rfl rfl ?_
  refine g_if_ne 831 819 C dL_law_816 rfl rfl hcr (fun _ => ?_) (fun z0 => ?_)
  · refine g_goto 1517 C dL_law_831 rfl ?_
    refine g_loc [(4, .int (gi (i : Int))), (3, .ref q), (2, .ref m), (1, .ref x), (0, .ref b)] ⟨rfl, rfl, rfl, rfl, rfl, trivial⟩ ?_
    exact K _ _ _ _ I2
  refine g_aload_n 820 C dL_law_819 rfl rfl ?_
  refine g_iconst 821 C dL_law_820 rfl ?_
  refine g_lald 822 C dL_law_821 (by omega) hf2 (by decide) (by decide) rfl ?_
  rw [hf1e z0]
  refine g_iload 824 C dL_law_822 rfl rfl ?_
  refine g_i2l 825 C dL_law_824 rfl ?_
  refine g_lcmp 826 C dL_law_825 rfl ?_
  rw [lg_cmp_s]
  refine g_if_eq 831 829 C dL_law_826 rfl rfl (by decide) (fun _ => ?_) (fun z => absurd rfl z)
  refine g_goto 1517 C dL_law_831 rfl ?_
  refine g_loc [(4, .int (gi (i : Int))), (3, .ref q), (2, .ref m), (1, .ref x), (0, .ref b)] ⟨rfl, rfl, rfl, rfl, rfl, trivial⟩ ?_
  exact K _ _ _ _ I2
set_option maxRecDepth 100000 in
set_option maxHeartbeats 4000000 in
theorem law_sibling {E : gEnv} {F : gFr} {Q : State → Prop} {n : Nat} {h : gH} {b Ls kc ks : Nat} {xs : Nat → Int32} {x m q i : Nat} {T : gTt} {c0 : Int} {fo : Int → Int64} (C : gC E F mL_law) (hX : va_X b Ls xs F.2.2.1 F.2.2.1.heap) (hbl : b < F.2.2.1.heap.size) (hbA : ¬ gA E b) (hl : E.1.stackTraces = false) (hLs : Ls ≤ 2560) (hi5 : i + 5 ≤ Ls) (hkc : kc + 5 ≤ 601899) (hks : ks + 30 ≤ 7290406) (I : lwS E n h x m q T c0 fo) (K : ∀ (h9 : gH) (T9 : gTt) (c9 : Int) (fo9 : Int → Int64), lwS E n h9 x m q T9 c9 fo9 → G E F mL_law Q n none h9 (kc + 5) (ks + 30) 1517 [(4, .int (gi (i : Int))), (3, .ref q), (2, .ref m), (1, .ref x), (0, .ref b)] []) : G E F mL_law Q n none h kc ks 834 [(4, .int (gi (i : Int))), (3, .ref q), (2, .ref m), (1, .ref x), (0, .ref b)] [] := by
  obtain ⟨hxb, hmb, hqb, hxm, hmq, hJ, hM, hA, hfo⟩ := I
  have hok := hA.1
  have hI := hA.2.1
  have j1 := hJ.1
  unfold isJo at j1
  refine g_aload_n 835 C dL_law_834 rfl rfl ?_
  refine g_aload_n 836 C dL_law_835 rfl rfl ?_
  refine g_iload 838 C dL_law_836 rfl rfl ?_
  refine g_iconst 839 C dL_law_838 rfl ?_
  refine g_iadd 840 C dL_law_839 rfl ?_
  refine g_xld 841 C hX hbl hbA dL_law_840 (by omega) (by omega) rfl ?_
  refine g_aload_n 842 C dL_law_841 rfl rfl ?_
  refine g_iload 844 C dL_law_842 rfl rfl ?_
  refine g_iconst 845 C dL_law_844 rfl ?_
  refine g_iadd 846 C dL_law_845 rfl ?_
  refine g_xld 847 C hX hbl hbA dL_law_846 (by omega) (by omega) rfl ?_
  refine g_aload_n 848 C dL_law_847 rfl rfl ?_
  refine g_iload 850 C dL_law_848 rfl rfl ?_
  refine g_iconst 851 C dL_law_850 rfl ?_
  refine g_iadd 852 C dL_law_851 rfl ?_
  refine g_xld 853 C hX hbl hbA dL_law_852 (by omega) (by omega) rfl ?_
  refine g_aload_n 854 C dL_law_853 rfl rfl ?_
  refine g_iload 856 C dL_law_854 rfl rfl ?_
  refine g_iconst 857 C dL_law_856 rfl ?_
  refine g_iadd 858 C dL_law_857 rfl ?_
  refine g_xld 859 C hX hbl hbA dL_law_858 (by omega) (by omega) rfl ?_
  refine g_aload_n 860 C dL_law_859 rfl rfl ?_
  refine g_callSW (np := 6) (hh := [(0, 14, 17, 13), (0, 14, 21, 19)]) (tc := mL_sibling) (As := [.ref x, .int (gi (sX xs ((i : Int) + 1))), .int (gi (sX xs ((i : Int) + 2))), .int (gi (sX xs ((i : Int) + 3))), .int (gi (sX xs ((i : Int) + 4))), .ref q]) (rest := []) 863 C dL_law_860 rfl (wsG_of 697 (by decide +kernel) rfl) gii_RL gcd_L_sibling ⟨by decide, by decide, by decide +kernel⟩ gs_L_sibling rfl ⟨⟨by decide, by decide⟩, (show kc + 4 ≤ 601899 by omega), (show ks + 24 ≤ 7290406 by omega)⟩ (Nat.le_of_ble_eq_true rfl) rfl (c_L_sibling x q T (sX xs ((i : Int) + 1)) (sX xs ((i : Int) + 2)) (sX xs ((i : Int) + 3)) (sX xs ((i : Int) + 4)) fo hl hxb hqb (by omega) hJ hok hfo (sX_r _ _) (sX_r _ _) (sX_r _ _) (sX_r _ _)) g_no (fun v8 n8 σ8 h1 hq8 => ?_)
  obtain ⟨rfl, rfl, rfl, eJ, ⟨fo1, hf1, hf1e⟩, eK⟩ := hq8
  refine g_wid (kc2 := kc + 5) (ks2 := ks + 30) (show kc + 4 ≤ kc + 5 by omega) (show ks + 24 ≤ ks + 30 by omega) ?_
  have hM1 : isM E h1 m T c0 := hM.kept (fun q9 z1 z2 => eK q9 (by omega) (by omega))
  obtain ⟨g1, hs1, f1, fp1, X1, -⟩ := id hM1
  have m1 := X1.1
  unfold isMo at m1
  have hcr : -2147483648 ≤ (oSibling T (sX xs ((i : Int) + 1)) (sX xs ((i : Int) + 2)) (sX xs ((i : Int) + 3)) (sX xs ((i : Int) + 4))).1 ∧ (oSibling T (sX xs ((i : Int) + 1)) (sX xs ((i : Int) + 2)) (sX xs ((i : Int) + 3)) (sX xs ((i : Int) + 4))).1 < 2147483648 := by rcases oSibling_c T (sX xs ((i : Int) + 1)) (sX xs ((i : Int) + 2)) (sX xs ((i : Int) + 3)) (sX xs ((i : Int) + 4)) with e | e | e <;> rw [e] <;> decide
  refine g_istore 865 [(5, _), (4, _), (3, _), (2, _), (1, _), (0, _)] C dL_law_863 (by decide) rfl rfl ?_
  refine g_aload_n 866 C dL_law_865 rfl rfl ?_
  refine g_aload_n 867 C dL_law_866 rfl rfl ?_
  refine g_iload 869 C dL_law_867 rfl rfl ?_
  refine g_iconst 870 C dL_law_869 rfl ?_
  refine g_iadd 871 C dL_law_870 rfl ?_
  refine g_xld 872 C hX hbl hbA dL_law_871 (by omega) (by omega) rfl ?_
  refine g_aload_n 873 C dL_law_872 rfl rfl ?_
  refine g_iload 875 C dL_law_873 rfl rfl ?_
  refine g_iconst 876 C dL_law_875 rfl ?_
  refine g_iadd 877 C dL_law_876 rfl ?_
  refine g_xld 878 C hX hbl hbA dL_law_877 (by omega) (by omega) rfl ?_
  refine g_aload_n 879 C dL_law_878 rfl rfl ?_
  refine g_iload 881 C dL_law_879 rfl rfl ?_
  refine g_iconst 882 C dL_law_881 rfl ?_
  refine g_iadd 883 C dL_law_882 rfl ?_
  refine g_xld 884 C hX hbl hbA dL_law_883 (by omega) (by omega) rfl ?_
  refine g_aload_n 885 C dL_law_884 rfl rfl ?_
  refine g_iload 887 C dL_law_885 rfl rfl ?_
  refine g_iconst 888 C dL_law_887 rfl ?_
  refine g_iadd 889 C dL_law_888 rfl ?_
  refine g_xld 890 C hX hbl hbA dL_law_889 (by omega) (by omega) rfl ?_
  refine g_V4r 893 (kc + 5) (ks + 30) C dL_law_890 rfl lk_RL_128 gi_X5_sibling gv_X5_sibling ⟨_, _, rfl⟩ (by omega) m1 ⟨⟨by decide, by decide⟩, (show kc + 5 + 0 ≤ 601899 by omega), (show ks + 30 + 0 ≤ 7290406 by omega)⟩ (Nat.le_of_ble_eq_true rfl) rfl rfl rfl (c_X5_sibling m T c0 (sX xs ((i : Int) + 1)) (sX xs ((i : Int) + 2)) (sX xs ((i : Int) + 3)) (sX xs ((i : Int) + 4)) hmb hM1 hok hI (sX_r _ _) (sX_r _ _) (sX_r _ _) (sX_r _ _)) g_no (fun h2 hq2 => ?_)
  obtain ⟨hM2, k2⟩ := hq2
  obtain ⟨g2, hs2, f2, fp2, X2, g26⟩ := id hM2
  have m2 := X2.1
  unfold isMo at m2
  have hf2 : h2 q = gJ E 1 fo1 := (k2 q (by omega)).trans hf1
  have I2 : lwS E n8 h2 x m q (oSibling T (sX xs ((i : Int) + 1)) (sX xs ((i : Int) + 2)) (sX xs ((i : Int) + 3)) (sX xs ((i : Int) + 4))).2.2 (oSibling T (sX xs ((i : Int) + 1)) (sX xs ((i : Int) + 2)) (sX xs ((i : Int) + 3)) (sX xs ((i : Int) + 4))).1 fo1 := ⟨hxb, hmb, hqb, hxm, hmq, eJ.kept (fun q9 z1 z2 => k2 q9 (by omega)), hM2, okA_sibling hA, hf2⟩
  refine g_istore 895 [(6, _), (5, _), (4, _), (3, _), (2, _), (1, _), (0, _)] C dL_law_893 (by decide) rfl rfl ?_
  refine g_aload_n 896 C dL_law_895 rfl rfl ?_
  refine g_V0r 899 (kc + 5) (ks + 30) C dL_law_896 rfl lk_RL_84 gi_X5_thrown gv_X5_thrown ⟨_, _, rfl⟩ (by omega) m2 ⟨⟨by decide, by decide⟩, (show kc + 5 + 0 ≤ 601899 by omega), (show ks + 30 + 0 ≤ 7290406 by omega)⟩ (Nat.le_of_ble_eq_true rfl) rfl rfl rfl (c_X5_thrown m g2 hs2 (by omega) X2.1) g_no (fun h3 e3 => ?_)
  subst e3
  rw [g26]
  refine g_iload 901 C dL_law_899 rfl rfl ?_
  refine g_icmp_eq 906 904 C dL_law_901 rfl rfl hcr hcr (fun _ => ?_) (fun z => absurd rfl z)
  refine g_iload 908 C dL_law_906 rfl rfl ?_
  refine g_if_ne 923 911 C dL_law_908 rfl rfl hcr (fun _ => ?_) (fun z0 => ?_)
  · refine g_goto 1517 C dL_law_923 rfl ?_
    refine g_loc [(4, .int (gi (i : Int))), (3, .ref q), (2, .ref m), (1, .ref x), (0, .ref b)] ⟨rfl, rfl, rfl, rfl, rfl, trivial⟩ ?_
    exact K _ _ _ _ I2
  refine g_aload_n 912 C dL_law_911 rfl rfl ?_
  refine g_iconst 913 C dL_law_912 rfl ?_
  refine g_lald 914 C dL_law_913 (by omega) hf2 (by decide) (by decide) rfl ?_
  rw [hf1e z0]
  refine g_iload 916 C dL_law_914 rfl rfl ?_
  refine g_i2l 917 C dL_law_916 rfl ?_
  refine g_lcmp 918 C dL_law_917 rfl ?_
  rw [lg_cmp_s]
  refine g_if_eq 923 921 C dL_law_918 rfl rfl (by decide) (fun _ => ?_) (fun z => absurd rfl z)
  refine g_goto 1517 C dL_law_923 rfl ?_
  refine g_loc [(4, .int (gi (i : Int))), (3, .ref q), (2, .ref m), (1, .ref x), (0, .ref b)] ⟨rfl, rfl, rfl, rfl, rfl, trivial⟩ ?_
  exact K _ _ _ _ I2
set_option maxRecDepth 100000 in
set_option maxHeartbeats 4000000 in
theorem law_vector {E : gEnv} {F : gFr} {Q : State → Prop} {n : Nat} {h : gH} {b Ls kc ks : Nat} {xs : Nat → Int32} {x m q i : Nat} {T : gTt} {c0 : Int} {fo : Int → Int64} (C : gC E F mL_law) (hX : va_X b Ls xs F.2.2.1 F.2.2.1.heap) (hbl : b < F.2.2.1.heap.size) (hbA : ¬ gA E b) (hl : E.1.stackTraces = false) (hLs : Ls ≤ 2560) (hi5 : i + 5 ≤ Ls) (hkc : kc + 5 ≤ 601899) (hks : ks + 30 ≤ 7290406) (I : lwS E n h x m q T c0 fo) (K : ∀ (h9 : gH) (T9 : gTt) (c9 : Int) (fo9 : Int → Int64), lwS E n h9 x m q T9 c9 fo9 → G E F mL_law Q n none h9 (kc + 5) (ks + 30) 1517 [(4, .int (gi (i : Int))), (3, .ref q), (2, .ref m), (1, .ref x), (0, .ref b)] []) : G E F mL_law Q n none h kc ks 926 [(4, .int (gi (i : Int))), (3, .ref q), (2, .ref m), (1, .ref x), (0, .ref b)] [] := by
  obtain ⟨hxb, hmb, hqb, hxm, hmq, hJ, hM, hA, hfo⟩ := I
  have hok := hA.1
  have hI := hA.2.1
  have j1 := hJ.1
  unfold isJo at j1
  refine g_aload_n 927 C dL_law_926 rfl rfl ?_
  refine g_aload_n 928 C dL_law_927 rfl rfl ?_
  refine g_iload 930 C dL_law_928 rfl rfl ?_
  refine g_iconst 931 C dL_law_930 rfl ?_
  refine g_iadd 932 C dL_law_931 rfl ?_
  refine g_xld 933 C hX hbl hbA dL_law_932 (by omega) (by omega) rfl ?_
  refine g_aload_n 934 C dL_law_933 rfl rfl ?_
  refine g_iload 936 C dL_law_934 rfl rfl ?_
  refine g_iconst 937 C dL_law_936 rfl ?_
  refine g_iadd 938 C dL_law_937 rfl ?_
  refine g_xld 939 C hX hbl hbA dL_law_938 (by omega) (by omega) rfl ?_
  refine g_aload_n 940 C dL_law_939 rfl rfl ?_
  refine g_iload 942 C dL_law_940 rfl rfl ?_
  refine g_iconst 943 C dL_law_942 rfl ?_
  refine g_iadd 944 C dL_law_943 rfl ?_
  refine g_xld 945 C hX hbl hbA dL_law_944 (by omega) (by omega) rfl ?_
  refine g_aload_n 946 C dL_law_945 rfl rfl ?_
  refine g_callSW (np := 5) (hh := [(0, 12, 15, 13)]) (tc := mL_vector) (As := [.ref x, .int (gi (sX xs ((i : Int) + 1))), .int (gi (sX xs ((i : Int) + 2))), .int (gi (sX xs ((i : Int) + 3))), .ref q]) (rest := []) 949 C dL_law_946 rfl (wsG_of 704 (by decide +kernel) rfl) gii_RL gcd_L_vector ⟨by decide, by decide, by decide +kernel⟩ gs_L_vector rfl ⟨⟨by decide, by decide⟩, (show kc + 3 ≤ 601899 by omega), (show ks + 18 ≤ 7290406 by omega)⟩ (Nat.le_of_ble_eq_true rfl) rfl (c_L_vector x q T (sX xs ((i : Int) + 1)) (sX xs ((i : Int) + 2)) (sX xs ((i : Int) + 3)) fo hl hxb hqb (by omega) hJ hok hfo (sX_r _ _) (sX_r _ _) (sX_r _ _)) g_no (fun v8 n8 σ8 h1 hq8 => ?_)
  obtain ⟨rfl, rfl, rfl, eJ, ⟨fo1, hf1, hf1e⟩, eK⟩ := hq8
  refine g_wid (kc2 := kc + 5) (ks2 := ks + 30) (show kc + 3 ≤ kc + 5 by omega) (show ks + 18 ≤ ks + 30 by omega) ?_
  have hM1 : isM E h1 m T c0 := hM.kept (fun q9 z1 z2 => eK q9 (by omega) (by omega))
  obtain ⟨g1, hs1, f1, fp1, X1, -⟩ := id hM1
  have m1 := X1.1
  unfold isMo at m1
  have hcr : -2147483648 ≤ (oVector T (sX xs ((i : Int) + 1)) (sX xs ((i : Int) + 2)) (sX xs ((i : Int) + 3))).1 ∧ (oVector T (sX xs ((i : Int) + 1)) (sX xs ((i : Int) + 2)) (sX xs ((i : Int) + 3))).1 < 2147483648 := by rcases oVector_c T (sX xs ((i : Int) + 1)) (sX xs ((i : Int) + 2)) (sX xs ((i : Int) + 3)) with e | e <;> rw [e] <;> decide
  refine g_istore 951 [(5, _), (4, _), (3, _), (2, _), (1, _), (0, _)] C dL_law_949 (by decide) rfl rfl ?_
  refine g_aload_n 952 C dL_law_951 rfl rfl ?_
  refine g_aload_n 953 C dL_law_952 rfl rfl ?_
  refine g_iload 955 C dL_law_953 rfl rfl ?_
  refine g_iconst 956 C dL_law_955 rfl ?_
  refine g_iadd 957 C dL_law_956 rfl ?_
  refine g_xld 958 C hX hbl hbA dL_law_957 (by omega) (by omega) rfl ?_
  refine g_aload_n 959 C dL_law_958 rfl rfl ?_
  refine g_iload 961 C dL_law_959 rfl rfl ?_
  refine g_iconst 962 C dL_law_961 rfl ?_
  refine g_iadd 963 C dL_law_962 rfl ?_
  refine g_xld 964 C hX hbl hbA dL_law_963 (by omega) (by omega) rfl ?_
  refine g_aload_n 965 C dL_law_964 rfl rfl ?_
  refine g_iload 967 C dL_law_965 rfl rfl ?_
  refine g_iconst 968 C dL_law_967 rfl ?_
  refine g_iadd 969 C dL_law_968 rfl ?_
  refine g_xld 970 C hX hbl hbA dL_law_969 (by omega) (by omega) rfl ?_
  refine g_V3r 973 (kc + 5) (ks + 30) C dL_law_970 rfl lk_RL_131 gi_X5_vector gv_X5_vector ⟨_, _, rfl⟩ (by omega) m1 ⟨⟨by decide, by decide⟩, (show kc + 5 + 0 ≤ 601899 by omega), (show ks + 30 + 0 ≤ 7290406 by omega)⟩ (Nat.le_of_ble_eq_true rfl) rfl rfl rfl (c_X5_vector m T c0 (sX xs ((i : Int) + 1)) (sX xs ((i : Int) + 2)) (sX xs ((i : Int) + 3)) hmb hM1 hok hI (sX_r _ _) (sX_r _ _) (sX_r _ _)) g_no (fun h2 hq2 => ?_)
  obtain ⟨hM2, k2⟩ := hq2
  obtain ⟨g2, hs2, f2, fp2, X2, g26⟩ := id hM2
  have m2 := X2.1
  unfold isMo at m2
  have hf2 : h2 q = gJ E 1 fo1 := (k2 q (by omega)).trans hf1
  have I2 : lwS E n8 h2 x m q (oVector T (sX xs ((i : Int) + 1)) (sX xs ((i : Int) + 2)) (sX xs ((i : Int) + 3))).2.2 (oVector T (sX xs ((i : Int) + 1)) (sX xs ((i : Int) + 2)) (sX xs ((i : Int) + 3))).1 fo1 := ⟨hxb, hmb, hqb, hxm, hmq, eJ.kept (fun q9 z1 z2 => k2 q9 (by omega)), hM2, okA_vector hA, hf2⟩
  refine g_istore 975 [(6, _), (5, _), (4, _), (3, _), (2, _), (1, _), (0, _)] C dL_law_973 (by decide) rfl rfl ?_
  refine g_aload_n 976 C dL_law_975 rfl rfl ?_
  refine g_V0r 979 (kc + 5) (ks + 30) C dL_law_976 rfl lk_RL_84 gi_X5_thrown gv_X5_thrown ⟨_, _, rfl⟩ (by omega) m2 ⟨⟨by decide, by decide⟩, (show kc + 5 + 0 ≤ 601899 by omega), (show ks + 30 + 0 ≤ 7290406 by omega)⟩ (Nat.le_of_ble_eq_true rfl) rfl rfl rfl (c_X5_thrown m g2 hs2 (by omega) X2.1) g_no (fun h3 e3 => ?_)
  subst e3
  rw [g26]
  refine g_iload 981 C dL_law_979 rfl rfl ?_
  refine g_icmp_eq 986 984 C dL_law_981 rfl rfl hcr hcr (fun _ => ?_) (fun z => absurd rfl z)
  refine g_iload 988 C dL_law_986 rfl rfl ?_
  refine g_if_ne 1003 991 C dL_law_988 rfl rfl hcr (fun _ => ?_) (fun z0 => ?_)
  · refine g_goto 1517 C dL_law_1003 rfl ?_
    refine g_loc [(4, .int (gi (i : Int))), (3, .ref q), (2, .ref m), (1, .ref x), (0, .ref b)] ⟨rfl, rfl, rfl, rfl, rfl, trivial⟩ ?_
    exact K _ _ _ _ I2
  refine g_aload_n 992 C dL_law_991 rfl rfl ?_
  refine g_iconst 993 C dL_law_992 rfl ?_
  refine g_lald 994 C dL_law_993 (by omega) hf2 (by decide) (by decide) rfl ?_
  rw [hf1e z0]
  refine g_iload 996 C dL_law_994 rfl rfl ?_
  refine g_i2l 997 C dL_law_996 rfl ?_
  refine g_lcmp 998 C dL_law_997 rfl ?_
  rw [lg_cmp_s]
  refine g_if_eq 1003 1001 C dL_law_998 rfl rfl (by decide) (fun _ => ?_) (fun z => absurd rfl z)
  refine g_goto 1517 C dL_law_1003 rfl ?_
  refine g_loc [(4, .int (gi (i : Int))), (3, .ref q), (2, .ref m), (1, .ref x), (0, .ref b)] ⟨rfl, rfl, rfl, rfl, rfl, trivial⟩ ?_
  exact K _ _ _ _ I2
set_option maxRecDepth 100000 in
set_option maxHeartbeats 4000000 in
theorem law_knows {E : gEnv} {F : gFr} {Q : State → Prop} {n : Nat} {h : gH} {b Ls kc ks : Nat} {xs : Nat → Int32} {x m q i : Nat} {T : gTt} {c0 : Int} {fo : Int → Int64} (C : gC E F mL_law) (hX : va_X b Ls xs F.2.2.1 F.2.2.1.heap) (hbl : b < F.2.2.1.heap.size) (hbA : ¬ gA E b) (hl : E.1.stackTraces = false) (hLs : Ls ≤ 2560) (hi5 : i + 5 ≤ Ls) (hkc : kc + 5 ≤ 601899) (hks : ks + 30 ≤ 7290406) (I : lwS E n h x m q T c0 fo) (K : ∀ (h9 : gH) (T9 : gTt) (c9 : Int) (fo9 : Int → Int64), lwS E n h9 x m q T9 c9 fo9 → G E F mL_law Q n none h9 (kc + 5) (ks + 30) 1517 [(4, .int (gi (i : Int))), (3, .ref q), (2, .ref m), (1, .ref x), (0, .ref b)] []) : G E F mL_law Q n none h kc ks 1006 [(4, .int (gi (i : Int))), (3, .ref q), (2, .ref m), (1, .ref x), (0, .ref b)] [] := by
  obtain ⟨hxb, hmb, hqb, hxm, hmq, hJ, hM, hA, hfo⟩ := I
  have hok := hA.1
  have hI := hA.2.1
  have j1 := hJ.1
  unfold isJo at j1
  refine g_aload_n 1007 C dL_law_1006 rfl rfl ?_
  refine g_aload_n 1008 C dL_law_1007 rfl rfl ?_
  refine g_iload 1010 C dL_law_1008 rfl rfl ?_
  refine g_iconst 1011 C dL_law_1010 rfl ?_
  refine g_iadd 1012 C dL_law_1011 rfl ?_
  refine g_xld 1013 C hX hbl hbA dL_law_1012 (by omega) (by omega) rfl ?_
  refine g_aload_n 1014 C dL_law_1013 rfl rfl ?_
  refine g_iload 1016 C dL_law_1014 rfl rfl ?_
  refine g_iconst 1017 C dL_law_1016 rfl ?_
  refine g_iadd 1018 C dL_law_1017 rfl ?_
  refine g_xld 1019 C hX hbl hbA dL_law_1018 (by omega) (by omega) rfl ?_
  refine g_aload_n 1020 C dL_law_1019 rfl rfl ?_
  refine g_iload 1022 C dL_law_1020 rfl rfl ?_
  refine g_iconst 1023 C dL_law_1022 rfl ?_
  refine g_iadd 1024 C dL_law_1023 rfl ?_
  refine g_xld 1025 C hX hbl hbA dL_law_1024 (by omega) (by omega) rfl ?_
  refine g_aload_n 1026 C dL_law_1025 rfl rfl ?_
  refine g_callSW (np := 5) (hh := [(0, 12, 15, 13)]) (tc := mL_knows) (As := [.ref x, .int (gi (sX xs ((i : Int) + 1))), .int (gi (sX xs ((i : Int) + 2))), .int (gi (sX xs ((i : Int) + 3))), .ref q]) (rest := []) 1029 C dL_law_1026 rfl (wsG_of 711 (by decide +kernel) rfl) gii_RL gcd_L_knows ⟨by decide, by decide, by decide +kernel⟩ gs_L_knows rfl ⟨⟨by decide, by decide⟩, (show kc + 3 ≤ 601899 by omega), (show ks + 18 ≤ 7290406 by omega)⟩ (Nat.le_of_ble_eq_true rfl) rfl (c_L_knows x q T (sX xs ((i : Int) + 1)) (sX xs ((i : Int) + 2)) (sX xs ((i : Int) + 3)) fo hl hxb hqb (by omega) hJ hok hfo (sX_r _ _) (sX_r _ _) (sX_r _ _)) g_no (fun v8 n8 σ8 h1 hq8 => ?_)
  obtain ⟨rfl, rfl, rfl, eJ, ⟨fo1, hf1, hf1e⟩, eK⟩ := hq8
  refine g_wid (kc2 := kc + 5) (ks2 := ks + 30) (show kc + 3 ≤ kc + 5 by omega) (show ks + 18 ≤ ks + 30 by omega) ?_
  have hM1 : isM E h1 m T c0 := hM.kept (fun q9 z1 z2 => eK q9 (by omega) (by omega))
  obtain ⟨g1, hs1, f1, fp1, X1, -⟩ := id hM1
  have m1 := X1.1
  unfold isMo at m1
  have hcr : -2147483648 ≤ (oKnows T (sX xs ((i : Int) + 1)) (sX xs ((i : Int) + 2)) (sX xs ((i : Int) + 3))).1 ∧ (oKnows T (sX xs ((i : Int) + 1)) (sX xs ((i : Int) + 2)) (sX xs ((i : Int) + 3))).1 < 2147483648 := by rcases oKnows_c T (sX xs ((i : Int) + 1)) (sX xs ((i : Int) + 2)) (sX xs ((i : Int) + 3)) with e | e <;> rw [e] <;> decide
  refine g_istore 1031 [(5, _), (4, _), (3, _), (2, _), (1, _), (0, _)] C dL_law_1029 (by decide) rfl rfl ?_
  refine g_aload_n 1032 C dL_law_1031 rfl rfl ?_
  refine g_aload_n 1033 C dL_law_1032 rfl rfl ?_
  refine g_iload 1035 C dL_law_1033 rfl rfl ?_
  refine g_iconst 1036 C dL_law_1035 rfl ?_
  refine g_iadd 1037 C dL_law_1036 rfl ?_
  refine g_xld 1038 C hX hbl hbA dL_law_1037 (by omega) (by omega) rfl ?_
  refine g_aload_n 1039 C dL_law_1038 rfl rfl ?_
  refine g_iload 1041 C dL_law_1039 rfl rfl ?_
  refine g_iconst 1042 C dL_law_1041 rfl ?_
  refine g_iadd 1043 C dL_law_1042 rfl ?_
  refine g_xld 1044 C hX hbl hbA dL_law_1043 (by omega) (by omega) rfl ?_
  refine g_aload_n 1045 C dL_law_1044 rfl rfl ?_
  refine g_iload 1047 C dL_law_1045 rfl rfl ?_
  refine g_iconst 1048 C dL_law_1047 rfl ?_
  refine g_iadd 1049 C dL_law_1048 rfl ?_
  refine g_xld 1050 C hX hbl hbA dL_law_1049 (by omega) (by omega) rfl ?_
  refine g_V3r 1053 (kc + 5) (ks + 30) C dL_law_1050 rfl lk_RL_134 gi_X5_knows gv_X5_knows ⟨_, _, rfl⟩ (by omega) m1 ⟨⟨by decide, by decide⟩, (show kc + 5 + 0 ≤ 601899 by omega), (show ks + 30 + 0 ≤ 7290406 by omega)⟩ (Nat.le_of_ble_eq_true rfl) rfl rfl rfl (c_X5_knows m T c0 (sX xs ((i : Int) + 1)) (sX xs ((i : Int) + 2)) (sX xs ((i : Int) + 3)) hmb hM1 hok hI (sX_r _ _) (sX_r _ _) (sX_r _ _)) g_no (fun h2 hq2 => ?_)
  obtain ⟨hM2, k2⟩ := hq2
  obtain ⟨g2, hs2, f2, fp2, X2, g26⟩ := id hM2
  have m2 := X2.1
  unfold isMo at m2
  have hf2 : h2 q = gJ E 1 fo1 := (k2 q (by omega)).trans hf1
  have I2 : lwS E n8 h2 x m q (oKnows T (sX xs ((i : Int) + 1)) (sX xs ((i : Int) + 2)) (sX xs ((i : Int) + 3))).2.2 (oKnows T (sX xs ((i : Int) + 1)) (sX xs ((i : Int) + 2)) (sX xs ((i : Int) + 3))).1 fo1 := ⟨hxb, hmb, hqb, hxm, hmq, eJ.kept (fun q9 z1 z2 => k2 q9 (by omega)), hM2, okA_knows hA, hf2⟩
  refine g_istore 1055 [(6, _), (5, _), (4, _), (3, _), (2, _), (1, _), (0, _)] C dL_law_1053 (by decide) rfl rfl ?_
  refine g_aload_n 1056 C dL_law_1055 rfl rfl ?_
  refine g_V0r 1059 (kc + 5) (ks + 30) C dL_law_1056 rfl lk_RL_84 gi_X5_thrown gv_X5_thrown ⟨_, _, rfl⟩ (by omega) m2 ⟨⟨by decide, by decide⟩, (show kc + 5 + 0 ≤ 601899 by omega), (show ks + 30 + 0 ≤ 7290406 by omega)⟩ (Nat.le_of_ble_eq_true rfl) rfl rfl rfl (c_X5_thrown m g2 hs2 (by omega) X2.1) g_no (fun h3 e3 => ?_)
  subst e3
  rw [g26]
  refine g_iload 1061 C dL_law_1059 rfl rfl ?_
  refine g_icmp_eq 1066 1064 C dL_law_1061 rfl rfl hcr hcr (fun _ => ?_) (fun z => absurd rfl z)
  refine g_iload 1068 C dL_law_1066 rfl rfl ?_
  refine g_if_ne 1083 1071 C dL_law_1068 rfl rfl hcr (fun _ => ?_) (fun z0 => ?_)
  · refine g_goto 1517 C dL_law_1083 rfl ?_
    refine g_loc [(4, .int (gi (i : Int))), (3, .ref q), (2, .ref m), (1, .ref x), (0, .ref b)] ⟨rfl, rfl, rfl, rfl, rfl, trivial⟩ ?_
    exact K _ _ _ _ I2
  refine g_aload_n 1072 C dL_law_1071 rfl rfl ?_
  refine g_iconst 1073 C dL_law_1072 rfl ?_
  refine g_lald 1074 C dL_law_1073 (by omega) hf2 (by decide) (by decide) rfl ?_
  rw [hf1e z0]
  refine g_iload 1076 C dL_law_1074 rfl rfl ?_
  refine g_i2l 1077 C dL_law_1076 rfl ?_
  refine g_lcmp 1078 C dL_law_1077 rfl ?_
  rw [lg_cmp_s]
  refine g_if_eq 1083 1081 C dL_law_1078 rfl rfl (by decide) (fun _ => ?_) (fun z => absurd rfl z)
  refine g_goto 1517 C dL_law_1083 rfl ?_
  refine g_loc [(4, .int (gi (i : Int))), (3, .ref q), (2, .ref m), (1, .ref x), (0, .ref b)] ⟨rfl, rfl, rfl, rfl, rfl, trivial⟩ ?_
  exact K _ _ _ _ I2
set_option maxRecDepth 100000 in
set_option maxHeartbeats 4000000 in
theorem law_key {E : gEnv} {F : gFr} {Q : State → Prop} {n : Nat} {h : gH} {b Ls kc ks : Nat} {xs : Nat → Int32} {x m q i : Nat} {T : gTt} {c0 : Int} {fo : Int → Int64} (C : gC E F mL_law) (hX : va_X b Ls xs F.2.2.1 F.2.2.1.heap) (hbl : b < F.2.2.1.heap.size) (hbA : ¬ gA E b) (hl : E.1.stackTraces = false) (hLs : Ls ≤ 2560) (hi5 : i + 5 ≤ Ls) (hkc : kc + 5 ≤ 601899) (hks : ks + 30 ≤ 7290406) (I : lwS E n h x m q T c0 fo) (K : ∀ (h9 : gH) (T9 : gTt) (c9 : Int) (fo9 : Int → Int64), lwS E n h9 x m q T9 c9 fo9 → G E F mL_law Q n none h9 (kc + 5) (ks + 30) 1517 [(4, .int (gi (i : Int))), (3, .ref q), (2, .ref m), (1, .ref x), (0, .ref b)] []) : G E F mL_law Q n none h kc ks 1086 [(4, .int (gi (i : Int))), (3, .ref q), (2, .ref m), (1, .ref x), (0, .ref b)] [] := by
  obtain ⟨hxb, hmb, hqb, hxm, hmq, hJ, hM, hA, hfo⟩ := I
  have hok := hA.1
  have hI := hA.2.1
  have j1 := hJ.1
  unfold isJo at j1
  refine g_aload_n 1087 C dL_law_1086 rfl rfl ?_
  refine g_aload_n 1088 C dL_law_1087 rfl rfl ?_
  refine g_iload 1090 C dL_law_1088 rfl rfl ?_
  refine g_iconst 1091 C dL_law_1090 rfl ?_
  refine g_iadd 1092 C dL_law_1091 rfl ?_
  refine g_xld 1093 C hX hbl hbA dL_law_1092 (by omega) (by omega) rfl ?_
  refine g_aload_n 1094 C dL_law_1093 rfl rfl ?_
  refine g_iload 1096 C dL_law_1094 rfl rfl ?_
  refine g_iconst 1097 C dL_law_1096 rfl ?_
  refine g_iadd 1098 C dL_law_1097 rfl ?_
  refine g_xld 1099 C hX hbl hbA dL_law_1098 (by omega) (by omega) rfl ?_
  refine g_aload_n 1100 C dL_law_1099 rfl rfl ?_
  refine g_callSW (np := 4) (hh := [(0, 10, 13, 13), (0, 10, 17, 19)]) (tc := mL_key) (As := [.ref x, .int (gi (sX xs ((i : Int) + 1))), .int (gi (sX xs ((i : Int) + 2))), .ref q]) (rest := []) 1103 C dL_law_1100 rfl (wsG_of 718 (by decide +kernel) rfl) gii_RL gcd_L_key ⟨by decide, by decide, by decide +kernel⟩ gs_L_key rfl ⟨⟨by decide, by decide⟩, (show kc + 2 ≤ 601899 by omega), (show ks + 12 ≤ 7290406 by omega)⟩ (Nat.le_of_ble_eq_true rfl) rfl (c_L_key x q T (sX xs ((i : Int) + 1)) (sX xs ((i : Int) + 2)) fo hl hxb hqb (by omega) hJ hok hfo (sX_r _ _) (sX_r _ _)) g_no (fun v8 n8 σ8 h1 hq8 => ?_)
  obtain ⟨rfl, rfl, rfl, eJ, ⟨fo1, hf1, hf1e⟩, eK⟩ := hq8
  refine g_wid (kc2 := kc + 5) (ks2 := ks + 30) (show kc + 2 ≤ kc + 5 by omega) (show ks + 12 ≤ ks + 30 by omega) ?_
  have hM1 : isM E h1 m T c0 := hM.kept (fun q9 z1 z2 => eK q9 (by omega) (by omega))
  obtain ⟨g1, hs1, f1, fp1, X1, -⟩ := id hM1
  have m1 := X1.1
  unfold isMo at m1
  have hcr : -2147483648 ≤ (oKey T (sX xs ((i : Int) + 1)) (sX xs ((i : Int) + 2))).1 ∧ (oKey T (sX xs ((i : Int) + 1)) (sX xs ((i : Int) + 2))).1 < 2147483648 := by rcases oKey_c T (sX xs ((i : Int) + 1)) (sX xs ((i : Int) + 2)) with e | e | e <;> rw [e] <;> decide
  refine g_istore 1105 [(5, _), (4, _), (3, _), (2, _), (1, _), (0, _)] C dL_law_1103 (by decide) rfl rfl ?_
  refine g_aload_n 1106 C dL_law_1105 rfl rfl ?_
  refine g_aload_n 1107 C dL_law_1106 rfl rfl ?_
  refine g_iload 1109 C dL_law_1107 rfl rfl ?_
  refine g_iconst 1110 C dL_law_1109 rfl ?_
  refine g_iadd 1111 C dL_law_1110 rfl ?_
  refine g_xld 1112 C hX hbl hbA dL_law_1111 (by omega) (by omega) rfl ?_
  refine g_aload_n 1113 C dL_law_1112 rfl rfl ?_
  refine g_iload 1115 C dL_law_1113 rfl rfl ?_
  refine g_iconst 1116 C dL_law_1115 rfl ?_
  refine g_iadd 1117 C dL_law_1116 rfl ?_
  refine g_xld 1118 C hX hbl hbA dL_law_1117 (by omega) (by omega) rfl ?_
  refine g_V2r 1121 (kc + 5) (ks + 30) C dL_law_1118 rfl lk_RL_137 gi_X5_key gv_X5_key ⟨_, _, rfl⟩ (by omega) m1 ⟨⟨by decide, by decide⟩, (show kc + 5 + 0 ≤ 601899 by omega), (show ks + 30 + 0 ≤ 7290406 by omega)⟩ (Nat.le_of_ble_eq_true rfl) rfl rfl rfl (c_X5_key m T c0 (sX xs ((i : Int) + 1)) (sX xs ((i : Int) + 2)) hmb hM1 hok hI (sX_r _ _) (sX_r _ _)) g_no (fun h2 hq2 => ?_)
  obtain ⟨hM2, k2⟩ := hq2
  obtain ⟨g2, hs2, f2, fp2, X2, g26⟩ := id hM2
  have m2 := X2.1
  unfold isMo at m2
  have hf2 : h2 q = gJ E 1 fo1 := (k2 q (by omega)).trans hf1
  have I2 : lwS E n8 h2 x m q (oKey T (sX xs ((i : Int) + 1)) (sX xs ((i : Int) + 2))).2.2 (oKey T (sX xs ((i : Int) + 1)) (sX xs ((i : Int) + 2))).1 fo1 := ⟨hxb, hmb, hqb, hxm, hmq, eJ.kept (fun q9 z1 z2 => k2 q9 (by omega)), hM2, okA_key hA, hf2⟩
  refine g_istore 1123 [(6, _), (5, _), (4, _), (3, _), (2, _), (1, _), (0, _)] C dL_law_1121 (by decide) rfl rfl ?_
  refine g_aload_n 1124 C dL_law_1123 rfl rfl ?_
  refine g_V0r 1127 (kc + 5) (ks + 30) C dL_law_1124 rfl lk_RL_84 gi_X5_thrown gv_X5_thrown ⟨_, _, rfl⟩ (by omega) m2 ⟨⟨by decide, by decide⟩, (show kc + 5 + 0 ≤ 601899 by omega), (show ks + 30 + 0 ≤ 7290406 by omega)⟩ (Nat.le_of_ble_eq_true rfl) rfl rfl rfl (c_X5_thrown m g2 hs2 (by omega) X2.1) g_no (fun h3 e3 => ?_)
  subst e3
  rw [g26]
  refine g_iload 1129 C dL_law_1127 rfl rfl ?_
  refine g_icmp_eq 1134 1132 C dL_law_1129 rfl rfl hcr hcr (fun _ => ?_) (fun z => absurd rfl z)
  refine g_iload 1136 C dL_law_1134 rfl rfl ?_
  refine g_if_ne 1151 1139 C dL_law_1136 rfl rfl hcr (fun _ => ?_) (fun z0 => ?_)
  · refine g_goto 1517 C dL_law_1151 rfl ?_
    refine g_loc [(4, .int (gi (i : Int))), (3, .ref q), (2, .ref m), (1, .ref x), (0, .ref b)] ⟨rfl, rfl, rfl, rfl, rfl, trivial⟩ ?_
    exact K _ _ _ _ I2
  refine g_aload_n 1140 C dL_law_1139 rfl rfl ?_
  refine g_iconst 1141 C dL_law_1140 rfl ?_
  refine g_lald 1142 C dL_law_1141 (by omega) hf2 (by decide) (by decide) rfl ?_
  rw [hf1e z0]
  refine g_iload 1144 C dL_law_1142 rfl rfl ?_
  refine g_i2l 1145 C dL_law_1144 rfl ?_
  refine g_lcmp 1146 C dL_law_1145 rfl ?_
  rw [lg_cmp_s]
  refine g_if_eq 1151 1149 C dL_law_1146 rfl rfl (by decide) (fun _ => ?_) (fun z => absurd rfl z)
  refine g_goto 1517 C dL_law_1151 rfl ?_
  refine g_loc [(4, .int (gi (i : Int))), (3, .ref q), (2, .ref m), (1, .ref x), (0, .ref b)] ⟨rfl, rfl, rfl, rfl, rfl, trivial⟩ ?_
  exact K _ _ _ _ I2
set_option maxRecDepth 100000 in
set_option maxHeartbeats 4000000 in
theorem law_count {E : gEnv} {F : gFr} {Q : State → Prop} {n : Nat} {h : gH} {b Ls kc ks : Nat} {xs : Nat → Int32} {x m q i : Nat} {T : gTt} {c0 : Int} {fo : Int → Int64} (C : gC E F mL_law) (hX : va_X b Ls xs F.2.2.1 F.2.2.1.heap) (hbl : b < F.2.2.1.heap.size) (hbA : ¬ gA E b) (hl : E.1.stackTraces = false) (hLs : Ls ≤ 2560) (hi5 : i + 5 ≤ Ls) (hkc : kc + 5 ≤ 601899) (hks : ks + 30 ≤ 7290406) (I : lwS E n h x m q T c0 fo) (K : ∀ (h9 : gH) (T9 : gTt) (c9 : Int) (fo9 : Int → Int64), lwS E n h9 x m q T9 c9 fo9 → G E F mL_law Q n none h9 (kc + 5) (ks + 30) 1517 [(4, .int (gi (i : Int))), (3, .ref q), (2, .ref m), (1, .ref x), (0, .ref b)] []) : G E F mL_law Q n none h kc ks 1154 [(4, .int (gi (i : Int))), (3, .ref q), (2, .ref m), (1, .ref x), (0, .ref b)] [] := by
  obtain ⟨hxb, hmb, hqb, hxm, hmq, hJ, hM, hA, hfo⟩ := I
  have hok := hA.1
  have hI := hA.2.1
  have j1 := hJ.1
  unfold isJo at j1
  refine g_aload_n 1155 C dL_law_1154 rfl rfl ?_
  refine g_aload_n 1156 C dL_law_1155 rfl rfl ?_
  refine g_iload 1158 C dL_law_1156 rfl rfl ?_
  refine g_iconst 1159 C dL_law_1158 rfl ?_
  refine g_iadd 1160 C dL_law_1159 rfl ?_
  refine g_xld 1161 C hX hbl hbA dL_law_1160 (by omega) (by omega) rfl ?_
  refine g_aload_n 1162 C dL_law_1161 rfl rfl ?_
  refine g_callSW (np := 3) (hh := [(0, 9, 12, 19)]) (tc := mL_count) (As := [.ref x, .int (gi (sX xs ((i : Int) + 1))), .ref q]) (rest := []) 1165 C dL_law_1162 rfl (wsG_of 725 (by decide +kernel) rfl) gii_RL gcd_L_count ⟨by decide, by decide, by decide +kernel⟩ gs_L_count rfl ⟨⟨by decide, by decide⟩, (show kc + 1 ≤ 601899 by omega), (show ks + 6 ≤ 7290406 by omega)⟩ (Nat.le_of_ble_eq_true rfl) rfl (c_L_count x q T (sX xs ((i : Int) + 1)) fo hl hxb hqb (by omega) hJ hok hfo (sX_r _ _)) g_no (fun v8 n8 σ8 h1 hq8 => ?_)
  obtain ⟨rfl, rfl, rfl, eJ, ⟨fo1, hf1, hf1e⟩, eK⟩ := hq8
  refine g_wid (kc2 := kc + 5) (ks2 := ks + 30) (show kc + 1 ≤ kc + 5 by omega) (show ks + 6 ≤ ks + 30 by omega) ?_
  have hM1 : isM E h1 m T c0 := hM.kept (fun q9 z1 z2 => eK q9 (by omega) (by omega))
  obtain ⟨g1, hs1, f1, fp1, X1, -⟩ := id hM1
  have m1 := X1.1
  unfold isMo at m1
  have hcr : -2147483648 ≤ (oCount T (sX xs ((i : Int) + 1))).1 ∧ (oCount T (sX xs ((i : Int) + 1))).1 < 2147483648 := by rcases oCount_c T (sX xs ((i : Int) + 1)) with e | e <;> rw [e] <;> decide
  refine g_istore 1167 [(5, _), (4, _), (3, _), (2, _), (1, _), (0, _)] C dL_law_1165 (by decide) rfl rfl ?_
  refine g_aload_n 1168 C dL_law_1167 rfl rfl ?_
  refine g_aload_n 1169 C dL_law_1168 rfl rfl ?_
  refine g_iload 1171 C dL_law_1169 rfl rfl ?_
  refine g_iconst 1172 C dL_law_1171 rfl ?_
  refine g_iadd 1173 C dL_law_1172 rfl ?_
  refine g_xld 1174 C hX hbl hbA dL_law_1173 (by omega) (by omega) rfl ?_
  refine g_V1r 1177 (kc + 5) (ks + 30) C dL_law_1174 rfl lk_RL_140 gi_X5_count gv_X5_count ⟨_, _, rfl⟩ (by omega) m1 ⟨⟨by decide, by decide⟩, (show kc + 5 + 0 ≤ 601899 by omega), (show ks + 30 + 0 ≤ 7290406 by omega)⟩ (Nat.le_of_ble_eq_true rfl) rfl rfl rfl (c_X5_count m T c0 (sX xs ((i : Int) + 1)) hmb hM1 hok hI (sX_r _ _)) g_no (fun h2 hq2 => ?_)
  obtain ⟨hM2, k2⟩ := hq2
  obtain ⟨g2, hs2, f2, fp2, X2, g26⟩ := id hM2
  have m2 := X2.1
  unfold isMo at m2
  have hf2 : h2 q = gJ E 1 fo1 := (k2 q (by omega)).trans hf1
  have I2 : lwS E n8 h2 x m q (oCount T (sX xs ((i : Int) + 1))).2.2 (oCount T (sX xs ((i : Int) + 1))).1 fo1 := ⟨hxb, hmb, hqb, hxm, hmq, eJ.kept (fun q9 z1 z2 => k2 q9 (by omega)), hM2, okA_count hA, hf2⟩
  refine g_istore 1179 [(6, _), (5, _), (4, _), (3, _), (2, _), (1, _), (0, _)] C dL_law_1177 (by decide) rfl rfl ?_
  refine g_aload_n 1180 C dL_law_1179 rfl rfl ?_
  refine g_V0r 1183 (kc + 5) (ks + 30) C dL_law_1180 rfl lk_RL_84 gi_X5_thrown gv_X5_thrown ⟨_, _, rfl⟩ (by omega) m2 ⟨⟨by decide, by decide⟩, (show kc + 5 + 0 ≤ 601899 by omega), (show ks + 30 + 0 ≤ 7290406 by omega)⟩ (Nat.le_of_ble_eq_true rfl) rfl rfl rfl (c_X5_thrown m g2 hs2 (by omega) X2.1) g_no (fun h3 e3 => ?_)
  subst e3
  rw [g26]
  refine g_iload 1185 C dL_law_1183 rfl rfl ?_
  refine g_icmp_eq 1190 1188 C dL_law_1185 rfl rfl hcr hcr (fun _ => ?_) (fun z => absurd rfl z)
  refine g_iload 1192 C dL_law_1190 rfl rfl ?_
  refine g_if_ne 1207 1195 C dL_law_1192 rfl rfl hcr (fun _ => ?_) (fun z0 => ?_)
  · refine g_goto 1517 C dL_law_1207 rfl ?_
    refine g_loc [(4, .int (gi (i : Int))), (3, .ref q), (2, .ref m), (1, .ref x), (0, .ref b)] ⟨rfl, rfl, rfl, rfl, rfl, trivial⟩ ?_
    exact K _ _ _ _ I2
  refine g_aload_n 1196 C dL_law_1195 rfl rfl ?_
  refine g_iconst 1197 C dL_law_1196 rfl ?_
  refine g_lald 1198 C dL_law_1197 (by omega) hf2 (by decide) (by decide) rfl ?_
  rw [hf1e z0]
  refine g_iload 1200 C dL_law_1198 rfl rfl ?_
  refine g_i2l 1201 C dL_law_1200 rfl ?_
  refine g_lcmp 1202 C dL_law_1201 rfl ?_
  rw [lg_cmp_s]
  refine g_if_eq 1207 1205 C dL_law_1202 rfl rfl (by decide) (fun _ => ?_) (fun z => absurd rfl z)
  refine g_goto 1517 C dL_law_1207 rfl ?_
  refine g_loc [(4, .int (gi (i : Int))), (3, .ref q), (2, .ref m), (1, .ref x), (0, .ref b)] ⟨rfl, rfl, rfl, rfl, rfl, trivial⟩ ?_
  exact K _ _ _ _ I2
set_option maxRecDepth 100000 in
set_option maxHeartbeats 4000000 in
theorem law_ifWritten {E : gEnv} {F : gFr} {Q : State → Prop} {n : Nat} {h : gH} {b Ls kc ks : Nat} {xs : Nat → Int32} {x m q i : Nat} {T : gTt} {c0 : Int} {fo : Int → Int64} (C : gC E F mL_law) (hX : va_X b Ls xs F.2.2.1 F.2.2.1.heap) (hbl : b < F.2.2.1.heap.size) (hbA : ¬ gA E b) (hl : E.1.stackTraces = false) (hLs : Ls ≤ 2560) (hi5 : i + 5 ≤ Ls) (hkc : kc + 5 ≤ 601899) (hks : ks + 30 ≤ 7290406) (I : lwS E n h x m q T c0 fo) (K : ∀ (h9 : gH) (T9 : gTt) (c9 : Int) (fo9 : Int → Int64), lwS E n h9 x m q T9 c9 fo9 → G E F mL_law Q n none h9 (kc + 5) (ks + 30) 1517 [(4, .int (gi (i : Int))), (3, .ref q), (2, .ref m), (1, .ref x), (0, .ref b)] []) : G E F mL_law Q n none h kc ks 1210 [(4, .int (gi (i : Int))), (3, .ref q), (2, .ref m), (1, .ref x), (0, .ref b)] [] := by
  obtain ⟨hxb, hmb, hqb, hxm, hmq, hJ, hM, hA, hfo⟩ := I
  have hok := hA.1
  have hI := hA.2.1
  have j1 := hJ.1
  unfold isJo at j1
  refine g_aload_n 1211 C dL_law_1210 rfl rfl ?_
  refine g_aload_n 1212 C dL_law_1211 rfl rfl ?_
  refine g_iload 1214 C dL_law_1212 rfl rfl ?_
  refine g_iconst 1215 C dL_law_1214 rfl ?_
  refine g_iadd 1216 C dL_law_1215 rfl ?_
  refine g_xld 1217 C hX hbl hbA dL_law_1216 (by omega) (by omega) rfl ?_
  refine g_aload_n 1218 C dL_law_1217 rfl rfl ?_
  refine g_iload 1220 C dL_law_1218 rfl rfl ?_
  refine g_iconst 1221 C dL_law_1220 rfl ?_
  refine g_iadd 1222 C dL_law_1221 rfl ?_
  refine g_xld 1223 C hX hbl hbA dL_law_1222 (by omega) (by omega) rfl ?_
  refine g_aload_n 1224 C dL_law_1223 rfl rfl ?_
  refine g_iload 1226 C dL_law_1224 rfl rfl ?_
  refine g_iconst 1227 C dL_law_1226 rfl ?_
  refine g_iadd 1228 C dL_law_1227 rfl ?_
  refine g_xld 1229 C hX hbl hbA dL_law_1228 (by omega) (by omega) rfl ?_
  refine g_aload_n 1230 C dL_law_1229 rfl rfl ?_
  refine g_iload 1232 C dL_law_1230 rfl rfl ?_
  refine g_iconst 1233 C dL_law_1232 rfl ?_
  refine g_iadd 1234 C dL_law_1233 rfl ?_
  refine g_xld 1235 C hX hbl hbA dL_law_1234 (by omega) (by omega) rfl ?_
  refine g_aload_n 1236 C dL_law_1235 rfl rfl ?_
  refine g_callSW (np := 6) (hh := [(0, 14, 17, 13), (0, 14, 21, 19)]) (tc := mL_ifWritten) (As := [.ref x, .int (gi (sX xs ((i : Int) + 1))), .int (gi (sX xs ((i : Int) + 2))), .int (gi (sX xs ((i : Int) + 3))), .int (gi (sX xs ((i : Int) + 4))), .ref q]) (rest := []) 1239 C dL_law_1236 rfl (wsG_of 732 (by decide +kernel) rfl) gii_RL gcd_L_ifWritten ⟨by decide, by decide, by decide +kernel⟩ gs_L_ifWritten rfl ⟨⟨by decide, by decide⟩, (show kc + 4 ≤ 601899 by omega), (show ks + 24 ≤ 7290406 by omega)⟩ (Nat.le_of_ble_eq_true rfl) rfl (c_L_ifWritten x q T (sX xs ((i : Int) + 1)) (sX xs ((i : Int) + 2)) (sX xs ((i : Int) + 3)) (sX xs ((i : Int) + 4)) fo hl hxb hqb (by omega) hJ hok hfo (sX_r _ _) (sX_r _ _) (sX_r _ _) (sX_r _ _)) g_no (fun v8 n8 σ8 h1 hq8 => ?_)
  obtain ⟨rfl, rfl, rfl, eJ, ⟨fo1, hf1, hf1e⟩, eK⟩ := hq8
  refine g_wid (kc2 := kc + 5) (ks2 := ks + 30) (show kc + 4 ≤ kc + 5 by omega) (show ks + 24 ≤ ks + 30 by omega) ?_
  have hM1 : isM E h1 m T c0 := hM.kept (fun q9 z1 z2 => eK q9 (by omega) (by omega))
  obtain ⟨g1, hs1, f1, fp1, X1, -⟩ := id hM1
  have m1 := X1.1
  unfold isMo at m1
  have hcr : -2147483648 ≤ (oIfW T (sX xs ((i : Int) + 1)) (sX xs ((i : Int) + 2)) (sX xs ((i : Int) + 3)) (sX xs ((i : Int) + 4))).1 ∧ (oIfW T (sX xs ((i : Int) + 1)) (sX xs ((i : Int) + 2)) (sX xs ((i : Int) + 3)) (sX xs ((i : Int) + 4))).1 < 2147483648 := by rcases oIfW_c T (sX xs ((i : Int) + 1)) (sX xs ((i : Int) + 2)) (sX xs ((i : Int) + 3)) (sX xs ((i : Int) + 4)) with e | e | e <;> rw [e] <;> decide
  refine g_istore 1241 [(5, _), (4, _), (3, _), (2, _), (1, _), (0, _)] C dL_law_1239 (by decide) rfl rfl ?_
  refine g_aload_n 1242 C dL_law_1241 rfl rfl ?_
  refine g_aload_n 1243 C dL_law_1242 rfl rfl ?_
  refine g_iload 1245 C dL_law_1243 rfl rfl ?_
  refine g_iconst 1246 C dL_law_1245 rfl ?_
  refine g_iadd 1247 C dL_law_1246 rfl ?_
  refine g_xld 1248 C hX hbl hbA dL_law_1247 (by omega) (by omega) rfl ?_
  refine g_aload_n 1249 C dL_law_1248 rfl rfl ?_
  refine g_iload 1251 C dL_law_1249 rfl rfl ?_
  refine g_iconst 1252 C dL_law_1251 rfl ?_
  refine g_iadd 1253 C dL_law_1252 rfl ?_
  refine g_xld 1254 C hX hbl hbA dL_law_1253 (by omega) (by omega) rfl ?_
  refine g_aload_n 1255 C dL_law_1254 rfl rfl ?_
  refine g_iload 1257 C dL_law_1255 rfl rfl ?_
  refine g_iconst 1258 C dL_law_1257 rfl ?_
  refine g_iadd 1259 C dL_law_1258 rfl ?_
  refine g_xld 1260 C hX hbl hbA dL_law_1259 (by omega) (by omega) rfl ?_
  refine g_aload_n 1261 C dL_law_1260 rfl rfl ?_
  refine g_iload 1263 C dL_law_1261 rfl rfl ?_
  refine g_iconst 1264 C dL_law_1263 rfl ?_
  refine g_iadd 1265 C dL_law_1264 rfl ?_
  refine g_xld 1266 C hX hbl hbA dL_law_1265 (by omega) (by omega) rfl ?_
  refine g_V4r 1269 (kc + 5) (ks + 30) C dL_law_1266 rfl lk_RL_143 gi_X5_ifWritten gv_X5_ifWritten ⟨_, _, rfl⟩ (by omega) m1 ⟨⟨by decide, by decide⟩, (show kc + 5 + 0 ≤ 601899 by omega), (show ks + 30 + 0 ≤ 7290406 by omega)⟩ (Nat.le_of_ble_eq_true rfl) rfl rfl rfl (c_X5_ifWritten m T c0 (sX xs ((i : Int) + 1)) (sX xs ((i : Int) + 2)) (sX xs ((i : Int) + 3)) (sX xs ((i : Int) + 4)) hmb hM1 hok hI (sX_r _ _) (sX_r _ _) (sX_r _ _) (sX_r _ _)) g_no (fun h2 hq2 => ?_)
  obtain ⟨hM2, k2⟩ := hq2
  obtain ⟨g2, hs2, f2, fp2, X2, g26⟩ := id hM2
  have m2 := X2.1
  unfold isMo at m2
  have hf2 : h2 q = gJ E 1 fo1 := (k2 q (by omega)).trans hf1
  have I2 : lwS E n8 h2 x m q (oIfW T (sX xs ((i : Int) + 1)) (sX xs ((i : Int) + 2)) (sX xs ((i : Int) + 3)) (sX xs ((i : Int) + 4))).2.2 (oIfW T (sX xs ((i : Int) + 1)) (sX xs ((i : Int) + 2)) (sX xs ((i : Int) + 3)) (sX xs ((i : Int) + 4))).1 fo1 := ⟨hxb, hmb, hqb, hxm, hmq, eJ.kept (fun q9 z1 z2 => k2 q9 (by omega)), hM2, okA_ifW hA, hf2⟩
  refine g_istore 1271 [(6, _), (5, _), (4, _), (3, _), (2, _), (1, _), (0, _)] C dL_law_1269 (by decide) rfl rfl ?_
  refine g_aload_n 1272 C dL_law_1271 rfl rfl ?_
  refine g_V0r 1275 (kc + 5) (ks + 30) C dL_law_1272 rfl lk_RL_84 gi_X5_thrown gv_X5_thrown ⟨_, _, rfl⟩ (by omega) m2 ⟨⟨by decide, by decide⟩, (show kc + 5 + 0 ≤ 601899 by omega), (show ks + 30 + 0 ≤ 7290406 by omega)⟩ (Nat.le_of_ble_eq_true rfl) rfl rfl rfl (c_X5_thrown m g2 hs2 (by omega) X2.1) g_no (fun h3 e3 => ?_)
  subst e3
  rw [g26]
  refine g_iload 1277 C dL_law_1275 rfl rfl ?_
  refine g_icmp_eq 1282 1280 C dL_law_1277 rfl rfl hcr hcr (fun _ => ?_) (fun z => absurd rfl z)
  refine g_iload 1284 C dL_law_1282 rfl rfl ?_
  refine g_if_ne 1299 1287 C dL_law_1284 rfl rfl hcr (fun _ => ?_) (fun z0 => ?_)
  · refine g_goto 1517 C dL_law_1299 rfl ?_
    refine g_loc [(4, .int (gi (i : Int))), (3, .ref q), (2, .ref m), (1, .ref x), (0, .ref b)] ⟨rfl, rfl, rfl, rfl, rfl, trivial⟩ ?_
    exact K _ _ _ _ I2
  refine g_aload_n 1288 C dL_law_1287 rfl rfl ?_
  refine g_iconst 1289 C dL_law_1288 rfl ?_
  refine g_lald 1290 C dL_law_1289 (by omega) hf2 (by decide) (by decide) rfl ?_
  rw [hf1e z0]
  refine g_iload 1292 C dL_law_1290 rfl rfl ?_
  refine g_i2l 1293 C dL_law_1292 rfl ?_
  refine g_lcmp 1294 C dL_law_1293 rfl ?_
  rw [lg_cmp_s]
  refine g_if_eq 1299 1297 C dL_law_1294 rfl rfl (by decide) (fun _ => ?_) (fun z => absurd rfl z)
  refine g_goto 1517 C dL_law_1299 rfl ?_
  refine g_loc [(4, .int (gi (i : Int))), (3, .ref q), (2, .ref m), (1, .ref x), (0, .ref b)] ⟨rfl, rfl, rfl, rfl, rfl, trivial⟩ ?_
  exact K _ _ _ _ I2
set_option maxRecDepth 100000 in
set_option maxHeartbeats 4000000 in
theorem law_ifPulled {E : gEnv} {F : gFr} {Q : State → Prop} {n : Nat} {h : gH} {b Ls kc ks : Nat} {xs : Nat → Int32} {x m q i : Nat} {T : gTt} {c0 : Int} {fo : Int → Int64} (C : gC E F mL_law) (hX : va_X b Ls xs F.2.2.1 F.2.2.1.heap) (hbl : b < F.2.2.1.heap.size) (hbA : ¬ gA E b) (hl : E.1.stackTraces = false) (hLs : Ls ≤ 2560) (hi5 : i + 5 ≤ Ls) (hkc : kc + 5 ≤ 601899) (hks : ks + 30 ≤ 7290406) (I : lwS E n h x m q T c0 fo) (K : ∀ (h9 : gH) (T9 : gTt) (c9 : Int) (fo9 : Int → Int64), lwS E n h9 x m q T9 c9 fo9 → G E F mL_law Q n none h9 (kc + 5) (ks + 30) 1517 [(4, .int (gi (i : Int))), (3, .ref q), (2, .ref m), (1, .ref x), (0, .ref b)] []) : G E F mL_law Q n none h kc ks 1302 [(4, .int (gi (i : Int))), (3, .ref q), (2, .ref m), (1, .ref x), (0, .ref b)] [] := by
  obtain ⟨hxb, hmb, hqb, hxm, hmq, hJ, hM, hA, hfo⟩ := I
  have hok := hA.1
  have hI := hA.2.1
  have j1 := hJ.1
  unfold isJo at j1
  refine g_aload_n 1303 C dL_law_1302 rfl rfl ?_
  refine g_aload_n 1304 C dL_law_1303 rfl rfl ?_
  refine g_iload 1306 C dL_law_1304 rfl rfl ?_
  refine g_iconst 1307 C dL_law_1306 rfl ?_
  refine g_iadd 1308 C dL_law_1307 rfl ?_
  refine g_xld 1309 C hX hbl hbA dL_law_1308 (by omega) (by omega) rfl ?_
  refine g_aload_n 1310 C dL_law_1309 rfl rfl ?_
  refine g_iload 1312 C dL_law_1310 rfl rfl ?_
  refine g_iconst 1313 C dL_law_1312 rfl ?_
  refine g_iadd 1314 C dL_law_1313 rfl ?_
  refine g_xld 1315 C hX hbl hbA dL_law_1314 (by omega) (by omega) rfl ?_
  refine g_aload_n 1316 C dL_law_1315 rfl rfl ?_
  refine g_iload 1318 C dL_law_1316 rfl rfl ?_
  refine g_iconst 1319 C dL_law_1318 rfl ?_
  refine g_iadd 1320 C dL_law_1319 rfl ?_
  refine g_xld 1321 C hX hbl hbA dL_law_1320 (by omega) (by omega) rfl ?_
  refine g_aload_n 1322 C dL_law_1321 rfl rfl ?_
  refine g_iload 1324 C dL_law_1322 rfl rfl ?_
  refine g_iconst 1325 C dL_law_1324 rfl ?_
  refine g_iadd 1326 C dL_law_1325 rfl ?_
  refine g_xld 1327 C hX hbl hbA dL_law_1326 (by omega) (by omega) rfl ?_
  refine g_aload_n 1328 C dL_law_1327 rfl rfl ?_
  refine g_callSW (np := 6) (hh := [(0, 14, 17, 13), (0, 14, 21, 19)]) (tc := mL_ifPulled) (As := [.ref x, .int (gi (sX xs ((i : Int) + 1))), .int (gi (sX xs ((i : Int) + 2))), .int (gi (sX xs ((i : Int) + 3))), .int (gi (sX xs ((i : Int) + 4))), .ref q]) (rest := []) 1331 C dL_law_1328 rfl (wsG_of 739 (by decide +kernel) rfl) gii_RL gcd_L_ifPulled ⟨by decide, by decide, by decide +kernel⟩ gs_L_ifPulled rfl ⟨⟨by decide, by decide⟩, (show kc + 5 ≤ 601899 by omega), (show ks + 30 ≤ 7290406 by omega)⟩ (Nat.le_of_ble_eq_true rfl) rfl (c_L_ifPulled x q T (sX xs ((i : Int) + 1)) (sX xs ((i : Int) + 2)) (sX xs ((i : Int) + 3)) (sX xs ((i : Int) + 4)) fo hl hxb hqb (by omega) hJ hok hfo (sX_r _ _) (sX_r _ _) (sX_r _ _) (sX_r _ _)) g_no (fun v8 n8 σ8 h1 hq8 => ?_)
  obtain ⟨rfl, rfl, rfl, eJ, ⟨fo1, hf1, hf1e⟩, eK⟩ := hq8
  refine g_wid (kc2 := kc + 5) (ks2 := ks + 30) (show kc + 5 ≤ kc + 5 by omega) (show ks + 30 ≤ ks + 30 by omega) ?_
  have hM1 : isM E h1 m T c0 := hM.kept (fun q9 z1 z2 => eK q9 (by omega) (by omega))
  obtain ⟨g1, hs1, f1, fp1, X1, -⟩ := id hM1
  have m1 := X1.1
  unfold isMo at m1
  have hcr : -2147483648 ≤ (oIfP T (sX xs ((i : Int) + 1)) (sX xs ((i : Int) + 2)) (sX xs ((i : Int) + 3)) (sX xs ((i : Int) + 4))).1 ∧ (oIfP T (sX xs ((i : Int) + 1)) (sX xs ((i : Int) + 2)) (sX xs ((i : Int) + 3)) (sX xs ((i : Int) + 4))).1 < 2147483648 := by rcases oIfP_c T (sX xs ((i : Int) + 1)) (sX xs ((i : Int) + 2)) (sX xs ((i : Int) + 3)) (sX xs ((i : Int) + 4)) with e | e | e <;> rw [e] <;> decide
  refine g_istore 1333 [(5, _), (4, _), (3, _), (2, _), (1, _), (0, _)] C dL_law_1331 (by decide) rfl rfl ?_
  refine g_aload_n 1334 C dL_law_1333 rfl rfl ?_
  refine g_aload_n 1335 C dL_law_1334 rfl rfl ?_
  refine g_iload 1337 C dL_law_1335 rfl rfl ?_
  refine g_iconst 1338 C dL_law_1337 rfl ?_
  refine g_iadd 1339 C dL_law_1338 rfl ?_
  refine g_xld 1340 C hX hbl hbA dL_law_1339 (by omega) (by omega) rfl ?_
  refine g_aload_n 1341 C dL_law_1340 rfl rfl ?_
  refine g_iload 1343 C dL_law_1341 rfl rfl ?_
  refine g_iconst 1344 C dL_law_1343 rfl ?_
  refine g_iadd 1345 C dL_law_1344 rfl ?_
  refine g_xld 1346 C hX hbl hbA dL_law_1345 (by omega) (by omega) rfl ?_
  refine g_aload_n 1347 C dL_law_1346 rfl rfl ?_
  refine g_iload 1349 C dL_law_1347 rfl rfl ?_
  refine g_iconst 1350 C dL_law_1349 rfl ?_
  refine g_iadd 1351 C dL_law_1350 rfl ?_
  refine g_xld 1352 C hX hbl hbA dL_law_1351 (by omega) (by omega) rfl ?_
  refine g_aload_n 1353 C dL_law_1352 rfl rfl ?_
  refine g_iload 1355 C dL_law_1353 rfl rfl ?_
  refine g_iconst 1356 C dL_law_1355 rfl ?_
  refine g_iadd 1357 C dL_law_1356 rfl ?_
  refine g_xld 1358 C hX hbl hbA dL_law_1357 (by omega) (by omega) rfl ?_
  refine g_V4r 1361 (kc + 5) (ks + 30) C dL_law_1358 rfl lk_RL_146 gi_X5_ifPulled gv_X5_ifPulled ⟨_, _, rfl⟩ (by omega) m1 ⟨⟨by decide, by decide⟩, (show kc + 5 + 0 ≤ 601899 by omega), (show ks + 30 + 0 ≤ 7290406 by omega)⟩ (Nat.le_of_ble_eq_true rfl) rfl rfl rfl (c_X5_ifPulled m T c0 (sX xs ((i : Int) + 1)) (sX xs ((i : Int) + 2)) (sX xs ((i : Int) + 3)) (sX xs ((i : Int) + 4)) hmb hM1 hok hI (sX_r _ _) (sX_r _ _) (sX_r _ _) (sX_r _ _)) g_no (fun h2 hq2 => ?_)
  obtain ⟨hM2, k2⟩ := hq2
  obtain ⟨g2, hs2, f2, fp2, X2, g26⟩ := id hM2
  have m2 := X2.1
  unfold isMo at m2
  have hf2 : h2 q = gJ E 1 fo1 := (k2 q (by omega)).trans hf1
  have I2 : lwS E n8 h2 x m q (oIfP T (sX xs ((i : Int) + 1)) (sX xs ((i : Int) + 2)) (sX xs ((i : Int) + 3)) (sX xs ((i : Int) + 4))).2.2 (oIfP T (sX xs ((i : Int) + 1)) (sX xs ((i : Int) + 2)) (sX xs ((i : Int) + 3)) (sX xs ((i : Int) + 4))).1 fo1 := ⟨hxb, hmb, hqb, hxm, hmq, eJ.kept (fun q9 z1 z2 => k2 q9 (by omega)), hM2, okA_ifP hA, hf2⟩
  refine g_istore 1363 [(6, _), (5, _), (4, _), (3, _), (2, _), (1, _), (0, _)] C dL_law_1361 (by decide) rfl rfl ?_
  refine g_aload_n 1364 C dL_law_1363 rfl rfl ?_
  refine g_V0r 1367 (kc + 5) (ks + 30) C dL_law_1364 rfl lk_RL_84 gi_X5_thrown gv_X5_thrown ⟨_, _, rfl⟩ (by omega) m2 ⟨⟨by decide, by decide⟩, (show kc + 5 + 0 ≤ 601899 by omega), (show ks + 30 + 0 ≤ 7290406 by omega)⟩ (Nat.le_of_ble_eq_true rfl) rfl rfl rfl (c_X5_thrown m g2 hs2 (by omega) X2.1) g_no (fun h3 e3 => ?_)
  subst e3
  rw [g26]
  refine g_iload 1369 C dL_law_1367 rfl rfl ?_
  refine g_icmp_eq 1374 1372 C dL_law_1369 rfl rfl hcr hcr (fun _ => ?_) (fun z => absurd rfl z)
  refine g_iload 1376 C dL_law_1374 rfl rfl ?_
  refine g_if_ne 1391 1379 C dL_law_1376 rfl rfl hcr (fun _ => ?_) (fun z0 => ?_)
  · refine g_goto 1517 C dL_law_1391 rfl ?_
    refine g_loc [(4, .int (gi (i : Int))), (3, .ref q), (2, .ref m), (1, .ref x), (0, .ref b)] ⟨rfl, rfl, rfl, rfl, rfl, trivial⟩ ?_
    exact K _ _ _ _ I2
  refine g_aload_n 1380 C dL_law_1379 rfl rfl ?_
  refine g_iconst 1381 C dL_law_1380 rfl ?_
  refine g_lald 1382 C dL_law_1381 (by omega) hf2 (by decide) (by decide) rfl ?_
  rw [hf1e z0]
  refine g_iload 1384 C dL_law_1382 rfl rfl ?_
  refine g_i2l 1385 C dL_law_1384 rfl ?_
  refine g_lcmp 1386 C dL_law_1385 rfl ?_
  rw [lg_cmp_s]
  refine g_if_eq 1391 1389 C dL_law_1386 rfl rfl (by decide) (fun _ => ?_) (fun z => absurd rfl z)
  refine g_goto 1517 C dL_law_1391 rfl ?_
  refine g_loc [(4, .int (gi (i : Int))), (3, .ref q), (2, .ref m), (1, .ref x), (0, .ref b)] ⟨rfl, rfl, rfl, rfl, rfl, trivial⟩ ?_
  exact K _ _ _ _ I2
set_option maxRecDepth 100000 in
set_option maxHeartbeats 4000000 in
theorem law_whyNot {E : gEnv} {F : gFr} {Q : State → Prop} {n : Nat} {h : gH} {b Ls kc ks : Nat} {xs : Nat → Int32} {x m q i : Nat} {T : gTt} {c0 : Int} {fo : Int → Int64} (C : gC E F mL_law) (hX : va_X b Ls xs F.2.2.1 F.2.2.1.heap) (hbl : b < F.2.2.1.heap.size) (hbA : ¬ gA E b) (hl : E.1.stackTraces = false) (hLs : Ls ≤ 2560) (hi5 : i + 5 ≤ Ls) (hkc : kc + 5 ≤ 601899) (hks : ks + 30 ≤ 7290406) (I : lwS E n h x m q T c0 fo) (K : ∀ (h9 : gH) (T9 : gTt) (c9 : Int) (fo9 : Int → Int64), lwS E n h9 x m q T9 c9 fo9 → G E F mL_law Q n none h9 (kc + 5) (ks + 30) 1517 [(4, .int (gi (i : Int))), (3, .ref q), (2, .ref m), (1, .ref x), (0, .ref b)] []) : G E F mL_law Q n none h kc ks 1394 [(4, .int (gi (i : Int))), (3, .ref q), (2, .ref m), (1, .ref x), (0, .ref b)] [] := by
  obtain ⟨hxb, hmb, hqb, hxm, hmq, hJ, hM, hA, hfo⟩ := I
  have hok := hA.1
  have hI := hA.2.1
  have j1 := hJ.1
  unfold isJo at j1
  refine g_aload_n 1395 C dL_law_1394 rfl rfl ?_
  refine g_aload_n 1396 C dL_law_1395 rfl rfl ?_
  refine g_iload 1398 C dL_law_1396 rfl rfl ?_
  refine g_iconst 1399 C dL_law_1398 rfl ?_
  refine g_iadd 1400 C dL_law_1399 rfl ?_
  refine g_xld 1401 C hX hbl hbA dL_law_1400 (by omega) (by omega) rfl ?_
  refine g_aload_n 1402 C dL_law_1401 rfl rfl ?_
  refine g_iload 1404 C dL_law_1402 rfl rfl ?_
  refine g_iconst 1405 C dL_law_1404 rfl ?_
  refine g_iadd 1406 C dL_law_1405 rfl ?_
  refine g_xld 1407 C hX hbl hbA dL_law_1406 (by omega) (by omega) rfl ?_
  refine g_aload_n 1408 C dL_law_1407 rfl rfl ?_
  refine g_callSW (np := 4) (hh := [(0, 10, 13, 13)]) (tc := mL_whyNot) (As := [.ref x, .int (gi (sX xs ((i : Int) + 1))), .int (gi (sX xs ((i : Int) + 2))), .ref q]) (rest := []) 1411 C dL_law_1408 rfl (wsG_of 746 (by decide +kernel) rfl) gii_RL gcd_L_whyNot ⟨by decide, by decide, by decide +kernel⟩ gs_L_whyNot rfl ⟨⟨by decide, by decide⟩, (show kc + 2 ≤ 601899 by omega), (show ks + 12 ≤ 7290406 by omega)⟩ (Nat.le_of_ble_eq_true rfl) rfl (c_L_whyNot x q T (sX xs ((i : Int) + 1)) (sX xs ((i : Int) + 2)) fo hl hxb hqb (by omega) hJ hok hfo (sX_r _ _) (sX_r _ _)) g_no (fun v8 n8 σ8 h1 hq8 => ?_)
  obtain ⟨rfl, rfl, rfl, eJ, ⟨fo1, hf1, hf1e⟩, eK⟩ := hq8
  refine g_wid (kc2 := kc + 5) (ks2 := ks + 30) (show kc + 2 ≤ kc + 5 by omega) (show ks + 12 ≤ ks + 30 by omega) ?_
  have hM1 : isM E h1 m T c0 := hM.kept (fun q9 z1 z2 => eK q9 (by omega) (by omega))
  obtain ⟨g1, hs1, f1, fp1, X1, -⟩ := id hM1
  have m1 := X1.1
  unfold isMo at m1
  have hcr : -2147483648 ≤ (oWhy T (sX xs ((i : Int) + 1)) (sX xs ((i : Int) + 2))).1 ∧ (oWhy T (sX xs ((i : Int) + 1)) (sX xs ((i : Int) + 2))).1 < 2147483648 := by rcases oWhy_c T (sX xs ((i : Int) + 1)) (sX xs ((i : Int) + 2)) with e | e <;> rw [e] <;> decide
  refine g_istore 1413 [(5, _), (4, _), (3, _), (2, _), (1, _), (0, _)] C dL_law_1411 (by decide) rfl rfl ?_
  refine g_aload_n 1414 C dL_law_1413 rfl rfl ?_
  refine g_aload_n 1415 C dL_law_1414 rfl rfl ?_
  refine g_iload 1417 C dL_law_1415 rfl rfl ?_
  refine g_iconst 1418 C dL_law_1417 rfl ?_
  refine g_iadd 1419 C dL_law_1418 rfl ?_
  refine g_xld 1420 C hX hbl hbA dL_law_1419 (by omega) (by omega) rfl ?_
  refine g_aload_n 1421 C dL_law_1420 rfl rfl ?_
  refine g_iload 1423 C dL_law_1421 rfl rfl ?_
  refine g_iconst 1424 C dL_law_1423 rfl ?_
  refine g_iadd 1425 C dL_law_1424 rfl ?_
  refine g_xld 1426 C hX hbl hbA dL_law_1425 (by omega) (by omega) rfl ?_
  refine g_V2r 1429 (kc + 5) (ks + 30) C dL_law_1426 rfl lk_RL_149 gi_X5_whyNot gv_X5_whyNot ⟨_, _, rfl⟩ (by omega) m1 ⟨⟨by decide, by decide⟩, (show kc + 5 + 0 ≤ 601899 by omega), (show ks + 30 + 0 ≤ 7290406 by omega)⟩ (Nat.le_of_ble_eq_true rfl) rfl rfl rfl (c_X5_whyNot m T c0 (sX xs ((i : Int) + 1)) (sX xs ((i : Int) + 2)) hmb hM1 hok hI (sX_r _ _) (sX_r _ _)) g_no (fun h2 hq2 => ?_)
  obtain ⟨hM2, k2⟩ := hq2
  obtain ⟨g2, hs2, f2, fp2, X2, g26⟩ := id hM2
  have m2 := X2.1
  unfold isMo at m2
  have hf2 : h2 q = gJ E 1 fo1 := (k2 q (by omega)).trans hf1
  have I2 : lwS E n8 h2 x m q (oWhy T (sX xs ((i : Int) + 1)) (sX xs ((i : Int) + 2))).2.2 (oWhy T (sX xs ((i : Int) + 1)) (sX xs ((i : Int) + 2))).1 fo1 := ⟨hxb, hmb, hqb, hxm, hmq, eJ.kept (fun q9 z1 z2 => k2 q9 (by omega)), hM2, okA_why hA, hf2⟩
  refine g_istore 1431 [(6, _), (5, _), (4, _), (3, _), (2, _), (1, _), (0, _)] C dL_law_1429 (by decide) rfl rfl ?_
  refine g_aload_n 1432 C dL_law_1431 rfl rfl ?_
  refine g_V0r 1435 (kc + 5) (ks + 30) C dL_law_1432 rfl lk_RL_84 gi_X5_thrown gv_X5_thrown ⟨_, _, rfl⟩ (by omega) m2 ⟨⟨by decide, by decide⟩, (show kc + 5 + 0 ≤ 601899 by omega), (show ks + 30 + 0 ≤ 7290406 by omega)⟩ (Nat.le_of_ble_eq_true rfl) rfl rfl rfl (c_X5_thrown m g2 hs2 (by omega) X2.1) g_no (fun h3 e3 => ?_)
  subst e3
  rw [g26]
  refine g_iload 1437 C dL_law_1435 rfl rfl ?_
  refine g_icmp_eq 1442 1440 C dL_law_1437 rfl rfl hcr hcr (fun _ => ?_) (fun z => absurd rfl z)
  refine g_iload 1444 C dL_law_1442 rfl rfl ?_
  refine g_if_ne 1459 1447 C dL_law_1444 rfl rfl hcr (fun _ => ?_) (fun z0 => ?_)
  · refine g_goto 1517 C dL_law_1459 rfl ?_
    refine g_loc [(4, .int (gi (i : Int))), (3, .ref q), (2, .ref m), (1, .ref x), (0, .ref b)] ⟨rfl, rfl, rfl, rfl, rfl, trivial⟩ ?_
    exact K _ _ _ _ I2
  refine g_aload_n 1448 C dL_law_1447 rfl rfl ?_
  refine g_iconst 1449 C dL_law_1448 rfl ?_
  refine g_lald 1450 C dL_law_1449 (by omega) hf2 (by decide) (by decide) rfl ?_
  rw [hf1e z0]
  refine g_iload 1452 C dL_law_1450 rfl rfl ?_
  refine g_i2l 1453 C dL_law_1452 rfl ?_
  refine g_lcmp 1454 C dL_law_1453 rfl ?_
  rw [lg_cmp_s]
  refine g_if_eq 1459 1457 C dL_law_1454 rfl rfl (by decide) (fun _ => ?_) (fun z => absurd rfl z)
  refine g_goto 1517 C dL_law_1459 rfl ?_
  refine g_loc [(4, .int (gi (i : Int))), (3, .ref q), (2, .ref m), (1, .ref x), (0, .ref b)] ⟨rfl, rfl, rfl, rfl, rfl, trivial⟩ ?_
  exact K _ _ _ _ I2
set_option maxRecDepth 100000 in
set_option maxHeartbeats 4000000 in
theorem law_agreement {E : gEnv} {F : gFr} {Q : State → Prop} {n : Nat} {h : gH} {b Ls kc ks : Nat} {xs : Nat → Int32} {x m q i : Nat} {T : gTt} {c0 : Int} {fo : Int → Int64} (C : gC E F mL_law) (hX : va_X b Ls xs F.2.2.1 F.2.2.1.heap) (hbl : b < F.2.2.1.heap.size) (hbA : ¬ gA E b) (hl : E.1.stackTraces = false) (hLs : Ls ≤ 2560) (hi5 : i + 5 ≤ Ls) (hkc : kc + 5 ≤ 601899) (hks : ks + 30 ≤ 7290406) (I : lwS E n h x m q T c0 fo) (K : ∀ (h9 : gH) (T9 : gTt) (c9 : Int) (fo9 : Int → Int64), lwS E n h9 x m q T9 c9 fo9 → G E F mL_law Q n none h9 (kc + 5) (ks + 30) 1517 [(4, .int (gi (i : Int))), (3, .ref q), (2, .ref m), (1, .ref x), (0, .ref b)] []) : G E F mL_law Q n none h kc ks 1462 [(4, .int (gi (i : Int))), (3, .ref q), (2, .ref m), (1, .ref x), (0, .ref b)] [] := by
  obtain ⟨hxb, hmb, hqb, hxm, hmq, hJ, hM, hA, hfo⟩ := I
  have hok := hA.1
  have hI := hA.2.1
  have j1 := hJ.1
  unfold isJo at j1
  refine g_aload_n 1463 C dL_law_1462 rfl rfl ?_
  refine g_wid (kc2 := kc + 5) (ks2 := ks + 30) (by omega) (by omega) ?_
  refine g_V0r 1466 (kc + 5) (ks + 30) C dL_law_1463 rfl lk_RL_150 gi_X4_agreement gv_X4_agreement ⟨_, _, rfl⟩ (by omega) j1 ⟨⟨by decide, by decide⟩, (show kc + 5 + 0 ≤ 601899 by omega), (show ks + 30 + 0 ≤ 7290406 by omega)⟩ (Nat.le_of_ble_eq_true rfl) rfl rfl rfl (c_X4_agreement x T hxb hJ hok) g_no (fun h1 e1 => ?_)
  subst e1
  obtain ⟨g1, hs1, f1, fp1, X1, -⟩ := id hM
  have m1 := X1.1
  unfold isMo at m1
  refine g_dstore 1468 [(5, _), (4, _), (3, _), (2, _), (1, _), (0, _)] C dL_law_1466 (by decide) rfl rfl ?_
  refine g_aload_n 1469 C dL_law_1468 rfl rfl ?_
  refine g_V0r 1472 (kc + 5) (ks + 30) C dL_law_1469 rfl lk_RL_154 gi_X5_agreement gv_X5_agreement ⟨_, _, rfl⟩ (by omega) m1 ⟨⟨by decide, by decide⟩, (show kc + 5 + 0 ≤ 601899 by omega), (show ks + 30 + 0 ≤ 7290406 by omega)⟩ (Nat.le_of_ble_eq_true rfl) rfl rfl rfl (c_X5_agreement m T c0 hmb hM hok hI) g_no (fun h2 hq2 => ?_)
  obtain ⟨hM2, k2⟩ := hq2
  have I2 : lwS E n h2 x m q T 0 fo := ⟨hxb, hmb, hqb, hxm, hmq, hJ.kept (fun q9 z1 z2 => k2 q9 (by omega)), hM2, hA, (k2 q (by omega)).trans hfo⟩
  generalize gShr (tAgN T) = p9
  obtain ⟨c9, hc9, hr9⟩ : ∃ c9 : Int, (Op.cmpValue (FP.dcmp p9 p9) .l).toInt = c9 ∧ (-2147483648 ≤ c9 ∧ c9 < 2147483648) := ⟨_, rfl, Int32.le_toInt _, Int32.toInt_lt _⟩
  refine g_dstore 1474 [(7, _), (5, _), (4, _), (3, _), (2, _), (1, _), (0, _)] C dL_law_1472 (by decide) rfl rfl ?_
  refine g_dload 1476 C dL_law_1474 rfl rfl ?_
  refine g_dload 1478 C dL_law_1476 rfl rfl ?_
  refine g_dcmp 1479 C dL_law_1478 (gi_asI _) rfl ?_
  rw [hc9]
  refine g_if_eq 1500 1482 C dL_law_1479 rfl rfl hr9 (fun _ => ?_) (fun z => ?_)
  · refine g_goto 1517 C dL_law_1500 rfl ?_
    refine g_loc [(4, .int (gi (i : Int))), (3, .ref q), (2, .ref m), (1, .ref x), (0, .ref b)] ⟨rfl, rfl, rfl, rfl, rfl, trivial⟩ ?_
    exact K _ _ _ _ I2
  refine g_dload 1484 C dL_law_1482 rfl rfl ?_
  refine g_dload 1486 C dL_law_1484 rfl rfl ?_
  refine g_dcmp 1487 C dL_law_1486 (gi_asI _) rfl ?_
  rw [hc9]
  refine g_if_eq 1498 1490 C dL_law_1487 rfl rfl hr9 (fun z2 => absurd z2 z) (fun _ => ?_)
  refine g_dload 1492 C dL_law_1490 rfl rfl ?_
  refine g_dload 1494 C dL_law_1492 rfl rfl ?_
  refine g_dcmp 1495 C dL_law_1494 (gi_asI _) rfl ?_
  rw [hc9]
  refine g_if_ne 1500 1498 C dL_law_1495 rfl rfl hr9 (fun _ => ?_) (fun z2 => absurd z2 z)
  refine g_goto 1517 C dL_law_1500 rfl ?_
  refine g_loc [(4, .int (gi (i : Int))), (3, .ref q), (2, .ref m), (1, .ref x), (0, .ref b)] ⟨rfl, rfl, rfl, rfl, rfl, trivial⟩ ?_
  exact K _ _ _ _ I2
set_option maxRecDepth 100000 in
set_option maxHeartbeats 4000000 in
theorem law_digest {E : gEnv} {F : gFr} {Q : State → Prop} {n : Nat} {h : gH} {b Ls kc ks : Nat} {xs : Nat → Int32} {x m q i : Nat} {T : gTt} {c0 : Int} {fo : Int → Int64} (C : gC E F mL_law) (hX : va_X b Ls xs F.2.2.1 F.2.2.1.heap) (hbl : b < F.2.2.1.heap.size) (hbA : ¬ gA E b) (hl : E.1.stackTraces = false) (hLs : Ls ≤ 2560) (hi5 : i + 5 ≤ Ls) (hkc : kc + 5 ≤ 601899) (hks : ks + 30 ≤ 7290406) (I : lwS E n h x m q T c0 fo) (K : ∀ (h9 : gH) (T9 : gTt) (c9 : Int) (fo9 : Int → Int64), lwS E n h9 x m q T9 c9 fo9 → G E F mL_law Q n none h9 (kc + 5) (ks + 30) 1517 [(4, .int (gi (i : Int))), (3, .ref q), (2, .ref m), (1, .ref x), (0, .ref b)] []) : G E F mL_law Q n none h kc ks 1503 [(4, .int (gi (i : Int))), (3, .ref q), (2, .ref m), (1, .ref x), (0, .ref b)] [] := by
  obtain ⟨hxb, hmb, hqb, hxm, hmq, hJ, hM, hA, hfo⟩ := I
  have hok := hA.1
  have hI := hA.2.1
  have j1 := hJ.1
  unfold isJo at j1
  refine g_aload_n 1504 C dL_law_1503 rfl rfl ?_
  refine g_wid (kc2 := kc + 5) (ks2 := ks + 30) (by omega) (by omega) ?_
  refine g_V0r 1507 (kc + 5) (ks + 30) C dL_law_1504 rfl lk_RL_155 gi_X4_digest gv_X4_digest ⟨_, _, rfl⟩ (by omega) j1 ⟨⟨by decide, by decide⟩, (show kc + 5 + 0 ≤ 601899 by omega), (show ks + 30 + 0 ≤ 7290406 by omega)⟩ (Nat.le_of_ble_eq_true rfl) rfl rfl rfl (c_X4_digest x T hxb hJ hok) g_no (fun h1 e1 => ?_)
  subst e1
  obtain ⟨g1, hs1, f1, fp1, X1, -⟩ := id hM
  have m1 := X1.1
  unfold isMo at m1
  refine g_aload_n 1508 C dL_law_1507 rfl rfl ?_
  refine g_V0r 1511 (kc + 5) (ks + 30) C dL_law_1508 rfl lk_RL_159 gi_X5_digest gv_X5_digest ⟨_, _, rfl⟩ (by omega) m1 ⟨⟨by decide, by decide⟩, (show kc + 5 + 0 ≤ 601899 by omega), (show ks + 30 + 0 ≤ 7290406 by omega)⟩ (Nat.le_of_ble_eq_true rfl) rfl rfl rfl (c_X5_digest m T c0 hmb hM hok hI) g_no (fun h2 hq2 => ?_)
  obtain ⟨hM2, k2⟩ := hq2
  have I2 : lwS E n h2 x m q T 0 fo := ⟨hxb, hmb, hqb, hxm, hmq, hJ.kept (fun q9 z1 z2 => k2 q9 (by omega)), hM2, hA, (k2 q (by omega)).trans hfo⟩
  refine g_lcmp 1512 C dL_law_1511 rfl ?_
  rw [lg_cmp_s]
  refine g_if_eq 1517 1515 C dL_law_1512 rfl rfl (by decide) (fun _ => ?_) (fun z => absurd rfl z)
  exact K _ _ _ _ I2
