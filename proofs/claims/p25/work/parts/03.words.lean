/-! the good words of the tables, and what each is needed for, by its place -/
def wsG : List Cond := lw_tbl.filter goodWord
theorem wsG_in : ∀ w ∈ wsG, w ∈ lw_tbl := fun w h => (List.mem_filter.mp h).1
theorem wsG_of {w : Cond} (i : Nat) (h : tables_1[i]? = some w) (g : goodWord w = true) : w ∈ wsG := List.mem_filter.mpr ⟨List.mem_append_right _ (List.mem_of_getElem? h), g⟩
theorem wsG_sel {w : Cond} (i : Nat) (h : (k2_sels lw_privs)[i]? = some w) (g : goodWord w = true) : w ∈ wsG := List.mem_filter.mpr ⟨List.mem_append_left _ (List.mem_of_getElem? h), g⟩
theorem wsG_good : GoodIn wsG wsG := fun w h => ⟨h, good_of_word (List.mem_filter.mp h).2⟩
theorem wsG_goodC {w : Cond} (h : w ∈ wsG) : GoodIn wsG (w :: wsG) := fun x hx => (List.mem_cons.mp hx).elim (fun e => by rw [e]; exact wsG_good w h) (fun hx => wsG_good x hx)
theorem gw_ai : Cond.arrayClass .int ∈ wsG := wsG_of 68 (by decide +kernel) rfl
theorem gw_al : Cond.arrayClass .long ∈ wsG := wsG_of 767 (by decide +kernel) rfl
theorem gw_oi : Cond.instanceMethod objectInit ∈ wsG := wsG_of 24 (by decide +kernel) rfl
theorem gw_oc : Cond.code objectInit ⟨#[0xb1]⟩ 1 none ∈ wsG := wsG_of 25 (by decide +kernel) rfl
theorem gw_mx1 : Cond.static Lib.Math.max.name ∈ wsG := wsG_of 271 (by decide +kernel) rfl
theorem gw_mx2 : Cond.initialized "java/lang/Math" ∈ wsG := wsG_of 11 (by decide +kernel) rfl
theorem gw_mx3 : Cond.code Lib.Math.max.name Lib.Math.max.code 2 (some .int) ∈ wsG := wsG_of 272 (by decide +kernel) rfl
theorem gw_mn1 : Cond.static Lib.Math.min.name ∈ wsG := wsG_of 547 (by decide +kernel) rfl
theorem gw_mn3 : Cond.code Lib.Math.min.name Lib.Math.min.code 2 (some .int) ∈ wsG := wsG_of 548 (by decide +kernel) rfl
theorem gw_cp1 : Cond.native arraycopyName ∈ wsG := wsG_of 261 (by decide +kernel) rfl
theorem gw_cp2 : Cond.static arraycopyName ∈ wsG := wsG_of 260 (by decide +kernel) rfl
theorem gw_cp3 : Cond.initialized "java/lang/System" ∈ wsG := wsG_of 10 (by decide +kernel) rfl
theorem gly_RX0_0 : u_lay RX0 TX0 0 ∈ wsG := wsG_of 59 (by decide +kernel) rfl
theorem gly_RX0_1 : u_lay RX0 TX0 1 ∈ wsG := wsG_of 61 (by decide +kernel) rfl
theorem gly_RX0_2 : u_lay RX0 TX0 2 ∈ wsG := wsG_of 63 (by decide +kernel) rfl
theorem gly_RX0_3 : u_lay RX0 TX0 3 ∈ wsG := wsG_of 65 (by decide +kernel) rfl
theorem gly_RX0 : ∀ w ∈ u_ws RX0 TX0 4, w ∈ wsG := by
  intro w hw
  obtain ⟨k, hk, rfl⟩ := List.mem_map.mp hw
  have hk := List.mem_range.mp hk
  rcases (show k = 0 ∨ k = 1 ∨ k = 2 ∨ k = 3 by omega) with rfl | rfl | rfl | rfl
  · exact gly_RX0_0
  · exact gly_RX0_1
  · exact gly_RX0_2
  · exact gly_RX0_3
theorem gin_RX0 : Cond.instantiable RX0 4 ∈ wsG := wsG_of 43 (by decide +kernel) rfl
theorem gii_RX0 : Cond.initialized RX0 ∈ wsG := wsG_of 4 (by decide +kernel) rfl
theorem gly_RX1_0 : u_lay RX1 TX1 0 ∈ wsG := wsG_of 76 (by decide +kernel) rfl
theorem gly_RX1_1 : u_lay RX1 TX1 1 ∈ wsG := wsG_of 78 (by decide +kernel) rfl
theorem gly_RX1_2 : u_lay RX1 TX1 2 ∈ wsG := wsG_of 80 (by decide +kernel) rfl
theorem gly_RX1 : ∀ w ∈ u_ws RX1 TX1 3, w ∈ wsG := by
  intro w hw
  obtain ⟨k, hk, rfl⟩ := List.mem_map.mp hw
  have hk := List.mem_range.mp hk
  rcases (show k = 0 ∨ k = 1 ∨ k = 2 by omega) with rfl | rfl | rfl
  · exact gly_RX1_0
  · exact gly_RX1_1
  · exact gly_RX1_2
theorem gin_RX1 : Cond.instantiable RX1 3 ∈ wsG := wsG_of 34 (by decide +kernel) rfl
theorem gii_RX1 : Cond.initialized RX1 ∈ wsG := wsG_of 3 (by decide +kernel) rfl
theorem gly_RX2_0 : u_lay RX2 TX2 0 ∈ wsG := wsG_of 126 (by decide +kernel) rfl
theorem gly_RX2_1 : u_lay RX2 TX2 1 ∈ wsG := wsG_of 128 (by decide +kernel) rfl
theorem gly_RX2_2 : u_lay RX2 TX2 2 ∈ wsG := wsG_of 130 (by decide +kernel) rfl
theorem gly_RX2_3 : u_lay RX2 TX2 3 ∈ wsG := wsG_of 132 (by decide +kernel) rfl
theorem gly_RX2_4 : u_lay RX2 TX2 4 ∈ wsG := wsG_of 134 (by decide +kernel) rfl
theorem gly_RX2_5 : u_lay RX2 TX2 5 ∈ wsG := wsG_of 136 (by decide +kernel) rfl
theorem gly_RX2 : ∀ w ∈ u_ws RX2 TX2 6, w ∈ wsG := by
  intro w hw
  obtain ⟨k, hk, rfl⟩ := List.mem_map.mp hw
  have hk := List.mem_range.mp hk
  rcases (show k = 0 ∨ k = 1 ∨ k = 2 ∨ k = 3 ∨ k = 4 ∨ k = 5 by omega) with rfl | rfl | rfl | rfl | rfl | rfl
  · exact gly_RX2_0
  · exact gly_RX2_1
  · exact gly_RX2_2
  · exact gly_RX2_3
  · exact gly_RX2_4
  · exact gly_RX2_5
theorem gin_RX2 : Cond.instantiable RX2 6 ∈ wsG := wsG_of 110 (by decide +kernel) rfl
theorem gii_RX2 : Cond.initialized RX2 ∈ wsG := wsG_of 5 (by decide +kernel) rfl
theorem gly_RX3_0 : u_lay RX3 TX3 0 ∈ wsG := wsG_of 95 (by decide +kernel) rfl
theorem gly_RX3_1 : u_lay RX3 TX3 1 ∈ wsG := wsG_of 97 (by decide +kernel) rfl
theorem gly_RX3_2 : u_lay RX3 TX3 2 ∈ wsG := wsG_of 99 (by decide +kernel) rfl
theorem gly_RX3_3 : u_lay RX3 TX3 3 ∈ wsG := wsG_of 101 (by decide +kernel) rfl
theorem gly_RX3_4 : u_lay RX3 TX3 4 ∈ wsG := wsG_of 103 (by decide +kernel) rfl
theorem gly_RX3_5 : u_lay RX3 TX3 5 ∈ wsG := wsG_of 105 (by decide +kernel) rfl
theorem gly_RX3 : ∀ w ∈ u_ws RX3 TX3 6, w ∈ wsG := by
  intro w hw
  obtain ⟨k, hk, rfl⟩ := List.mem_map.mp hw
  have hk := List.mem_range.mp hk
  rcases (show k = 0 ∨ k = 1 ∨ k = 2 ∨ k = 3 ∨ k = 4 ∨ k = 5 by omega) with rfl | rfl | rfl | rfl | rfl | rfl
  · exact gly_RX3_0
  · exact gly_RX3_1
  · exact gly_RX3_2
  · exact gly_RX3_3
  · exact gly_RX3_4
  · exact gly_RX3_5
theorem gin_RX3 : Cond.instantiable RX3 6 ∈ wsG := wsG_of 27 (by decide +kernel) rfl
theorem gii_RX3 : Cond.initialized RX3 ∈ wsG := wsG_of 2 (by decide +kernel) rfl
theorem gly_RX4_0 : u_lay RX4 TX4 0 ∈ wsG := wsG_of 146 (by decide +kernel) rfl
theorem gly_RX4_1 : u_lay RX4 TX4 1 ∈ wsG := wsG_of 148 (by decide +kernel) rfl
theorem gly_RX4_2 : u_lay RX4 TX4 2 ∈ wsG := wsG_of 150 (by decide +kernel) rfl
theorem gly_RX4_3 : u_lay RX4 TX4 3 ∈ wsG := wsG_of 152 (by decide +kernel) rfl
theorem gly_RX4_4 : u_lay RX4 TX4 4 ∈ wsG := wsG_of 154 (by decide +kernel) rfl
theorem gly_RX4_5 : u_lay RX4 TX4 5 ∈ wsG := wsG_of 156 (by decide +kernel) rfl
theorem gly_RX4_6 : u_lay RX4 TX4 6 ∈ wsG := wsG_of 158 (by decide +kernel) rfl
theorem gly_RX4 : ∀ w ∈ u_ws RX4 TX4 7, w ∈ wsG := by
  intro w hw
  obtain ⟨k, hk, rfl⟩ := List.mem_map.mp hw
  have hk := List.mem_range.mp hk
  rcases (show k = 0 ∨ k = 1 ∨ k = 2 ∨ k = 3 ∨ k = 4 ∨ k = 5 ∨ k = 6 by omega) with rfl | rfl | rfl | rfl | rfl | rfl | rfl
  · exact gly_RX4_0
  · exact gly_RX4_1
  · exact gly_RX4_2
  · exact gly_RX4_3
  · exact gly_RX4_4
  · exact gly_RX4_5
  · exact gly_RX4_6
theorem gin_RX4 : Cond.instantiable RX4 7 ∈ wsG := wsG_of 19 (by decide +kernel) rfl
theorem gii_RX4 : Cond.initialized RX4 ∈ wsG := wsG_of 1 (by decide +kernel) rfl
theorem gii_RL : Cond.initialized RL ∈ wsG := wsG_of 0 (by decide +kernel) rfl
def mX0_init : MethodName × ByteArray × Nat × Option FieldType × Nat × Nat × Nat × Nat := (yX0_init, cX0_init, 1, none, 1, 24, 3, 13)
theorem gcd_X0_init : Cond.code yX0_init cX0_init 1 none ∈ wsG := wsG_of 46 (by decide +kernel) rfl
def mX0_become : MethodName × ByteArray × Nat × Option FieldType × Nat × Nat × Nat × Nat := (yX0_become, cX0_become, 2, none, 1, 44, 0, 0)
theorem gcd_X0_become : Cond.code yX0_become cX0_become 2 none ∈ wsG := wsG_of 258 (by decide +kernel) rfl
def mX0_has : MethodName × ByteArray × Nat × Option FieldType × Nat × Nat × Nat × Nat := (yX0_has, cX0_has, 3, (some .boolean), 0, 0, 0, 0)
theorem gcd_X0_has : Cond.code yX0_has cX0_has 3 (some .boolean) ∈ wsG := wsG_of 364 (by decide +kernel) rfl
def mX0_hasOneOf : MethodName × ByteArray × Nat × Option FieldType × Nat × Nat × Nat × Nat := (yX0_hasOneOf, cX0_hasOneOf, 3, (some .boolean), 1, 20, 0, 0)
theorem gcd_X0_hasOneOf : Cond.code yX0_hasOneOf cX0_hasOneOf 3 (some .boolean) ∈ wsG := wsG_of 395 (by decide +kernel) rfl
def mX0_hasSameSiblings : MethodName × ByteArray × Nat × Option FieldType × Nat × Nat × Nat × Nat := (yX0_hasSameSiblings, cX0_hasSameSiblings, 3, (some .boolean), 0, 0, 0, 0)
theorem gcd_X0_hasSameSiblings : Cond.code yX0_hasSameSiblings cX0_hasSameSiblings 3 (some .boolean) ∈ wsG := wsG_of 376 (by decide +kernel) rfl
def mX0_coveredBy : MethodName × ByteArray × Nat × Option FieldType × Nat × Nat × Nat × Nat := (yX0_coveredBy, cX0_coveredBy, 4, (some .int), 1, 22, 0, 0)
theorem gcd_X0_coveredBy : Cond.code yX0_coveredBy cX0_coveredBy 4 (some .int) ∈ wsG := wsG_of 428 (by decide +kernel) rfl
def mX0_hasDropped : MethodName × ByteArray × Nat × Option FieldType × Nat × Nat × Nat × Nat := (yX0_hasDropped, cX0_hasDropped, 2, (some .boolean), 1, 22, 0, 0)
theorem gcd_X0_hasDropped : Cond.code yX0_hasDropped cX0_hasDropped 2 (some .boolean) ∈ wsG := wsG_of 441 (by decide +kernel) rfl
def mX0_isNew : MethodName × ByteArray × Nat × Option FieldType × Nat × Nat × Nat × Nat := (yX0_isNew, cX0_isNew, 2, (some .boolean), 1, 22, 0, 0)
theorem gcd_X0_isNew : Cond.code yX0_isNew cX0_isNew 2 (some .boolean) ∈ wsG := wsG_of 450 (by decide +kernel) rfl
def mX0_lostTo : MethodName × ByteArray × Nat × Option FieldType × Nat × Nat × Nat × Nat := (yX0_lostTo, cX0_lostTo, 4, (some .int), 2, 43, 0, 0)
theorem gcd_X0_lostTo : Cond.code yX0_lostTo cX0_lostTo 4 (some .int) ∈ wsG := wsG_of 437 (by decide +kernel) rfl
def mX0_gainedFrom : MethodName × ByteArray × Nat × Option FieldType × Nat × Nat × Nat × Nat := (yX0_gainedFrom, cX0_gainedFrom, 4, (some .int), 2, 43, 0, 0)
theorem gcd_X0_gainedFrom : Cond.code yX0_gainedFrom cX0_gainedFrom 4 (some .int) ∈ wsG := wsG_of 446 (by decide +kernel) rfl
def mX0_dropCoveredBy : MethodName × ByteArray × Nat × Option FieldType × Nat × Nat × Nat × Nat := (yX0_dropCoveredBy, cX0_dropCoveredBy, 3, none, 1, 22, 0, 0)
theorem gcd_X0_dropCoveredBy : Cond.code yX0_dropCoveredBy cX0_dropCoveredBy 3 none ∈ wsG := wsG_of 502 (by decide +kernel) rfl
def mX0_takeFrom : MethodName × ByteArray × Nat × Option FieldType × Nat × Nat × Nat × Nat := (yX0_takeFrom, cX0_takeFrom, 3, none, 2, 46, 0, 0)
theorem gcd_X0_takeFrom : Cond.code yX0_takeFrom cX0_takeFrom 3 none ∈ wsG := wsG_of 533 (by decide +kernel) rfl
def mX0_insert : MethodName × ByteArray × Nat × Option FieldType × Nat × Nat × Nat × Nat := (yX0_insert, cX0_insert, 4, none, 0, 0, 0, 0)
theorem gcd_X0_insert : Cond.code yX0_insert cX0_insert 4 none ∈ wsG := wsG_of 510 (by decide +kernel) rfl
def mX0_remove : MethodName × ByteArray × Nat × Option FieldType × Nat × Nat × Nat × Nat := (yX0_remove, cX0_remove, 3, none, 0, 0, 0, 0)
theorem gcd_X0_remove : Cond.code yX0_remove cX0_remove 3 none ∈ wsG := wsG_of 506 (by decide +kernel) rfl
def mX0_valueBy : MethodName × ByteArray × Nat × Option FieldType × Nat × Nat × Nat × Nat := (yX0_valueBy, cX0_valueBy, 6, (some .int), 1, 24, 0, 0)
theorem gcd_X0_valueBy : Cond.code yX0_valueBy cX0_valueBy 6 (some .int) ∈ wsG := wsG_of 544 (by decide +kernel) rfl
def mX1_init : MethodName × ByteArray × Nat × Option FieldType × Nat × Nat × Nat × Nat := (yX1_init, cX1_init, 2, none, 2, 44, 20, 89)
theorem gcd_X1_init : Cond.code yX1_init cX1_init 2 none ∈ wsG := wsG_of 37 (by decide +kernel) rfl
def mX1_become : MethodName × ByteArray × Nat × Option FieldType × Nat × Nat × Nat × Nat := (yX1_become, cX1_become, 3, none, 2, 65, 0, 0)
theorem gcd_X1_become : Cond.code yX1_become cX1_become 3 none ∈ wsG := wsG_of 254 (by decide +kernel) rfl
def mX1_learn : MethodName × ByteArray × Nat × Option FieldType × Nat × Nat × Nat × Nat := (yX1_learn, cX1_learn, 3, none, 2, 46, 0, 0)
theorem gcd_X1_learn : Cond.code yX1_learn cX1_learn 3 none ∈ wsG := wsG_of 266 (by decide +kernel) rfl
def mX1_mayWrite : MethodName × ByteArray × Nat × Option FieldType × Nat × Nat × Nat × Nat := (yX1_mayWrite, cX1_mayWrite, 3, (some .boolean), 3, 69, 0, 0)
theorem gcd_X1_mayWrite : Cond.code yX1_mayWrite cX1_mayWrite 3 (some .boolean) ∈ wsG := wsG_of 487 (by decide +kernel) rfl
def mX1_mayPull : MethodName × ByteArray × Nat × Option FieldType × Nat × Nat × Nat × Nat := (yX1_mayPull, cX1_mayPull, 3, (some .boolean), 4, 91, 0, 0)
theorem gcd_X1_mayPull : Cond.code yX1_mayPull cX1_mayPull 3 (some .boolean) ∈ wsG := wsG_of 522 (by decide +kernel) rfl
def mX1_writeOutlook : MethodName × ByteArray × Nat × Option FieldType × Nat × Nat × Nat × Nat := (yX1_writeOutlook, cX1_writeOutlook, 5, (some .int), 2, 45, 0, 0)
theorem gcd_X1_writeOutlook : Cond.code yX1_writeOutlook cX1_writeOutlook 5 (some .int) ∈ wsG := wsG_of 424 (by decide +kernel) rfl
def mX1_pullOutlook : MethodName × ByteArray × Nat × Option FieldType × Nat × Nat × Nat × Nat := (yX1_pullOutlook, cX1_pullOutlook, 6, (some .int), 3, 66, 0, 0)
theorem gcd_X1_pullOutlook : Cond.code yX1_pullOutlook cX1_pullOutlook 6 (some .int) ∈ wsG := wsG_of 433 (by decide +kernel) rfl
def mX1_put : MethodName × ByteArray × Nat × Option FieldType × Nat × Nat × Nat × Nat := (yX1_put, cX1_put, 4, none, 2, 46, 0, 0)
theorem gcd_X1_put : Cond.code yX1_put cX1_put 4 none ∈ wsG := wsG_of 498 (by decide +kernel) rfl
def mX1_unlearn : MethodName × ByteArray × Nat × Option FieldType × Nat × Nat × Nat × Nat := (yX1_unlearn, cX1_unlearn, 4, (some .int), 0, 0, 0, 0)
theorem gcd_X1_unlearn : Cond.code yX1_unlearn cX1_unlearn 4 (some .int) ∈ wsG := wsG_of 280 (by decide +kernel) rfl
def mX1_hindrance : MethodName × ByteArray × Nat × Option FieldType × Nat × Nat × Nat × Nat := (yX1_hindrance, cX1_hindrance, 4, (some .int), 2, 42, 0, 0)
theorem gcd_X1_hindrance : Cond.code yX1_hindrance cX1_hindrance 4 (some .int) ∈ wsG := wsG_of 391 (by decide +kernel) rfl
def mX1_erase : MethodName × ByteArray × Nat × Option FieldType × Nat × Nat × Nat × Nat := (yX1_erase, cX1_erase, 3, none, 0, 0, 0, 0)
theorem gcd_X1_erase : Cond.code yX1_erase cX1_erase 3 none ∈ wsG := wsG_of 557 (by decide +kernel) rfl
def mX1_siblingFact : MethodName × ByteArray × Nat × Option FieldType × Nat × Nat × Nat × Nat := (yX1_siblingFact, cX1_siblingFact, 6, (some .int), 2, 45, 0, 0)
theorem gcd_X1_siblingFact : Cond.code yX1_siblingFact cX1_siblingFact 6 (some .int) ∈ wsG := wsG_of 405 (by decide +kernel) rfl
def mX1_knowers : MethodName × ByteArray × Nat × Option FieldType × Nat × Nat × Nat × Nat := (yX1_knowers, cX1_knowers, 4, (some .int), 1, 22, 0, 0)
theorem gcd_X1_knowers : Cond.code yX1_knowers cX1_knowers 4 (some .int) ∈ wsG := wsG_of 413 (by decide +kernel) rfl
def mX1_holders : MethodName × ByteArray × Nat × Option FieldType × Nat × Nat × Nat × Nat := (yX1_holders, cX1_holders, 4, (some .int), 1, 22, 0, 0)
theorem gcd_X1_holders : Cond.code yX1_holders cX1_holders 4 (some .int) ∈ wsG := wsG_of 360 (by decide +kernel) rfl
def mX1_keyFact : MethodName × ByteArray × Nat × Option FieldType × Nat × Nat × Nat × Nat := (yX1_keyFact, cX1_keyFact, 2, (some .int), 4, 87, 0, 0)
theorem gcd_X1_keyFact : Cond.code yX1_keyFact cX1_keyFact 2 (some .int) ∈ wsG := wsG_of 352 (by decide +kernel) rfl
def mX1_unlikeSiblings : MethodName × ByteArray × Nat × Option FieldType × Nat × Nat × Nat × Nat := (yX1_unlikeSiblings, cX1_unlikeSiblings, 5, (some .int), 2, 45, 0, 0)
theorem gcd_X1_unlikeSiblings : Cond.code yX1_unlikeSiblings cX1_unlikeSiblings 5 (some .int) ∈ wsG := wsG_of 356 (by decide +kernel) rfl
def mX1_writesInAll : MethodName × ByteArray × Nat × Option FieldType × Nat × Nat × Nat × Nat := (yX1_writesInAll, cX1_writesInAll, 3, (some .int), 0, 0, 0, 0)
theorem gcd_X1_writesInAll : Cond.code yX1_writesInAll cX1_writesInAll 3 (some .int) ∈ wsG := wsG_of 368 (by decide +kernel) rfl
def mX1_agreeingPairs : MethodName × ByteArray × Nat × Option FieldType × Nat × Nat × Nat × Nat := (yX1_agreeingPairs, cX1_agreeingPairs, 4, (some .int), 1, 22, 0, 0)
theorem gcd_X1_agreeingPairs : Cond.code yX1_agreeingPairs cX1_agreeingPairs 4 (some .int) ∈ wsG := wsG_of 372 (by decide +kernel) rfl
def mX1_allSeeTheSame : MethodName × ByteArray × Nat × Option FieldType × Nat × Nat × Nat × Nat := (yX1_allSeeTheSame, cX1_allSeeTheSame, 2, (some .boolean), 1, 22, 0, 0)
theorem gcd_X1_allSeeTheSame : Cond.code yX1_allSeeTheSame cX1_allSeeTheSame 2 (some .boolean) ∈ wsG := wsG_of 380 (by decide +kernel) rfl
def mX1_forgettable : MethodName × ByteArray × Nat × Option FieldType × Nat × Nat × Nat × Nat := (yX1_forgettable, cX1_forgettable, 3, (some .int), 3, 65, 0, 0)
theorem gcd_X1_forgettable : Cond.code yX1_forgettable cX1_forgettable 3 (some .int) ∈ wsG := wsG_of 387 (by decide +kernel) rfl
def mX2_init : MethodName × ByteArray × Nat × Option FieldType × Nat × Nat × Nat × Nat := (yX2_init, cX2_init, 1, none, 1, 24, 0, 0)
theorem gcd_X2_init : Cond.code yX2_init cX2_init 1 none ∈ wsG := wsG_of 113 (by decide +kernel) rfl
def mX2_restart : MethodName × ByteArray × Nat × Option FieldType × Nat × Nat × Nat × Nat := (yX2_restart, cX2_restart, 1, none, 0, 0, 0, 0)
theorem gcd_X2_restart : Cond.code yX2_restart cX2_restart 1 none ∈ wsG := wsG_of 575 (by decide +kernel) rfl
def mX2_isWhole : MethodName × ByteArray × Nat × Option FieldType × Nat × Nat × Nat × Nat := (yX2_isWhole, cX2_isWhole, 1, (some .boolean), 2, 40, 0, 0)
theorem gcd_X2_isWhole : Cond.code yX2_isWhole cX2_isWhole 1 (some .boolean) ∈ wsG := wsG_of 587 (by decide +kernel) rfl
def mX2_takes : MethodName × ByteArray × Nat × Option FieldType × Nat × Nat × Nat × Nat := (yX2_takes, cX2_takes, 3, (some .boolean), 5, 106, 0, 0)
theorem gcd_X2_takes : Cond.code yX2_takes cX2_takes 3 (some .boolean) ∈ wsG := wsG_of 579 (by decide +kernel) rfl
def mX2_shape : MethodName × ByteArray × Nat × Option FieldType × Nat × Nat × Nat × Nat := (yX2_shape, cX2_shape, 1, (some (.object "java/lang/String")), 0, 0, 0, 0)
theorem gcd_X2_shape : Cond.code yX2_shape cX2_shape 1 (some (.object "java/lang/String")) ∈ wsG := wsG_of 591 (by decide +kernel) rfl
def mX2_takesKind : MethodName × ByteArray × Nat × Option FieldType × Nat × Nat × Nat × Nat := (yX2_takesKind, cX2_takesKind, 2, (some .boolean), 0, 0, 0, 0)
theorem gcd_X2_takesKind : Cond.code yX2_takesKind cX2_takesKind 2 (some .boolean) ∈ wsG := wsG_of 583 (by decide +kernel) rfl
def mX2_takesDigit : MethodName × ByteArray × Nat × Option FieldType × Nat × Nat × Nat × Nat := (yX2_takesDigit, cX2_takesDigit, 4, (some .boolean), 0, 0, 0, 0)
theorem gcd_X2_takesDigit : Cond.code yX2_takesDigit cX2_takesDigit 4 (some .boolean) ∈ wsG := wsG_of 650 (by decide +kernel) rfl
def mX2_takesEnd : MethodName × ByteArray × Nat × Option FieldType × Nat × Nat × Nat × Nat := (yX2_takesEnd, cX2_takesEnd, 3, (some .boolean), 2, 40, 0, 0)
theorem gcd_X2_takesEnd : Cond.code yX2_takesEnd cX2_takesEnd 3 (some .boolean) ∈ wsG := wsG_of 607 (by decide +kernel) rfl
def mX3_init : MethodName × ByteArray × Nat × Option FieldType × Nat × Nat × Nat × Nat := (yX3_init, cX3_init, 2, none, 3, 65, 64, 279)
theorem gcd_X3_init : Cond.code yX3_init cX3_init 2 none ∈ wsG := wsG_of 30 (by decide +kernel) rfl
def mX3_become : MethodName × ByteArray × Nat × Option FieldType × Nat × Nat × Nat × Nat := (yX3_become, cX3_become, 3, none, 3, 87, 0, 0)
theorem gcd_X3_become : Cond.code yX3_become cX3_become 3 none ∈ wsG := wsG_of 250 (by decide +kernel) rfl
def mX3_replace : MethodName × ByteArray × Nat × Option FieldType × Nat × Nat × Nat × Nat := (yX3_replace, cX3_replace, 6, (some .int), 3, 69, 0, 0)
theorem gcd_X3_replace : Cond.code yX3_replace cX3_replace 6 (some .int) ∈ wsG := wsG_of 493 (by decide +kernel) rfl
def mX3_bring : MethodName × ByteArray × Nat × Option FieldType × Nat × Nat × Nat × Nat := (yX3_bring, cX3_bring, 5, (some .int), 4, 91, 0, 0)
theorem gcd_X3_bring : Cond.code yX3_bring cX3_bring 5 (some .int) ∈ wsG := wsG_of 528 (by decide +kernel) rfl
def mX3_bringAll : MethodName × ByteArray × Nat × Option FieldType × Nat × Nat × Nat × Nat := (yX3_bringAll, cX3_bringAll, 4, (some .boolean), 5, 115, 0, 0)
theorem gcd_X3_bringAll : Cond.code yX3_bringAll cX3_bringAll 4 (some .boolean) ∈ wsG := wsG_of 696 (by decide +kernel) rfl
def mX3_siblingsInAll : MethodName × ByteArray × Nat × Option FieldType × Nat × Nat × Nat × Nat := (yX3_siblingsInAll, cX3_siblingsInAll, 4, (some .int), 0, 0, 0, 0)
theorem gcd_X3_siblingsInAll : Cond.code yX3_siblingsInAll cX3_siblingsInAll 4 (some .int) ∈ wsG := wsG_of 331 (by decide +kernel) rfl
def mX3_mostSiblings : MethodName × ByteArray × Nat × Option FieldType × Nat × Nat × Nat × Nat := (yX3_mostSiblings, cX3_mostSiblings, 4, (some .int), 1, 24, 0, 0)
theorem gcd_X3_mostSiblings : Cond.code yX3_mostSiblings cX3_mostSiblings 4 (some .int) ∈ wsG := wsG_of 335 (by decide +kernel) rfl
def mX4_init : MethodName × ByteArray × Nat × Option FieldType × Nat × Nat × Nat × Nat := (yX4_init, cX4_init, 2, none, 4, 86, 523, 2352)
theorem gcd_X4_init : Cond.code yX4_init cX4_init 2 none ∈ wsG := wsG_of 22 (by decide +kernel) rfl
def mX4_read : MethodName × ByteArray × Nat × Option FieldType × Nat × Nat × Nat × Nat := (yX4_read, cX4_read, 5, (some .int), 8, 133, 3, 18)
theorem gcd_X4_read : Cond.code yX4_read cX4_read 5 (some .int) ∈ wsG := wsG_of 164 (by decide +kernel) rfl
def mX4_write : MethodName × ByteArray × Nat × Option FieldType × Nat × Nat × Nat × Nat := (yX4_write, cX4_write, 5, (some .int), 8, 133, 5, 30)
theorem gcd_X4_write : Cond.code yX4_write cX4_write 5 (some .int) ∈ wsG := wsG_of 483 (by decide +kernel) rfl
def mX4_pull : MethodName × ByteArray × Nat × Option FieldType × Nat × Nat × Nat × Nat := (yX4_pull, cX4_pull, 4, (some .int), 8, 133, 5, 30)
theorem gcd_X4_pull : Cond.code yX4_pull cX4_pull 4 (some .int) ∈ wsG := wsG_of 514 (by decide +kernel) rfl
def mX4_join : MethodName × ByteArray × Nat × Option FieldType × Nat × Nat × Nat × Nat := (yX4_join, cX4_join, 7, (some .int), 8, 133, 5, 30)
theorem gcd_X4_join : Cond.code yX4_join cX4_join 7 (some .int) ∈ wsG := wsG_of 539 (by decide +kernel) rfl
def mX4_lose : MethodName × ByteArray × Nat × Option FieldType × Nat × Nat × Nat × Nat := (yX4_lose, cX4_lose, 3, (some .int), 7, 129, 2, 12)
theorem gcd_X4_lose : Cond.code yX4_lose cX4_lose 3 (some .int) ∈ wsG := wsG_of 276 (by decide +kernel) rfl
def mX4_forget : MethodName × ByteArray × Nat × Option FieldType × Nat × Nat × Nat × Nat := (yX4_forget, cX4_forget, 5, (some .int), 7, 129, 3, 18)
theorem gcd_X4_forget : Cond.code yX4_forget cX4_forget 5 (some .int) ∈ wsG := wsG_of 552 (by decide +kernel) rfl
def mX4_pullAll : MethodName × ByteArray × Nat × Option FieldType × Nat × Nat × Nat × Nat := (yX4_pullAll, cX4_pullAll, 2, (some .int), 6, 138, 1, 6)
theorem gcd_X4_pullAll : Cond.code yX4_pullAll cX4_pullAll 2 (some .int) ∈ wsG := wsG_of 692 (by decide +kernel) rfl
def mX4_append : MethodName × ByteArray × Nat × Option FieldType × Nat × Nat × Nat × Nat := (yX4_append, cX4_append, 2, (some .int), 6, 90, 2, 12)
theorem gcd_X4_append : Cond.code yX4_append cX4_append 2 (some .int) ∈ wsG := wsG_of 561 (by decide +kernel) rfl
def mX4_clearBuffer : MethodName × ByteArray × Nat × Option FieldType × Nat × Nat × Nat × Nat := (yX4_clearBuffer, cX4_clearBuffer, 2, (some .int), 0, 0, 0, 0)
theorem gcd_X4_clearBuffer : Cond.code yX4_clearBuffer cX4_clearBuffer 2 (some .int) ∈ wsG := wsG_of 766 (by decide +kernel) rfl
def mX4_firstError : MethodName × ByteArray × Nat × Option FieldType × Nat × Nat × Nat × Nat := (yX4_firstError, cX4_firstError, 1, (some .int), 7, 149, 0, 0)
theorem gcd_X4_firstError : Cond.code yX4_firstError cX4_firstError 1 (some .int) ∈ wsG := wsG_of 737 (by decide +kernel) rfl
def mX4_runAll : MethodName × ByteArray × Nat × Option FieldType × Nat × Nat × Nat × Nat := (yX4_runAll, cX4_runAll, 2, (some .int), 7, 150, 1, 6)
theorem gcd_X4_runAll : Cond.code yX4_runAll cX4_runAll 2 (some .int) ∈ wsG := wsG_of 567 (by decide +kernel) rfl
def mX4_undo : MethodName × ByteArray × Nat × Option FieldType × Nat × Nat × Nat × Nat := (yX4_undo, cX4_undo, 1, (some .int), 6, 109, 1, 6)
theorem gcd_X4_undo : Cond.code yX4_undo cX4_undo 1 (some .int) ∈ wsG := wsG_of 284 (by decide +kernel) rfl
def mX4_sibling : MethodName × ByteArray × Nat × Option FieldType × Nat × Nat × Nat × Nat := (yX4_sibling, cX4_sibling, 5, (some .int), 7, 111, 4, 24)
theorem gcd_X4_sibling : Cond.code yX4_sibling cX4_sibling 5 (some .int) ∈ wsG := wsG_of 664 (by decide +kernel) rfl
def mX4_vector : MethodName × ByteArray × Nat × Option FieldType × Nat × Nat × Nat × Nat := (yX4_vector, cX4_vector, 4, (some .int), 8, 133, 3, 18)
theorem gcd_X4_vector : Cond.code yX4_vector cX4_vector 4 (some .int) ∈ wsG := wsG_of 668 (by decide +kernel) rfl
def mX4_knows : MethodName × ByteArray × Nat × Option FieldType × Nat × Nat × Nat × Nat := (yX4_knows, cX4_knows, 4, (some .int), 7, 111, 3, 18)
theorem gcd_X4_knows : Cond.code yX4_knows cX4_knows 4 (some .int) ∈ wsG := wsG_of 672 (by decide +kernel) rfl
def mX4_key : MethodName × ByteArray × Nat × Option FieldType × Nat × Nat × Nat × Nat := (yX4_key, cX4_key, 3, (some .int), 7, 111, 2, 12)
theorem gcd_X4_key : Cond.code yX4_key cX4_key 3 (some .int) ∈ wsG := wsG_of 676 (by decide +kernel) rfl
def mX4_count : MethodName × ByteArray × Nat × Option FieldType × Nat × Nat × Nat × Nat := (yX4_count, cX4_count, 2, (some .int), 7, 111, 1, 6)
theorem gcd_X4_count : Cond.code yX4_count cX4_count 2 (some .int) ∈ wsG := wsG_of 304 (by decide +kernel) rfl
def mX4_ifWritten : MethodName × ByteArray × Nat × Option FieldType × Nat × Nat × Nat × Nat := (yX4_ifWritten, cX4_ifWritten, 5, (some .int), 8, 133, 4, 24)
theorem gcd_X4_ifWritten : Cond.code yX4_ifWritten cX4_ifWritten 5 (some .int) ∈ wsG := wsG_of 680 (by decide +kernel) rfl
def mX4_ifPulled : MethodName × ByteArray × Nat × Option FieldType × Nat × Nat × Nat × Nat := (yX4_ifPulled, cX4_ifPulled, 5, (some .int), 8, 133, 5, 30)
theorem gcd_X4_ifPulled : Cond.code yX4_ifPulled cX4_ifPulled 5 (some .int) ∈ wsG := wsG_of 684 (by decide +kernel) rfl
def mX4_whyNot : MethodName × ByteArray × Nat × Option FieldType × Nat × Nat × Nat × Nat := (yX4_whyNot, cX4_whyNot, 3, (some .int), 7, 111, 2, 12)
theorem gcd_X4_whyNot : Cond.code yX4_whyNot cX4_whyNot 3 (some .int) ∈ wsG := wsG_of 688 (by decide +kernel) rfl
def mX4_agreement : MethodName × ByteArray × Nat × Option FieldType × Nat × Nat × Nat × Nat := (yX4_agreement, cX4_agreement, 1, (some .double), 3, 67, 0, 0)
theorem gcd_X4_agreement : Cond.code yX4_agreement cX4_agreement 1 (some .double) ∈ wsG := wsG_of 719 (by decide +kernel) rfl
def mX4_digest : MethodName × ByteArray × Nat × Option FieldType × Nat × Nat × Nat × Nat := (yX4_digest, cX4_digest, 5, (some .long), 6, 133, 0, 0)
theorem gcd_X4_digest : Cond.code yX4_digest cX4_digest 5 (some .long) ∈ wsG := wsG_of 340 (by decide +kernel) rfl
def mX4_checkIndex : MethodName × ByteArray × Nat × Option FieldType × Nat × Nat × Nat × Nat := (yX4_checkIndex, cX4_checkIndex, 2, none, 6, 90, 1, 6)
theorem gcd_X4_checkIndex : Cond.code yX4_checkIndex cX4_checkIndex 2 none ∈ wsG := wsG_of 170 (by decide +kernel) rfl
def mX4_checkUpTo : MethodName × ByteArray × Nat × Option FieldType × Nat × Nat × Nat × Nat := (yX4_checkUpTo, cX4_checkUpTo, 2, none, 6, 90, 1, 6)
theorem gcd_X4_checkUpTo : Cond.code yX4_checkUpTo cX4_checkUpTo 2 none ∈ wsG := wsG_of 307 (by decide +kernel) rfl
def mX4_checkWriterKeyStore : MethodName × ByteArray × Nat × Option FieldType × Nat × Nat × Nat × Nat := (yX4_checkWriterKeyStore, cX4_checkWriterKeyStore, 3, none, 7, 111, 3, 18)
theorem gcd_X4_checkWriterKeyStore : Cond.code yX4_checkWriterKeyStore cX4_checkWriterKeyStore 3 none ∈ wsG := wsG_of 167 (by decide +kernel) rfl
def mX4_checkTwoStores : MethodName × ByteArray × Nat × Option FieldType × Nat × Nat × Nat × Nat := (yX4_checkTwoStores, cX4_checkTwoStores, 3, none, 7, 111, 4, 24)
theorem gcd_X4_checkTwoStores : Cond.code yX4_checkTwoStores cX4_checkTwoStores 3 none ∈ wsG := wsG_of 517 (by decide +kernel) rfl
def mX4_save : MethodName × ByteArray × Nat × Option FieldType × Nat × Nat × Nat × Nat := (yX4_save, cX4_save, 1, none, 4, 109, 0, 0)
theorem gcd_X4_save : Cond.code yX4_save cX4_save 1 none ∈ wsG := wsG_of 242 (by decide +kernel) rfl
def mX4_dropOldest : MethodName × ByteArray × Nat × Option FieldType × Nat × Nat × Nat × Nat := (yX4_dropOldest, cX4_dropOldest, 3, none, 0, 0, 0, 0)
theorem gcd_X4_dropOldest : Cond.code yX4_dropOldest cX4_dropOldest 3 none ∈ wsG := wsG_of 246 (by decide +kernel) rfl
def mX4_scanBuffer : MethodName × ByteArray × Nat × Option FieldType × Nat × Nat × Nat × Nat := (yX4_scanBuffer, cX4_scanBuffer, 2, (some .int), 6, 128, 0, 0)
theorem gcd_X4_scanBuffer : Cond.code yX4_scanBuffer cX4_scanBuffer 2 (some .int) ∈ wsG := wsG_of 571 (by decide +kernel) rfl
def mX4_runParts : MethodName × ByteArray × Nat × Option FieldType × Nat × Nat × Nat × Nat := (yX4_runParts, cX4_runParts, 3, (some .int), 6, 128, 0, 0)
theorem gcd_X4_runParts : Cond.code yX4_runParts cX4_runParts 3 (some .int) ∈ wsG := wsG_of 656 (by decide +kernel) rfl
def mX4_runPart : MethodName × ByteArray × Nat × Option FieldType × Nat × Nat × Nat × Nat := (yX4_runPart, cX4_runPart, 2, (some .boolean), 4, 94, 0, 0)
theorem gcd_X4_runPart : Cond.code yX4_runPart cX4_runPart 2 (some .boolean) ∈ wsG := wsG_of 660 (by decide +kernel) rfl
def mX4_tally : MethodName × ByteArray × Nat × Option FieldType × Nat × Nat × Nat × Nat := (yX4_tally, cX4_tally, 2, (some .int), 2, 47, 0, 0)
theorem gcd_X4_tally : Cond.code yX4_tally cX4_tally 2 (some .int) ∈ wsG := wsG_of 327 (by decide +kernel) rfl
def mX4_shareOfAgreement : MethodName × ByteArray × Nat × Option FieldType × Nat × Nat × Nat × Nat := (yX4_shareOfAgreement, cX4_shareOfAgreement, 3, (some .double), 2, 45, 0, 0)
theorem gcd_X4_shareOfAgreement : Cond.code yX4_shareOfAgreement cX4_shareOfAgreement 3 (some .double) ∈ wsG := wsG_of 454 (by decide +kernel) rfl
def mX4_mix : MethodName × ByteArray × Nat × Option FieldType × Nat × Nat × Nat × Nat := (yX4_mix, cX4_mix, 4, (some .long), 0, 0, 0, 0)
theorem gcd_X4_mix : Cond.code yX4_mix cX4_mix 4 (some .long) ∈ wsG := wsG_of 344 (by decide +kernel) rfl
def mX4_mixKey : MethodName × ByteArray × Nat × Option FieldType × Nat × Nat × Nat × Nat := (yX4_mixKey, cX4_mixKey, 6, (some .long), 5, 108, 0, 0)
theorem gcd_X4_mixKey : Cond.code yX4_mixKey cX4_mixKey 6 (some .long) ∈ wsG := wsG_of 348 (by decide +kernel) rfl
def mX4_mixStore : MethodName × ByteArray × Nat × Option FieldType × Nat × Nat × Nat × Nat := (yX4_mixStore, cX4_mixStore, 8, (some .long), 3, 70, 0, 0)
theorem gcd_X4_mixStore : Cond.code yX4_mixStore cX4_mixStore 8 (some .long) ∈ wsG := wsG_of 401 (by decide +kernel) rfl
def mX4_mixRow : MethodName × ByteArray × Nat × Option FieldType × Nat × Nat × Nat × Nat := (yX4_mixRow, cX4_mixRow, 6, (some .long), 1, 23, 0, 0)
theorem gcd_X4_mixRow : Cond.code yX4_mixRow cX4_mixRow 6 (some .long) ∈ wsG := wsG_of 419 (by decide +kernel) rfl
def mX4_bitsOfShare : MethodName × ByteArray × Nat × Option FieldType × Nat × Nat × Nat × Nat := (yX4_bitsOfShare, cX4_bitsOfShare, 10, (some .long), 0, 0, 0, 0)
theorem gcd_X4_bitsOfShare : Cond.code yX4_bitsOfShare cX4_bitsOfShare 10 (some .long) ∈ wsG := wsG_of 459 (by decide +kernel) rfl
def mX4_writerOf : MethodName × ByteArray × Nat × Option FieldType × Nat × Nat × Nat × Nat := (yX4_writerOf, cX4_writerOf, 1, (some .int), 0, 0, 0, 0)
theorem gcd_X4_writerOf : Cond.code yX4_writerOf cX4_writerOf 1 (some .int) ∈ wsG := wsG_of 398 (by decide +kernel) rfl
def mX4_numberOf : MethodName × ByteArray × Nat × Option FieldType × Nat × Nat × Nat × Nat := (yX4_numberOf, cX4_numberOf, 1, (some .int), 0, 0, 0, 0)
theorem gcd_X4_numberOf : Cond.code yX4_numberOf cX4_numberOf 1 (some .int) ∈ wsG := wsG_of 409 (by decide +kernel) rfl
def mX4_covers : MethodName × ByteArray × Nat × Option FieldType × Nat × Nat × Nat × Nat := (yX4_covers, cX4_covers, 3, (some .boolean), 0, 0, 0, 0)
theorem gcd_X4_covers : Cond.code yX4_covers cX4_covers 3 (some .boolean) ∈ wsG := wsG_of 416 (by decide +kernel) rfl
def mX4_mergeInto : MethodName × ByteArray × Nat × Option FieldType × Nat × Nat × Nat × Nat := (yX4_mergeInto, cX4_mergeInto, 3, none, 1, 24, 0, 0)
theorem gcd_X4_mergeInto : Cond.code yX4_mergeInto cX4_mergeInto 3 none ∈ wsG := wsG_of 269 (by decide +kernel) rfl
def mX4_sameNumbers : MethodName × ByteArray × Nat × Option FieldType × Nat × Nat × Nat × Nat := (yX4_sameNumbers, cX4_sameNumbers, 3, (some .boolean), 0, 0, 0, 0)
theorem gcd_X4_sameNumbers : Cond.code yX4_sameNumbers cX4_sameNumbers 3 (some .boolean) ∈ wsG := wsG_of 383 (by decide +kernel) rfl
def mJ0_length_8abf5 : MethodName × ByteArray × Nat × Option FieldType × Nat × Nat × Nat × Nat := (yJ0_length_8abf5, cJ0_length_8abf5, 1, (some .int), 1, 20, 0, 0)
theorem gcd_J0_length_8abf5 : Cond.code yJ0_length_8abf5 cJ0_length_8abf5 1 (some .int) ∈ wsG := wsG_of 597 (by decide +kernel) rfl
def mJ0_charAt_5068e : MethodName × ByteArray × Nat × Option FieldType × Nat × Nat × Nat × Nat := (yJ0_charAt_5068e, cJ0_charAt_5068e, 2, (some .char), 4, 85, 0, 0)
theorem gcd_J0_charAt_5068e : Cond.code yJ0_charAt_5068e cJ0_charAt_5068e 2 (some .char) ∈ wsG := wsG_of 612 (by decide +kernel) rfl
def mJ0_coder_7d493 : MethodName × ByteArray × Nat × Option FieldType × Nat × Nat × Nat × Nat := (yJ0_coder_7d493, cJ0_coder_7d493, 1, (some .byte), 0, 0, 0, 0)
theorem gcd_J0_coder_7d493 : Cond.code yJ0_coder_7d493 cJ0_coder_7d493 1 (some .byte) ∈ wsG := wsG_of 601 (by decide +kernel) rfl
def mJ0_isLatin1_aae02 : MethodName × ByteArray × Nat × Option FieldType × Nat × Nat × Nat × Nat := (yJ0_isLatin1_aae02, cJ0_isLatin1_aae02, 1, (some .boolean), 0, 0, 0, 0)
theorem gcd_J0_isLatin1_aae02 : Cond.code yJ0_isLatin1_aae02 cJ0_isLatin1_aae02 1 (some .boolean) ∈ wsG := wsG_of 616 (by decide +kernel) rfl
def mJ0_checkIndex_df160 : MethodName × ByteArray × Nat × Option FieldType × Nat × Nat × Nat × Nat := (yJ0_checkIndex_df160, cJ0_checkIndex_df160, 2, none, 1, 22, 0, 0)
theorem gcd_J0_checkIndex_df160 : Cond.code yJ0_checkIndex_df160 cJ0_checkIndex_df160 2 none ∈ wsG := wsG_of 622 (by decide +kernel) rfl
def mJ1_charAt_3b067 : MethodName × ByteArray × Nat × Option FieldType × Nat × Nat × Nat × Nat := (yJ1_charAt_3b067, cJ1_charAt_3b067, 2, (some .char), 2, 43, 0, 0)
theorem gcd_J1_charAt_3b067 : Cond.code yJ1_charAt_3b067 cJ1_charAt_3b067 2 (some .char) ∈ wsG := wsG_of 619 (by decide +kernel) rfl
def mJ2_getChar_3b067 : MethodName × ByteArray × Nat × Option FieldType × Nat × Nat × Nat × Nat := (yJ2_getChar_3b067, cJ2_getChar_3b067, 2, (some .char), 1, 20, 0, 0)
theorem gcd_J2_getChar_3b067 : Cond.code yJ2_getChar_3b067 cJ2_getChar_3b067 2 (some .char) ∈ wsG := wsG_of 640 (by decide +kernel) rfl
def mJ2_length_9d52b : MethodName × ByteArray × Nat × Option FieldType × Nat × Nat × Nat × Nat := (yJ2_length_9d52b, cJ2_length_9d52b, 1, (some .int), 0, 0, 0, 0)
theorem gcd_J2_length_9d52b : Cond.code yJ2_length_9d52b cJ2_length_9d52b 1 (some .int) ∈ wsG := wsG_of 636 (by decide +kernel) rfl
def mJ2_charAt_3b067 : MethodName × ByteArray × Nat × Option FieldType × Nat × Nat × Nat × Nat := (yJ2_charAt_3b067, cJ2_charAt_3b067, 2, (some .char), 3, 64, 0, 0)
theorem gcd_J2_charAt_3b067 : Cond.code yJ2_charAt_3b067 cJ2_charAt_3b067 2 (some .char) ∈ wsG := wsG_of 630 (by decide +kernel) rfl
def mJ2_checkIndex_2214a : MethodName × ByteArray × Nat × Option FieldType × Nat × Nat × Nat × Nat := (yJ2_checkIndex_2214a, cJ2_checkIndex_2214a, 2, none, 2, 43, 0, 0)
theorem gcd_J2_checkIndex_2214a : Cond.code yJ2_checkIndex_2214a cJ2_checkIndex_2214a 2 none ∈ wsG := wsG_of 633 (by decide +kernel) rfl
def mJ3_checkIndex_8e157 : MethodName × ByteArray × Nat × Option FieldType × Nat × Nat × Nat × Nat := (yJ3_checkIndex_8e157, cJ3_checkIndex_8e157, 3, (some .int), 0, 0, 0, 0)
theorem gcd_J3_checkIndex_8e157 : Cond.code yJ3_checkIndex_8e157 cJ3_checkIndex_8e157 3 (some .int) ∈ wsG := wsG_of 627 (by decide +kernel) rfl
