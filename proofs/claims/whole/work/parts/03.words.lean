/-! the good words of the tables, and what each is needed for, by its place -/
def wsG : List Cond := lw_tbl.filter goodWord
theorem wsG_in : ∀ w ∈ wsG, w ∈ lw_tbl := fun w h => (List.mem_filter.mp h).1
theorem wsG_of {w : Cond} (i : Nat) (h : tables_1[i]? = some w) (g : goodWord w = true) : w ∈ wsG := List.mem_filter.mpr ⟨List.mem_append_right _ (List.mem_of_getElem? h), g⟩
theorem wsG_sel {w : Cond} (i : Nat) (h : (k2_sels lw_privs)[i]? = some w) (g : goodWord w = true) : w ∈ wsG := List.mem_filter.mpr ⟨List.mem_append_left _ (List.mem_of_getElem? h), g⟩
theorem wsG_good : GoodIn wsG wsG := fun w h => ⟨h, good_of_word (List.mem_filter.mp h).2⟩
theorem wsG_goodC {w : Cond} (h : w ∈ wsG) : GoodIn wsG (w :: wsG) := fun x hx => (List.mem_cons.mp hx).elim (fun e => by rw [e]; exact wsG_good w h) (fun hx => wsG_good x hx)
theorem gw_ai : Cond.arrayClass .int ∈ wsG := wsG_of 70 (by decide +kernel) rfl
theorem gw_al : Cond.arrayClass .long ∈ wsG := wsG_of 1099 (by decide +kernel) rfl
theorem gw_oi : Cond.instanceMethod objectInit ∈ wsG := wsG_of 26 (by decide +kernel) rfl
theorem gw_oc : Cond.code objectInit ⟨#[0xb1]⟩ 1 none ∈ wsG := wsG_of 27 (by decide +kernel) rfl
theorem gw_mx1 : Cond.static Lib.Math.max.name ∈ wsG := wsG_of 290 (by decide +kernel) rfl
theorem gw_mx2 : Cond.initialized "java/lang/Math" ∈ wsG := wsG_of 12 (by decide +kernel) rfl
theorem gw_mx3 : Cond.code Lib.Math.max.name Lib.Math.max.code 2 (some .int) ∈ wsG := wsG_of 291 (by decide +kernel) rfl
theorem gw_mn1 : Cond.static Lib.Math.min.name ∈ wsG := wsG_of 625 (by decide +kernel) rfl
theorem gw_mn3 : Cond.code Lib.Math.min.name Lib.Math.min.code 2 (some .int) ∈ wsG := wsG_of 626 (by decide +kernel) rfl
theorem gw_cp1 : Cond.native arraycopyName ∈ wsG := wsG_of 503 (by decide +kernel) rfl
theorem gw_cp2 : Cond.static arraycopyName ∈ wsG := wsG_of 502 (by decide +kernel) rfl
theorem gw_cp3 : Cond.initialized "java/lang/System" ∈ wsG := wsG_of 11 (by decide +kernel) rfl
theorem gly_RX0_0 : u_lay RX0 TX0 0 ∈ wsG := wsG_of 61 (by decide +kernel) rfl
theorem gly_RX0_1 : u_lay RX0 TX0 1 ∈ wsG := wsG_of 63 (by decide +kernel) rfl
theorem gly_RX0_2 : u_lay RX0 TX0 2 ∈ wsG := wsG_of 65 (by decide +kernel) rfl
theorem gly_RX0_3 : u_lay RX0 TX0 3 ∈ wsG := wsG_of 67 (by decide +kernel) rfl
theorem gly_RX0 : ∀ w ∈ u_ws RX0 TX0 4, w ∈ wsG := by
  intro w hw
  obtain ⟨k, hk, rfl⟩ := List.mem_map.mp hw
  have hk := List.mem_range.mp hk
  rcases (show k = 0 ∨ k = 1 ∨ k = 2 ∨ k = 3 by omega) with rfl | rfl | rfl | rfl
  · exact gly_RX0_0
  · exact gly_RX0_1
  · exact gly_RX0_2
  · exact gly_RX0_3
theorem gin_RX0 : Cond.instantiable RX0 4 ∈ wsG := wsG_of 45 (by decide +kernel) rfl
theorem gii_RX0 : Cond.initialized RX0 ∈ wsG := wsG_of 4 (by decide +kernel) rfl
theorem gly_RX1_0 : u_lay RX1 TX1 0 ∈ wsG := wsG_of 78 (by decide +kernel) rfl
theorem gly_RX1_1 : u_lay RX1 TX1 1 ∈ wsG := wsG_of 80 (by decide +kernel) rfl
theorem gly_RX1_2 : u_lay RX1 TX1 2 ∈ wsG := wsG_of 82 (by decide +kernel) rfl
theorem gly_RX1 : ∀ w ∈ u_ws RX1 TX1 3, w ∈ wsG := by
  intro w hw
  obtain ⟨k, hk, rfl⟩ := List.mem_map.mp hw
  have hk := List.mem_range.mp hk
  rcases (show k = 0 ∨ k = 1 ∨ k = 2 by omega) with rfl | rfl | rfl
  · exact gly_RX1_0
  · exact gly_RX1_1
  · exact gly_RX1_2
theorem gin_RX1 : Cond.instantiable RX1 3 ∈ wsG := wsG_of 36 (by decide +kernel) rfl
theorem gii_RX1 : Cond.initialized RX1 ∈ wsG := wsG_of 3 (by decide +kernel) rfl
theorem gly_RX2_0 : u_lay RX2 TX2 0 ∈ wsG := wsG_of 128 (by decide +kernel) rfl
theorem gly_RX2_1 : u_lay RX2 TX2 1 ∈ wsG := wsG_of 130 (by decide +kernel) rfl
theorem gly_RX2_2 : u_lay RX2 TX2 2 ∈ wsG := wsG_of 132 (by decide +kernel) rfl
theorem gly_RX2_3 : u_lay RX2 TX2 3 ∈ wsG := wsG_of 134 (by decide +kernel) rfl
theorem gly_RX2_4 : u_lay RX2 TX2 4 ∈ wsG := wsG_of 136 (by decide +kernel) rfl
theorem gly_RX2_5 : u_lay RX2 TX2 5 ∈ wsG := wsG_of 138 (by decide +kernel) rfl
theorem gly_RX2 : ∀ w ∈ u_ws RX2 TX2 6, w ∈ wsG := by
  intro w hw
  obtain ⟨k, hk, rfl⟩ := List.mem_map.mp hw
  have hk := List.mem_range.mp hk
  rcases (show k = 0 ∨ k = 1 ∨ k = 2 ∨ k = 3 ∨ k = 4 ∨ k = 5 by omega) with rfl | rfl | rfl | rfl | rfl | rfl
  · exact gly_RX2_0
  · exact gly_RX2_1
  · exact gly_RX2_2
  · exact gly_RX2_3
  · exact gly_RX2_4
  · exact gly_RX2_5
theorem gin_RX2 : Cond.instantiable RX2 6 ∈ wsG := wsG_of 112 (by decide +kernel) rfl
theorem gii_RX2 : Cond.initialized RX2 ∈ wsG := wsG_of 5 (by decide +kernel) rfl
theorem gly_RX3_0 : u_lay RX3 TX3 0 ∈ wsG := wsG_of 97 (by decide +kernel) rfl
theorem gly_RX3_1 : u_lay RX3 TX3 1 ∈ wsG := wsG_of 99 (by decide +kernel) rfl
theorem gly_RX3_2 : u_lay RX3 TX3 2 ∈ wsG := wsG_of 101 (by decide +kernel) rfl
theorem gly_RX3_3 : u_lay RX3 TX3 3 ∈ wsG := wsG_of 103 (by decide +kernel) rfl
theorem gly_RX3_4 : u_lay RX3 TX3 4 ∈ wsG := wsG_of 105 (by decide +kernel) rfl
theorem gly_RX3_5 : u_lay RX3 TX3 5 ∈ wsG := wsG_of 107 (by decide +kernel) rfl
theorem gly_RX3 : ∀ w ∈ u_ws RX3 TX3 6, w ∈ wsG := by
  intro w hw
  obtain ⟨k, hk, rfl⟩ := List.mem_map.mp hw
  have hk := List.mem_range.mp hk
  rcases (show k = 0 ∨ k = 1 ∨ k = 2 ∨ k = 3 ∨ k = 4 ∨ k = 5 by omega) with rfl | rfl | rfl | rfl | rfl | rfl
  · exact gly_RX3_0
  · exact gly_RX3_1
  · exact gly_RX3_2
  · exact gly_RX3_3
  · exact gly_RX3_4
  · exact gly_RX3_5
theorem gin_RX3 : Cond.instantiable RX3 6 ∈ wsG := wsG_of 29 (by decide +kernel) rfl
theorem gii_RX3 : Cond.initialized RX3 ∈ wsG := wsG_of 2 (by decide +kernel) rfl
theorem gly_RX4_0 : u_lay RX4 TX4 0 ∈ wsG := wsG_of 148 (by decide +kernel) rfl
theorem gly_RX4_1 : u_lay RX4 TX4 1 ∈ wsG := wsG_of 150 (by decide +kernel) rfl
theorem gly_RX4_2 : u_lay RX4 TX4 2 ∈ wsG := wsG_of 152 (by decide +kernel) rfl
theorem gly_RX4_3 : u_lay RX4 TX4 3 ∈ wsG := wsG_of 154 (by decide +kernel) rfl
theorem gly_RX4_4 : u_lay RX4 TX4 4 ∈ wsG := wsG_of 156 (by decide +kernel) rfl
theorem gly_RX4_5 : u_lay RX4 TX4 5 ∈ wsG := wsG_of 158 (by decide +kernel) rfl
theorem gly_RX4_6 : u_lay RX4 TX4 6 ∈ wsG := wsG_of 160 (by decide +kernel) rfl
theorem gly_RX4 : ∀ w ∈ u_ws RX4 TX4 7, w ∈ wsG := by
  intro w hw
  obtain ⟨k, hk, rfl⟩ := List.mem_map.mp hw
  have hk := List.mem_range.mp hk
  rcases (show k = 0 ∨ k = 1 ∨ k = 2 ∨ k = 3 ∨ k = 4 ∨ k = 5 ∨ k = 6 by omega) with rfl | rfl | rfl | rfl | rfl | rfl | rfl
  · exact gly_RX4_0
  · exact gly_RX4_1
  · exact gly_RX4_2
  · exact gly_RX4_3
  · exact gly_RX4_4
  · exact gly_RX4_5
  · exact gly_RX4_6
theorem gin_RX4 : Cond.instantiable RX4 7 ∈ wsG := wsG_of 21 (by decide +kernel) rfl
theorem gii_RX4 : Cond.initialized RX4 ∈ wsG := wsG_of 1 (by decide +kernel) rfl
theorem gly_RX5_0 : u_lay RX5 TX5 0 ∈ wsG := wsG_of 775 (by decide +kernel) rfl
theorem gly_RX5_1 : u_lay RX5 TX5 1 ∈ wsG := wsG_of 777 (by decide +kernel) rfl
theorem gly_RX5_2 : u_lay RX5 TX5 2 ∈ wsG := wsG_of 779 (by decide +kernel) rfl
theorem gly_RX5_3 : u_lay RX5 TX5 3 ∈ wsG := wsG_of 781 (by decide +kernel) rfl
theorem gly_RX5_4 : u_lay RX5 TX5 4 ∈ wsG := wsG_of 783 (by decide +kernel) rfl
theorem gly_RX5_5 : u_lay RX5 TX5 5 ∈ wsG := wsG_of 785 (by decide +kernel) rfl
theorem gly_RX5_6 : u_lay RX5 TX5 6 ∈ wsG := wsG_of 787 (by decide +kernel) rfl
theorem gly_RX5_7 : u_lay RX5 TX5 7 ∈ wsG := wsG_of 789 (by decide +kernel) rfl
theorem gly_RX5_8 : u_lay RX5 TX5 8 ∈ wsG := wsG_of 791 (by decide +kernel) rfl
theorem gly_RX5_9 : u_lay RX5 TX5 9 ∈ wsG := wsG_of 793 (by decide +kernel) rfl
theorem gly_RX5_10 : u_lay RX5 TX5 10 ∈ wsG := wsG_of 795 (by decide +kernel) rfl
theorem gly_RX5_11 : u_lay RX5 TX5 11 ∈ wsG := wsG_of 797 (by decide +kernel) rfl
theorem gly_RX5_12 : u_lay RX5 TX5 12 ∈ wsG := wsG_of 799 (by decide +kernel) rfl
theorem gly_RX5_13 : u_lay RX5 TX5 13 ∈ wsG := wsG_of 801 (by decide +kernel) rfl
theorem gly_RX5_14 : u_lay RX5 TX5 14 ∈ wsG := wsG_of 803 (by decide +kernel) rfl
theorem gly_RX5_15 : u_lay RX5 TX5 15 ∈ wsG := wsG_of 805 (by decide +kernel) rfl
theorem gly_RX5 : ∀ w ∈ u_ws RX5 TX5 16, w ∈ wsG := by
  intro w hw
  obtain ⟨k, hk, rfl⟩ := List.mem_map.mp hw
  have hk := List.mem_range.mp hk
  rcases (show k = 0 ∨ k = 1 ∨ k = 2 ∨ k = 3 ∨ k = 4 ∨ k = 5 ∨ k = 6 ∨ k = 7 ∨ k = 8 ∨ k = 9 ∨ k = 10 ∨ k = 11 ∨ k = 12 ∨ k = 13 ∨ k = 14 ∨ k = 15 by omega) with rfl | rfl | rfl | rfl | rfl | rfl | rfl | rfl | rfl | rfl | rfl | rfl | rfl | rfl | rfl | rfl
  · exact gly_RX5_0
  · exact gly_RX5_1
  · exact gly_RX5_2
  · exact gly_RX5_3
  · exact gly_RX5_4
  · exact gly_RX5_5
  · exact gly_RX5_6
  · exact gly_RX5_7
  · exact gly_RX5_8
  · exact gly_RX5_9
  · exact gly_RX5_10
  · exact gly_RX5_11
  · exact gly_RX5_12
  · exact gly_RX5_13
  · exact gly_RX5_14
  · exact gly_RX5_15
theorem gin_RX5 : Cond.instantiable RX5 16 ∈ wsG := wsG_of 754 (by decide +kernel) rfl
theorem gii_RX5 : Cond.initialized RX5 ∈ wsG := wsG_of 6 (by decide +kernel) rfl
theorem gii_RL : Cond.initialized RL ∈ wsG := wsG_of 0 (by decide +kernel) rfl
def mX0_init : MethodName × ByteArray × Nat × Option FieldType × Nat × Nat × Nat × Nat := (yX0_init, cX0_init, 1, none, 1, 24, 3, 13)
theorem gcd_X0_init : Cond.code yX0_init cX0_init 1 none ∈ wsG := wsG_of 48 (by decide +kernel) rfl
def mX0_become : MethodName × ByteArray × Nat × Option FieldType × Nat × Nat × Nat × Nat := (yX0_become, cX0_become, 2, none, 1, 44, 0, 0)
theorem gcd_X0_become : Cond.code yX0_become cX0_become 2 none ∈ wsG := wsG_of 500 (by decide +kernel) rfl
def mX0_has : MethodName × ByteArray × Nat × Option FieldType × Nat × Nat × Nat × Nat := (yX0_has, cX0_has, 3, (some .boolean), 0, 0, 0, 0)
theorem gcd_X0_has : Cond.code yX0_has cX0_has 3 (some .boolean) ∈ wsG := wsG_of 314 (by decide +kernel) rfl
def mX0_hasOneOf : MethodName × ByteArray × Nat × Option FieldType × Nat × Nat × Nat × Nat := (yX0_hasOneOf, cX0_hasOneOf, 3, (some .boolean), 1, 20, 0, 0)
theorem gcd_X0_hasOneOf : Cond.code yX0_hasOneOf cX0_hasOneOf 3 (some .boolean) ∈ wsG := wsG_of 338 (by decide +kernel) rfl
def mX0_hasSameSiblings : MethodName × ByteArray × Nat × Option FieldType × Nat × Nat × Nat × Nat := (yX0_hasSameSiblings, cX0_hasSameSiblings, 3, (some .boolean), 0, 0, 0, 0)
theorem gcd_X0_hasSameSiblings : Cond.code yX0_hasSameSiblings cX0_hasSameSiblings 3 (some .boolean) ∈ wsG := wsG_of 270 (by decide +kernel) rfl
def mX0_coveredBy : MethodName × ByteArray × Nat × Option FieldType × Nat × Nat × Nat × Nat := (yX0_coveredBy, cX0_coveredBy, 4, (some .int), 1, 22, 0, 0)
theorem gcd_X0_coveredBy : Cond.code yX0_coveredBy cX0_coveredBy 4 (some .int) ∈ wsG := wsG_of 371 (by decide +kernel) rfl
def mX0_hasDropped : MethodName × ByteArray × Nat × Option FieldType × Nat × Nat × Nat × Nat := (yX0_hasDropped, cX0_hasDropped, 2, (some .boolean), 1, 22, 0, 0)
theorem gcd_X0_hasDropped : Cond.code yX0_hasDropped cX0_hasDropped 2 (some .boolean) ∈ wsG := wsG_of 384 (by decide +kernel) rfl
def mX0_isNew : MethodName × ByteArray × Nat × Option FieldType × Nat × Nat × Nat × Nat := (yX0_isNew, cX0_isNew, 2, (some .boolean), 1, 22, 0, 0)
theorem gcd_X0_isNew : Cond.code yX0_isNew cX0_isNew 2 (some .boolean) ∈ wsG := wsG_of 393 (by decide +kernel) rfl
def mX0_lostTo : MethodName × ByteArray × Nat × Option FieldType × Nat × Nat × Nat × Nat := (yX0_lostTo, cX0_lostTo, 4, (some .int), 2, 43, 0, 0)
theorem gcd_X0_lostTo : Cond.code yX0_lostTo cX0_lostTo 4 (some .int) ∈ wsG := wsG_of 380 (by decide +kernel) rfl
def mX0_gainedFrom : MethodName × ByteArray × Nat × Option FieldType × Nat × Nat × Nat × Nat := (yX0_gainedFrom, cX0_gainedFrom, 4, (some .int), 2, 43, 0, 0)
theorem gcd_X0_gainedFrom : Cond.code yX0_gainedFrom cX0_gainedFrom 4 (some .int) ∈ wsG := wsG_of 389 (by decide +kernel) rfl
def mX0_dropCoveredBy : MethodName × ByteArray × Nat × Option FieldType × Nat × Nat × Nat × Nat := (yX0_dropCoveredBy, cX0_dropCoveredBy, 3, none, 1, 22, 0, 0)
theorem gcd_X0_dropCoveredBy : Cond.code yX0_dropCoveredBy cX0_dropCoveredBy 3 none ∈ wsG := wsG_of 574 (by decide +kernel) rfl
def mX0_takeFrom : MethodName × ByteArray × Nat × Option FieldType × Nat × Nat × Nat × Nat := (yX0_takeFrom, cX0_takeFrom, 3, none, 2, 46, 0, 0)
theorem gcd_X0_takeFrom : Cond.code yX0_takeFrom cX0_takeFrom 3 none ∈ wsG := wsG_of 608 (by decide +kernel) rfl
def mX0_insert : MethodName × ByteArray × Nat × Option FieldType × Nat × Nat × Nat × Nat := (yX0_insert, cX0_insert, 4, none, 0, 0, 0, 0)
theorem gcd_X0_insert : Cond.code yX0_insert cX0_insert 4 none ∈ wsG := wsG_of 582 (by decide +kernel) rfl
def mX0_remove : MethodName × ByteArray × Nat × Option FieldType × Nat × Nat × Nat × Nat := (yX0_remove, cX0_remove, 3, none, 0, 0, 0, 0)
theorem gcd_X0_remove : Cond.code yX0_remove cX0_remove 3 none ∈ wsG := wsG_of 578 (by decide +kernel) rfl
def mX0_valueBy : MethodName × ByteArray × Nat × Option FieldType × Nat × Nat × Nat × Nat := (yX0_valueBy, cX0_valueBy, 6, (some .int), 1, 24, 0, 0)
theorem gcd_X0_valueBy : Cond.code yX0_valueBy cX0_valueBy 6 (some .int) ∈ wsG := wsG_of 622 (by decide +kernel) rfl
def mX1_init : MethodName × ByteArray × Nat × Option FieldType × Nat × Nat × Nat × Nat := (yX1_init, cX1_init, 2, none, 2, 44, 20, 89)
theorem gcd_X1_init : Cond.code yX1_init cX1_init 2 none ∈ wsG := wsG_of 39 (by decide +kernel) rfl
def mX1_become : MethodName × ByteArray × Nat × Option FieldType × Nat × Nat × Nat × Nat := (yX1_become, cX1_become, 3, none, 2, 65, 0, 0)
theorem gcd_X1_become : Cond.code yX1_become cX1_become 3 none ∈ wsG := wsG_of 496 (by decide +kernel) rfl
def mX1_learn : MethodName × ByteArray × Nat × Option FieldType × Nat × Nat × Nat × Nat := (yX1_learn, cX1_learn, 3, none, 2, 46, 0, 0)
theorem gcd_X1_learn : Cond.code yX1_learn cX1_learn 3 none ∈ wsG := wsG_of 508 (by decide +kernel) rfl
def mX1_mayWrite : MethodName × ByteArray × Nat × Option FieldType × Nat × Nat × Nat × Nat := (yX1_mayWrite, cX1_mayWrite, 3, (some .boolean), 3, 69, 0, 0)
theorem gcd_X1_mayWrite : Cond.code yX1_mayWrite cX1_mayWrite 3 (some .boolean) ∈ wsG := wsG_of 544 (by decide +kernel) rfl
def mX1_mayPull : MethodName × ByteArray × Nat × Option FieldType × Nat × Nat × Nat × Nat := (yX1_mayPull, cX1_mayPull, 3, (some .boolean), 4, 91, 0, 0)
theorem gcd_X1_mayPull : Cond.code yX1_mayPull cX1_mayPull 3 (some .boolean) ∈ wsG := wsG_of 597 (by decide +kernel) rfl
def mX1_writeOutlook : MethodName × ByteArray × Nat × Option FieldType × Nat × Nat × Nat × Nat := (yX1_writeOutlook, cX1_writeOutlook, 5, (some .int), 2, 45, 0, 0)
theorem gcd_X1_writeOutlook : Cond.code yX1_writeOutlook cX1_writeOutlook 5 (some .int) ∈ wsG := wsG_of 367 (by decide +kernel) rfl
def mX1_pullOutlook : MethodName × ByteArray × Nat × Option FieldType × Nat × Nat × Nat × Nat := (yX1_pullOutlook, cX1_pullOutlook, 6, (some .int), 3, 66, 0, 0)
theorem gcd_X1_pullOutlook : Cond.code yX1_pullOutlook cX1_pullOutlook 6 (some .int) ∈ wsG := wsG_of 376 (by decide +kernel) rfl
def mX1_put : MethodName × ByteArray × Nat × Option FieldType × Nat × Nat × Nat × Nat := (yX1_put, cX1_put, 4, none, 2, 46, 0, 0)
theorem gcd_X1_put : Cond.code yX1_put cX1_put 4 none ∈ wsG := wsG_of 570 (by decide +kernel) rfl
def mX1_unlearn : MethodName × ByteArray × Nat × Option FieldType × Nat × Nat × Nat × Nat := (yX1_unlearn, cX1_unlearn, 4, (some .int), 0, 0, 0, 0)
theorem gcd_X1_unlearn : Cond.code yX1_unlearn cX1_unlearn 4 (some .int) ∈ wsG := wsG_of 637 (by decide +kernel) rfl
def mX1_hindrance : MethodName × ByteArray × Nat × Option FieldType × Nat × Nat × Nat × Nat := (yX1_hindrance, cX1_hindrance, 4, (some .int), 2, 42, 0, 0)
theorem gcd_X1_hindrance : Cond.code yX1_hindrance cX1_hindrance 4 (some .int) ∈ wsG := wsG_of 334 (by decide +kernel) rfl
def mX1_erase : MethodName × ByteArray × Nat × Option FieldType × Nat × Nat × Nat × Nat := (yX1_erase, cX1_erase, 3, none, 0, 0, 0, 0)
theorem gcd_X1_erase : Cond.code yX1_erase cX1_erase 3 none ∈ wsG := wsG_of 649 (by decide +kernel) rfl
def mX1_siblingFact : MethodName × ByteArray × Nat × Option FieldType × Nat × Nat × Nat × Nat := (yX1_siblingFact, cX1_siblingFact, 6, (some .int), 2, 45, 0, 0)
theorem gcd_X1_siblingFact : Cond.code yX1_siblingFact cX1_siblingFact 6 (some .int) ∈ wsG := wsG_of 348 (by decide +kernel) rfl
def mX1_knowers : MethodName × ByteArray × Nat × Option FieldType × Nat × Nat × Nat × Nat := (yX1_knowers, cX1_knowers, 4, (some .int), 1, 22, 0, 0)
theorem gcd_X1_knowers : Cond.code yX1_knowers cX1_knowers 4 (some .int) ∈ wsG := wsG_of 356 (by decide +kernel) rfl
def mX1_holders : MethodName × ByteArray × Nat × Option FieldType × Nat × Nat × Nat × Nat := (yX1_holders, cX1_holders, 4, (some .int), 1, 22, 0, 0)
theorem gcd_X1_holders : Cond.code yX1_holders cX1_holders 4 (some .int) ∈ wsG := wsG_of 310 (by decide +kernel) rfl
def mX1_keyFact : MethodName × ByteArray × Nat × Option FieldType × Nat × Nat × Nat × Nat := (yX1_keyFact, cX1_keyFact, 2, (some .int), 4, 87, 0, 0)
theorem gcd_X1_keyFact : Cond.code yX1_keyFact cX1_keyFact 2 (some .int) ∈ wsG := wsG_of 302 (by decide +kernel) rfl
def mX1_unlikeSiblings : MethodName × ByteArray × Nat × Option FieldType × Nat × Nat × Nat × Nat := (yX1_unlikeSiblings, cX1_unlikeSiblings, 5, (some .int), 2, 45, 0, 0)
theorem gcd_X1_unlikeSiblings : Cond.code yX1_unlikeSiblings cX1_unlikeSiblings 5 (some .int) ∈ wsG := wsG_of 306 (by decide +kernel) rfl
def mX1_writesInAll : MethodName × ByteArray × Nat × Option FieldType × Nat × Nat × Nat × Nat := (yX1_writesInAll, cX1_writesInAll, 3, (some .int), 0, 0, 0, 0)
theorem gcd_X1_writesInAll : Cond.code yX1_writesInAll cX1_writesInAll 3 (some .int) ∈ wsG := wsG_of 318 (by decide +kernel) rfl
def mX1_agreeingPairs : MethodName × ByteArray × Nat × Option FieldType × Nat × Nat × Nat × Nat := (yX1_agreeingPairs, cX1_agreeingPairs, 4, (some .int), 1, 22, 0, 0)
theorem gcd_X1_agreeingPairs : Cond.code yX1_agreeingPairs cX1_agreeingPairs 4 (some .int) ∈ wsG := wsG_of 266 (by decide +kernel) rfl
def mX1_allSeeTheSame : MethodName × ByteArray × Nat × Option FieldType × Nat × Nat × Nat × Nat := (yX1_allSeeTheSame, cX1_allSeeTheSame, 2, (some .boolean), 1, 22, 0, 0)
theorem gcd_X1_allSeeTheSame : Cond.code yX1_allSeeTheSame cX1_allSeeTheSame 2 (some .boolean) ∈ wsG := wsG_of 323 (by decide +kernel) rfl
def mX1_forgettable : MethodName × ByteArray × Nat × Option FieldType × Nat × Nat × Nat × Nat := (yX1_forgettable, cX1_forgettable, 3, (some .int), 3, 65, 0, 0)
theorem gcd_X1_forgettable : Cond.code yX1_forgettable cX1_forgettable 3 (some .int) ∈ wsG := wsG_of 330 (by decide +kernel) rfl
def mX2_init : MethodName × ByteArray × Nat × Option FieldType × Nat × Nat × Nat × Nat := (yX2_init, cX2_init, 1, none, 1, 24, 0, 0)
theorem gcd_X2_init : Cond.code yX2_init cX2_init 1 none ∈ wsG := wsG_of 115 (by decide +kernel) rfl
def mX2_restart : MethodName × ByteArray × Nat × Option FieldType × Nat × Nat × Nat × Nat := (yX2_restart, cX2_restart, 1, none, 0, 0, 0, 0)
theorem gcd_X2_restart : Cond.code yX2_restart cX2_restart 1 none ∈ wsG := wsG_of 178 (by decide +kernel) rfl
def mX2_isWhole : MethodName × ByteArray × Nat × Option FieldType × Nat × Nat × Nat × Nat := (yX2_isWhole, cX2_isWhole, 1, (some .boolean), 2, 40, 0, 0)
theorem gcd_X2_isWhole : Cond.code yX2_isWhole cX2_isWhole 1 (some .boolean) ∈ wsG := wsG_of 190 (by decide +kernel) rfl
def mX2_takes : MethodName × ByteArray × Nat × Option FieldType × Nat × Nat × Nat × Nat := (yX2_takes, cX2_takes, 3, (some .boolean), 5, 106, 0, 0)
theorem gcd_X2_takes : Cond.code yX2_takes cX2_takes 3 (some .boolean) ∈ wsG := wsG_of 182 (by decide +kernel) rfl
def mX2_shape : MethodName × ByteArray × Nat × Option FieldType × Nat × Nat × Nat × Nat := (yX2_shape, cX2_shape, 1, (some (.object "java/lang/String")), 0, 0, 0, 0)
theorem gcd_X2_shape : Cond.code yX2_shape cX2_shape 1 (some (.object "java/lang/String")) ∈ wsG := wsG_of 194 (by decide +kernel) rfl
def mX2_takesKind : MethodName × ByteArray × Nat × Option FieldType × Nat × Nat × Nat × Nat := (yX2_takesKind, cX2_takesKind, 2, (some .boolean), 0, 0, 0, 0)
theorem gcd_X2_takesKind : Cond.code yX2_takesKind cX2_takesKind 2 (some .boolean) ∈ wsG := wsG_of 186 (by decide +kernel) rfl
def mX2_takesDigit : MethodName × ByteArray × Nat × Option FieldType × Nat × Nat × Nat × Nat := (yX2_takesDigit, cX2_takesDigit, 4, (some .boolean), 0, 0, 0, 0)
theorem gcd_X2_takesDigit : Cond.code yX2_takesDigit cX2_takesDigit 4 (some .boolean) ∈ wsG := wsG_of 253 (by decide +kernel) rfl
def mX2_takesEnd : MethodName × ByteArray × Nat × Option FieldType × Nat × Nat × Nat × Nat := (yX2_takesEnd, cX2_takesEnd, 3, (some .boolean), 2, 40, 0, 0)
theorem gcd_X2_takesEnd : Cond.code yX2_takesEnd cX2_takesEnd 3 (some .boolean) ∈ wsG := wsG_of 210 (by decide +kernel) rfl
def mX3_init : MethodName × ByteArray × Nat × Option FieldType × Nat × Nat × Nat × Nat := (yX3_init, cX3_init, 2, none, 3, 65, 64, 279)
theorem gcd_X3_init : Cond.code yX3_init cX3_init 2 none ∈ wsG := wsG_of 32 (by decide +kernel) rfl
def mX3_become : MethodName × ByteArray × Nat × Option FieldType × Nat × Nat × Nat × Nat := (yX3_become, cX3_become, 3, none, 3, 87, 0, 0)
theorem gcd_X3_become : Cond.code yX3_become cX3_become 3 none ∈ wsG := wsG_of 492 (by decide +kernel) rfl
def mX3_replace : MethodName × ByteArray × Nat × Option FieldType × Nat × Nat × Nat × Nat := (yX3_replace, cX3_replace, 6, (some .int), 3, 69, 0, 0)
theorem gcd_X3_replace : Cond.code yX3_replace cX3_replace 6 (some .int) ∈ wsG := wsG_of 565 (by decide +kernel) rfl
def mX3_bring : MethodName × ByteArray × Nat × Option FieldType × Nat × Nat × Nat × Nat := (yX3_bring, cX3_bring, 5, (some .int), 4, 91, 0, 0)
theorem gcd_X3_bring : Cond.code yX3_bring cX3_bring 5 (some .int) ∈ wsG := wsG_of 603 (by decide +kernel) rfl
def mX3_bringAll : MethodName × ByteArray × Nat × Option FieldType × Nat × Nat × Nat × Nat := (yX3_bringAll, cX3_bringAll, 4, (some .boolean), 5, 115, 0, 0)
theorem gcd_X3_bringAll : Cond.code yX3_bringAll cX3_bringAll 4 (some .boolean) ∈ wsG := wsG_of 660 (by decide +kernel) rfl
def mX3_siblingsInAll : MethodName × ByteArray × Nat × Option FieldType × Nat × Nat × Nat × Nat := (yX3_siblingsInAll, cX3_siblingsInAll, 4, (some .int), 0, 0, 0, 0)
theorem gcd_X3_siblingsInAll : Cond.code yX3_siblingsInAll cX3_siblingsInAll 4 (some .int) ∈ wsG := wsG_of 284 (by decide +kernel) rfl
def mX3_mostSiblings : MethodName × ByteArray × Nat × Option FieldType × Nat × Nat × Nat × Nat := (yX3_mostSiblings, cX3_mostSiblings, 4, (some .int), 1, 24, 0, 0)
theorem gcd_X3_mostSiblings : Cond.code yX3_mostSiblings cX3_mostSiblings 4 (some .int) ∈ wsG := wsG_of 288 (by decide +kernel) rfl
def mX4_init : MethodName × ByteArray × Nat × Option FieldType × Nat × Nat × Nat × Nat := (yX4_init, cX4_init, 2, none, 4, 86, 523, 2352)
theorem gcd_X4_init : Cond.code yX4_init cX4_init 2 none ∈ wsG := wsG_of 24 (by decide +kernel) rfl
def mX4_read : MethodName × ByteArray × Nat × Option FieldType × Nat × Nat × Nat × Nat := (yX4_read, cX4_read, 5, (some .int), 8, 133, 3, 18)
theorem gcd_X4_read : Cond.code yX4_read cX4_read 5 (some .int) ∈ wsG := wsG_of 407 (by decide +kernel) rfl
def mX4_write : MethodName × ByteArray × Nat × Option FieldType × Nat × Nat × Nat × Nat := (yX4_write, cX4_write, 5, (some .int), 8, 133, 5, 30)
theorem gcd_X4_write : Cond.code yX4_write cX4_write 5 (some .int) ∈ wsG := wsG_of 521 (by decide +kernel) rfl
def mX4_pull : MethodName × ByteArray × Nat × Option FieldType × Nat × Nat × Nat × Nat := (yX4_pull, cX4_pull, 4, (some .int), 8, 133, 5, 30)
theorem gcd_X4_pull : Cond.code yX4_pull cX4_pull 4 (some .int) ∈ wsG := wsG_of 589 (by decide +kernel) rfl
def mX4_join : MethodName × ByteArray × Nat × Option FieldType × Nat × Nat × Nat × Nat := (yX4_join, cX4_join, 7, (some .int), 8, 133, 5, 30)
theorem gcd_X4_join : Cond.code yX4_join cX4_join 7 (some .int) ∈ wsG := wsG_of 617 (by decide +kernel) rfl
def mX4_lose : MethodName × ByteArray × Nat × Option FieldType × Nat × Nat × Nat × Nat := (yX4_lose, cX4_lose, 3, (some .int), 7, 129, 2, 12)
theorem gcd_X4_lose : Cond.code yX4_lose cX4_lose 3 (some .int) ∈ wsG := wsG_of 633 (by decide +kernel) rfl
def mX4_forget : MethodName × ByteArray × Nat × Option FieldType × Nat × Nat × Nat × Nat := (yX4_forget, cX4_forget, 5, (some .int), 7, 129, 3, 18)
theorem gcd_X4_forget : Cond.code yX4_forget cX4_forget 5 (some .int) ∈ wsG := wsG_of 644 (by decide +kernel) rfl
def mX4_pullAll : MethodName × ByteArray × Nat × Option FieldType × Nat × Nat × Nat × Nat := (yX4_pullAll, cX4_pullAll, 2, (some .int), 6, 138, 1, 6)
theorem gcd_X4_pullAll : Cond.code yX4_pullAll cX4_pullAll 2 (some .int) ∈ wsG := wsG_of 656 (by decide +kernel) rfl
def mX4_append : MethodName × ByteArray × Nat × Option FieldType × Nat × Nat × Nat × Nat := (yX4_append, cX4_append, 2, (some .int), 6, 90, 2, 12)
theorem gcd_X4_append : Cond.code yX4_append cX4_append 2 (some .int) ∈ wsG := wsG_of 669 (by decide +kernel) rfl
def mX4_clearBuffer : MethodName × ByteArray × Nat × Option FieldType × Nat × Nat × Nat × Nat := (yX4_clearBuffer, cX4_clearBuffer, 2, (some .int), 0, 0, 0, 0)
theorem gcd_X4_clearBuffer : Cond.code yX4_clearBuffer cX4_clearBuffer 2 (some .int) ∈ wsG := wsG_of 166 (by decide +kernel) rfl
def mX4_firstError : MethodName × ByteArray × Nat × Option FieldType × Nat × Nat × Nat × Nat := (yX4_firstError, cX4_firstError, 1, (some .int), 7, 149, 0, 0)
theorem gcd_X4_firstError : Cond.code yX4_firstError cX4_firstError 1 (some .int) ∈ wsG := wsG_of 170 (by decide +kernel) rfl
def mX4_runAll : MethodName × ByteArray × Nat × Option FieldType × Nat × Nat × Nat × Nat := (yX4_runAll, cX4_runAll, 2, (some .int), 7, 150, 1, 6)
theorem gcd_X4_runAll : Cond.code yX4_runAll cX4_runAll 2 (some .int) ∈ wsG := wsG_of 678 (by decide +kernel) rfl
def mX4_undo : MethodName × ByteArray × Nat × Option FieldType × Nat × Nat × Nat × Nat := (yX4_undo, cX4_undo, 1, (some .int), 6, 109, 1, 6)
theorem gcd_X4_undo : Cond.code yX4_undo cX4_undo 1 (some .int) ∈ wsG := wsG_of 695 (by decide +kernel) rfl
def mX4_sibling : MethodName × ByteArray × Nat × Option FieldType × Nat × Nat × Nat × Nat := (yX4_sibling, cX4_sibling, 5, (some .int), 7, 111, 4, 24)
theorem gcd_X4_sibling : Cond.code yX4_sibling cX4_sibling 5 (some .int) ∈ wsG := wsG_of 703 (by decide +kernel) rfl
def mX4_vector : MethodName × ByteArray × Nat × Option FieldType × Nat × Nat × Nat × Nat := (yX4_vector, cX4_vector, 4, (some .int), 8, 133, 3, 18)
theorem gcd_X4_vector : Cond.code yX4_vector cX4_vector 4 (some .int) ∈ wsG := wsG_of 710 (by decide +kernel) rfl
def mX4_knows : MethodName × ByteArray × Nat × Option FieldType × Nat × Nat × Nat × Nat := (yX4_knows, cX4_knows, 4, (some .int), 7, 111, 3, 18)
theorem gcd_X4_knows : Cond.code yX4_knows cX4_knows 4 (some .int) ∈ wsG := wsG_of 717 (by decide +kernel) rfl
def mX4_key : MethodName × ByteArray × Nat × Option FieldType × Nat × Nat × Nat × Nat := (yX4_key, cX4_key, 3, (some .int), 7, 111, 2, 12)
theorem gcd_X4_key : Cond.code yX4_key cX4_key 3 (some .int) ∈ wsG := wsG_of 724 (by decide +kernel) rfl
def mX4_count : MethodName × ByteArray × Nat × Option FieldType × Nat × Nat × Nat × Nat := (yX4_count, cX4_count, 2, (some .int), 7, 111, 1, 6)
theorem gcd_X4_count : Cond.code yX4_count cX4_count 2 (some .int) ∈ wsG := wsG_of 731 (by decide +kernel) rfl
def mX4_ifWritten : MethodName × ByteArray × Nat × Option FieldType × Nat × Nat × Nat × Nat := (yX4_ifWritten, cX4_ifWritten, 5, (some .int), 8, 133, 4, 24)
theorem gcd_X4_ifWritten : Cond.code yX4_ifWritten cX4_ifWritten 5 (some .int) ∈ wsG := wsG_of 738 (by decide +kernel) rfl
def mX4_ifPulled : MethodName × ByteArray × Nat × Option FieldType × Nat × Nat × Nat × Nat := (yX4_ifPulled, cX4_ifPulled, 5, (some .int), 8, 133, 5, 30)
theorem gcd_X4_ifPulled : Cond.code yX4_ifPulled cX4_ifPulled 5 (some .int) ∈ wsG := wsG_of 745 (by decide +kernel) rfl
def mX4_whyNot : MethodName × ByteArray × Nat × Option FieldType × Nat × Nat × Nat × Nat := (yX4_whyNot, cX4_whyNot, 3, (some .int), 7, 111, 2, 12)
theorem gcd_X4_whyNot : Cond.code yX4_whyNot cX4_whyNot 3 (some .int) ∈ wsG := wsG_of 752 (by decide +kernel) rfl
def mX4_agreement : MethodName × ByteArray × Nat × Option FieldType × Nat × Nat × Nat × Nat := (yX4_agreement, cX4_agreement, 1, (some .double), 3, 67, 0, 0)
theorem gcd_X4_agreement : Cond.code yX4_agreement cX4_agreement 1 (some .double) ∈ wsG := wsG_of 258 (by decide +kernel) rfl
def mX4_digest : MethodName × ByteArray × Nat × Option FieldType × Nat × Nat × Nat × Nat := (yX4_digest, cX4_digest, 5, (some .long), 6, 133, 0, 0)
theorem gcd_X4_digest : Cond.code yX4_digest cX4_digest 5 (some .long) ∈ wsG := wsG_of 275 (by decide +kernel) rfl
def mX4_checkIndex : MethodName × ByteArray × Nat × Option FieldType × Nat × Nat × Nat × Nat := (yX4_checkIndex, cX4_checkIndex, 2, none, 6, 90, 1, 6)
theorem gcd_X4_checkIndex : Cond.code yX4_checkIndex cX4_checkIndex 2 none ∈ wsG := wsG_of 413 (by decide +kernel) rfl
def mX4_checkUpTo : MethodName × ByteArray × Nat × Option FieldType × Nat × Nat × Nat × Nat := (yX4_checkUpTo, cX4_checkUpTo, 2, none, 6, 90, 1, 6)
theorem gcd_X4_checkUpTo : Cond.code yX4_checkUpTo cX4_checkUpTo 2 none ∈ wsG := wsG_of 524 (by decide +kernel) rfl
def mX4_checkWriterKeyStore : MethodName × ByteArray × Nat × Option FieldType × Nat × Nat × Nat × Nat := (yX4_checkWriterKeyStore, cX4_checkWriterKeyStore, 3, none, 7, 111, 3, 18)
theorem gcd_X4_checkWriterKeyStore : Cond.code yX4_checkWriterKeyStore cX4_checkWriterKeyStore 3 none ∈ wsG := wsG_of 410 (by decide +kernel) rfl
def mX4_checkTwoStores : MethodName × ByteArray × Nat × Option FieldType × Nat × Nat × Nat × Nat := (yX4_checkTwoStores, cX4_checkTwoStores, 3, none, 7, 111, 4, 24)
theorem gcd_X4_checkTwoStores : Cond.code yX4_checkTwoStores cX4_checkTwoStores 3 none ∈ wsG := wsG_of 592 (by decide +kernel) rfl
def mX4_save : MethodName × ByteArray × Nat × Option FieldType × Nat × Nat × Nat × Nat := (yX4_save, cX4_save, 1, none, 4, 109, 0, 0)
theorem gcd_X4_save : Cond.code yX4_save cX4_save 1 none ∈ wsG := wsG_of 484 (by decide +kernel) rfl
def mX4_dropOldest : MethodName × ByteArray × Nat × Option FieldType × Nat × Nat × Nat × Nat := (yX4_dropOldest, cX4_dropOldest, 3, none, 0, 0, 0, 0)
theorem gcd_X4_dropOldest : Cond.code yX4_dropOldest cX4_dropOldest 3 none ∈ wsG := wsG_of 488 (by decide +kernel) rfl
def mX4_scanBuffer : MethodName × ByteArray × Nat × Option FieldType × Nat × Nat × Nat × Nat := (yX4_scanBuffer, cX4_scanBuffer, 2, (some .int), 6, 128, 0, 0)
theorem gcd_X4_scanBuffer : Cond.code yX4_scanBuffer cX4_scanBuffer 2 (some .int) ∈ wsG := wsG_of 174 (by decide +kernel) rfl
def mX4_runParts : MethodName × ByteArray × Nat × Option FieldType × Nat × Nat × Nat × Nat := (yX4_runParts, cX4_runParts, 3, (some .int), 6, 128, 0, 0)
theorem gcd_X4_runParts : Cond.code yX4_runParts cX4_runParts 3 (some .int) ∈ wsG := wsG_of 684 (by decide +kernel) rfl
def mX4_runPart : MethodName × ByteArray × Nat × Option FieldType × Nat × Nat × Nat × Nat := (yX4_runPart, cX4_runPart, 2, (some .boolean), 4, 94, 0, 0)
theorem gcd_X4_runPart : Cond.code yX4_runPart cX4_runPart 2 (some .boolean) ∈ wsG := wsG_of 688 (by decide +kernel) rfl
def mX4_tally : MethodName × ByteArray × Nat × Option FieldType × Nat × Nat × Nat × Nat := (yX4_tally, cX4_tally, 2, (some .int), 2, 47, 0, 0)
theorem gcd_X4_tally : Cond.code yX4_tally cX4_tally 2 (some .int) ∈ wsG := wsG_of 280 (by decide +kernel) rfl
def mX4_shareOfAgreement : MethodName × ByteArray × Nat × Option FieldType × Nat × Nat × Nat × Nat := (yX4_shareOfAgreement, cX4_shareOfAgreement, 3, (some .double), 2, 45, 0, 0)
theorem gcd_X4_shareOfAgreement : Cond.code yX4_shareOfAgreement cX4_shareOfAgreement 3 (some .double) ∈ wsG := wsG_of 262 (by decide +kernel) rfl
def mX4_mix : MethodName × ByteArray × Nat × Option FieldType × Nat × Nat × Nat × Nat := (yX4_mix, cX4_mix, 4, (some .long), 0, 0, 0, 0)
theorem gcd_X4_mix : Cond.code yX4_mix cX4_mix 4 (some .long) ∈ wsG := wsG_of 294 (by decide +kernel) rfl
def mX4_mixKey : MethodName × ByteArray × Nat × Option FieldType × Nat × Nat × Nat × Nat := (yX4_mixKey, cX4_mixKey, 6, (some .long), 5, 108, 0, 0)
theorem gcd_X4_mixKey : Cond.code yX4_mixKey cX4_mixKey 6 (some .long) ∈ wsG := wsG_of 298 (by decide +kernel) rfl
def mX4_mixStore : MethodName × ByteArray × Nat × Option FieldType × Nat × Nat × Nat × Nat := (yX4_mixStore, cX4_mixStore, 8, (some .long), 3, 70, 0, 0)
theorem gcd_X4_mixStore : Cond.code yX4_mixStore cX4_mixStore 8 (some .long) ∈ wsG := wsG_of 344 (by decide +kernel) rfl
def mX4_mixRow : MethodName × ByteArray × Nat × Option FieldType × Nat × Nat × Nat × Nat := (yX4_mixRow, cX4_mixRow, 6, (some .long), 1, 23, 0, 0)
theorem gcd_X4_mixRow : Cond.code yX4_mixRow cX4_mixRow 6 (some .long) ∈ wsG := wsG_of 362 (by decide +kernel) rfl
def mX4_bitsOfShare : MethodName × ByteArray × Nat × Option FieldType × Nat × Nat × Nat × Nat := (yX4_bitsOfShare, cX4_bitsOfShare, 10, (some .long), 0, 0, 0, 0)
theorem gcd_X4_bitsOfShare : Cond.code yX4_bitsOfShare cX4_bitsOfShare 10 (some .long) ∈ wsG := wsG_of 396 (by decide +kernel) rfl
def mX4_writerOf : MethodName × ByteArray × Nat × Option FieldType × Nat × Nat × Nat × Nat := (yX4_writerOf, cX4_writerOf, 1, (some .int), 0, 0, 0, 0)
theorem gcd_X4_writerOf : Cond.code yX4_writerOf cX4_writerOf 1 (some .int) ∈ wsG := wsG_of 341 (by decide +kernel) rfl
def mX4_numberOf : MethodName × ByteArray × Nat × Option FieldType × Nat × Nat × Nat × Nat := (yX4_numberOf, cX4_numberOf, 1, (some .int), 0, 0, 0, 0)
theorem gcd_X4_numberOf : Cond.code yX4_numberOf cX4_numberOf 1 (some .int) ∈ wsG := wsG_of 352 (by decide +kernel) rfl
def mX4_covers : MethodName × ByteArray × Nat × Option FieldType × Nat × Nat × Nat × Nat := (yX4_covers, cX4_covers, 3, (some .boolean), 0, 0, 0, 0)
theorem gcd_X4_covers : Cond.code yX4_covers cX4_covers 3 (some .boolean) ∈ wsG := wsG_of 359 (by decide +kernel) rfl
def mX4_mergeInto : MethodName × ByteArray × Nat × Option FieldType × Nat × Nat × Nat × Nat := (yX4_mergeInto, cX4_mergeInto, 3, none, 1, 24, 0, 0)
theorem gcd_X4_mergeInto : Cond.code yX4_mergeInto cX4_mergeInto 3 none ∈ wsG := wsG_of 511 (by decide +kernel) rfl
def mX4_sameNumbers : MethodName × ByteArray × Nat × Option FieldType × Nat × Nat × Nat × Nat := (yX4_sameNumbers, cX4_sameNumbers, 3, (some .boolean), 0, 0, 0, 0)
theorem gcd_X4_sameNumbers : Cond.code yX4_sameNumbers cX4_sameNumbers 3 (some .boolean) ∈ wsG := wsG_of 326 (by decide +kernel) rfl
def mX5_init : MethodName × ByteArray × Nat × Option FieldType × Nat × Nat × Nat × Nat := (yX5_init, cX5_init, 1, none, 1, 24, 6, 2644)
theorem gcd_X5_init : Cond.code yX5_init cX5_init 1 none ∈ wsG := wsG_of 757 (by decide +kernel) rfl
def mX5_thrown : MethodName × ByteArray × Nat × Option FieldType × Nat × Nat × Nat × Nat := (yX5_thrown, cX5_thrown, 1, (some .int), 0, 0, 0, 0)
theorem gcd_X5_thrown : Cond.code yX5_thrown cX5_thrown 1 (some .int) ∈ wsG := wsG_of 811 (by decide +kernel) rfl
def mX5_fails : MethodName × ByteArray × Nat × Option FieldType × Nat × Nat × Nat × Nat := (yX5_fails, cX5_fails, 2, (some .int), 0, 0, 0, 0)
theorem gcd_X5_fails : Cond.code yX5_fails cX5_fails 2 (some .int) ∈ wsG := wsG_of 819 (by decide +kernel) rfl
def mX5_in : MethodName × ByteArray × Nat × Option FieldType × Nat × Nat × Nat × Nat := (yX5_in, cX5_in, 3, (some .boolean), 0, 0, 0, 0)
theorem gcd_X5_in : Cond.code yX5_in cX5_in 3 (some .boolean) ∈ wsG := wsG_of 832 (by decide +kernel) rfl
def mX5_isWriter : MethodName × ByteArray × Nat × Option FieldType × Nat × Nat × Nat × Nat := (yX5_isWriter, cX5_isWriter, 1, (some .boolean), 1, 22, 0, 0)
theorem gcd_X5_isWriter : Cond.code yX5_isWriter cX5_isWriter 1 (some .boolean) ∈ wsG := wsG_of 829 (by decide +kernel) rfl
def mX5_isStore : MethodName × ByteArray × Nat × Option FieldType × Nat × Nat × Nat × Nat := (yX5_isStore, cX5_isStore, 1, (some .boolean), 1, 22, 0, 0)
theorem gcd_X5_isStore : Cond.code yX5_isStore cX5_isStore 1 (some .boolean) ∈ wsG := wsG_of 838 (by decide +kernel) rfl
def mX5_isKey : MethodName × ByteArray × Nat × Option FieldType × Nat × Nat × Nat × Nat := (yX5_isKey, cX5_isKey, 1, (some .boolean), 1, 22, 0, 0)
theorem gcd_X5_isKey : Cond.code yX5_isKey cX5_isKey 1 (some .boolean) ∈ wsG := wsG_of 835 (by decide +kernel) rfl
def mX5_saves : MethodName × ByteArray × Nat × Option FieldType × Nat × Nat × Nat × Nat := (yX5_saves, cX5_saves, 3, none, 0, 0, 0, 0)
theorem gcd_X5_saves : Cond.code yX5_saves cX5_saves 3 none ∈ wsG := wsG_of 842 (by decide +kernel) rfl
def mX5_undo : MethodName × ByteArray × Nat × Option FieldType × Nat × Nat × Nat × Nat := (yX5_undo, cX5_undo, 2, (some .int), 1, 21, 0, 0)
theorem gcd_X5_undo : Cond.code yX5_undo cX5_undo 2 (some .int) ∈ wsG := wsG_of 815 (by decide +kernel) rfl
def mX5_countAt : MethodName × ByteArray × Nat × Option FieldType × Nat × Nat × Nat × Nat := (yX5_countAt, cX5_countAt, 2, (some .int), 0, 0, 0, 0)
theorem gcd_X5_countAt : Cond.code yX5_countAt cX5_countAt 2 (some .int) ∈ wsG := wsG_of 881 (by decide +kernel) rfl
def mX5_knowsAt : MethodName × ByteArray × Nat × Option FieldType × Nat × Nat × Nat × Nat := (yX5_knowsAt, cX5_knowsAt, 2, (some .int), 0, 0, 0, 0)
theorem gcd_X5_knowsAt : Cond.code yX5_knowsAt cX5_knowsAt 2 (some .int) ∈ wsG := wsG_of 845 (by decide +kernel) rfl
def mX5_vectorAt : MethodName × ByteArray × Nat × Option FieldType × Nat × Nat × Nat × Nat := (yX5_vectorAt, cX5_vectorAt, 2, (some .int), 0, 0, 0, 0)
theorem gcd_X5_vectorAt : Cond.code yX5_vectorAt cX5_vectorAt 2 (some .int) ∈ wsG := wsG_of 848 (by decide +kernel) rfl
def mX5_rowAt : MethodName × ByteArray × Nat × Option FieldType × Nat × Nat × Nat × Nat := (yX5_rowAt, cX5_rowAt, 2, (some .int), 0, 0, 0, 0)
theorem gcd_X5_rowAt : Cond.code yX5_rowAt cX5_rowAt 2 (some .int) ∈ wsG := wsG_of 859 (by decide +kernel) rfl
def mX5_placeAt : MethodName × ByteArray × Nat × Option FieldType × Nat × Nat × Nat × Nat := (yX5_placeAt, cX5_placeAt, 3, (some .int), 1, 21, 0, 0)
theorem gcd_X5_placeAt : Cond.code yX5_placeAt cX5_placeAt 3 (some .int) ∈ wsG := wsG_of 874 (by decide +kernel) rfl
def mX5_siblings : MethodName × ByteArray × Nat × Option FieldType × Nat × Nat × Nat × Nat := (yX5_siblings, cX5_siblings, 3, (some .int), 1, 21, 0, 0)
theorem gcd_X5_siblings : Cond.code yX5_siblings cX5_siblings 3 (some .int) ∈ wsG := wsG_of 856 (by decide +kernel) rfl
def mX5_merges : MethodName × ByteArray × Nat × Option FieldType × Nat × Nat × Nat × Nat := (yX5_merges, cX5_merges, 4, none, 0, 0, 0, 0)
theorem gcd_X5_merges : Cond.code yX5_merges cX5_merges 4 none ∈ wsG := wsG_of 852 (by decide +kernel) rfl
def mX5_covers : MethodName × ByteArray × Nat × Option FieldType × Nat × Nat × Nat × Nat := (yX5_covers, cX5_covers, 3, (some .boolean), 0, 0, 0, 0)
theorem gcd_X5_covers : Cond.code yX5_covers cX5_covers 3 (some .boolean) ∈ wsG := wsG_of 878 (by decide +kernel) rfl
def mX5_has : MethodName × ByteArray × Nat × Option FieldType × Nat × Nat × Nat × Nat := (yX5_has, cX5_has, 8, (some .boolean), 2, 43, 0, 0)
theorem gcd_X5_has : Cond.code yX5_has cX5_has 8 (some .boolean) ∈ wsG := wsG_of 929 (by decide +kernel) rfl
def mX5_coveredBy : MethodName × ByteArray × Nat × Option FieldType × Nat × Nat × Nat × Nat := (yX5_coveredBy, cX5_coveredBy, 6, (some .int), 2, 43, 0, 0)
theorem gcd_X5_coveredBy : Cond.code yX5_coveredBy cX5_coveredBy 6 (some .int) ∈ wsG := wsG_of 871 (by decide +kernel) rfl
def mX5_drops : MethodName × ByteArray × Nat × Option FieldType × Nat × Nat × Nat × Nat := (yX5_drops, cX5_drops, 10, none, 2, 43, 0, 0)
theorem gcd_X5_drops : Cond.code yX5_drops cX5_drops 10 none ∈ wsG := wsG_of 889 (by decide +kernel) rfl
def mX5_comes : MethodName × ByteArray × Nat × Option FieldType × Nat × Nat × Nat × Nat := (yX5_comes, cX5_comes, 8, none, 2, 43, 0, 0)
theorem gcd_X5_comes : Cond.code yX5_comes cX5_comes 8 none ∈ wsG := wsG_of 893 (by decide +kernel) rfl
def mX5_mayWrite : MethodName × ByteArray × Nat × Option FieldType × Nat × Nat × Nat × Nat := (yX5_mayWrite, cX5_mayWrite, 4, (some .boolean), 3, 68, 0, 0)
theorem gcd_X5_mayWrite : Cond.code yX5_mayWrite cX5_mayWrite 4 (some .boolean) ∈ wsG := wsG_of 867 (by decide +kernel) rfl
def mX5_writes : MethodName × ByteArray × Nat × Option FieldType × Nat × Nat × Nat × Nat := (yX5_writes, cX5_writes, 7, (some .int), 3, 72, 0, 0)
theorem gcd_X5_writes : Cond.code yX5_writes cX5_writes 7 (some .int) ∈ wsG := wsG_of 885 (by decide +kernel) rfl
def mX5_areThere : MethodName × ByteArray × Nat × Option FieldType × Nat × Nat × Nat × Nat := (yX5_areThere, cX5_areThere, 3, (some .boolean), 2, 42, 0, 0)
theorem gcd_X5_areThere : Cond.code yX5_areThere cX5_areThere 3 (some .boolean) ∈ wsG := wsG_of 826 (by decide +kernel) rfl
def mX5_read : MethodName × ByteArray × Nat × Option FieldType × Nat × Nat × Nat × Nat := (yX5_read, cX5_read, 4, (some .int), 3, 64, 0, 0)
theorem gcd_X5_read : Cond.code yX5_read cX5_read 4 (some .int) ∈ wsG := wsG_of 823 (by decide +kernel) rfl
def mX5_write : MethodName × ByteArray × Nat × Option FieldType × Nat × Nat × Nat × Nat := (yX5_write, cX5_write, 5, (some .int), 4, 98, 0, 0)
theorem gcd_X5_write : Cond.code yX5_write cX5_write 5 (some .int) ∈ wsG := wsG_of 863 (by decide +kernel) rfl
def mX5_joined : MethodName × ByteArray × Nat × Option FieldType × Nat × Nat × Nat × Nat := (yX5_joined, cX5_joined, 7, (some .int), 2, 43, 0, 0)
theorem gcd_X5_joined : Cond.code yX5_joined cX5_joined 7 (some .int) ∈ wsG := wsG_of 901 (by decide +kernel) rfl
def mX5_join : MethodName × ByteArray × Nat × Option FieldType × Nat × Nat × Nat × Nat := (yX5_join, cX5_join, 7, (some .int), 4, 98, 0, 0)
theorem gcd_X5_join : Cond.code yX5_join cX5_join 7 (some .int) ∈ wsG := wsG_of 897 (by decide +kernel) rfl
def mX5_lose : MethodName × ByteArray × Nat × Option FieldType × Nat × Nat × Nat × Nat := (yX5_lose, cX5_lose, 6, (some .int), 2, 42, 0, 0)
theorem gcd_X5_lose : Cond.code yX5_lose cX5_lose 6 (some .int) ∈ wsG := wsG_of 905 (by decide +kernel) rfl
def mX5_why : MethodName × ByteArray × Nat × Option FieldType × Nat × Nat × Nat × Nat := (yX5_why, cX5_why, 7, (some .int), 2, 43, 0, 0)
theorem gcd_X5_why : Cond.code yX5_why cX5_why 7 (some .int) ∈ wsG := wsG_of 913 (by decide +kernel) rfl
def mX5_whyNot : MethodName × ByteArray × Nat × Option FieldType × Nat × Nat × Nat × Nat := (yX5_whyNot, cX5_whyNot, 3, (some .int), 3, 69, 0, 0)
theorem gcd_X5_whyNot : Cond.code yX5_whyNot cX5_whyNot 3 (some .int) ∈ wsG := wsG_of 909 (by decide +kernel) rfl
def mX5_forget : MethodName × ByteArray × Nat × Option FieldType × Nat × Nat × Nat × Nat := (yX5_forget, cX5_forget, 4, (some .int), 3, 69, 0, 0)
theorem gcd_X5_forget : Cond.code yX5_forget cX5_forget 4 (some .int) ∈ wsG := wsG_of 917 (by decide +kernel) rfl
def mX5_adds : MethodName × ByteArray × Nat × Option FieldType × Nat × Nat × Nat × Nat := (yX5_adds, cX5_adds, 4, none, 0, 0, 0, 0)
theorem gcd_X5_adds : Cond.code yX5_adds cX5_adds 4 none ∈ wsG := wsG_of 933 (by decide +kernel) rfl
def mX5_tries : MethodName × ByteArray × Nat × Option FieldType × Nat × Nat × Nat × Nat := (yX5_tries, cX5_tries, 7, none, 3, 70, 0, 0)
theorem gcd_X5_tries : Cond.code yX5_tries cX5_tries 7 none ∈ wsG := wsG_of 925 (by decide +kernel) rfl
def mX5_pulls : MethodName × ByteArray × Nat × Option FieldType × Nat × Nat × Nat × Nat := (yX5_pulls, cX5_pulls, 5, (some .int), 2, 43, 0, 0)
theorem gcd_X5_pulls : Cond.code yX5_pulls cX5_pulls 5 (some .int) ∈ wsG := wsG_of 937 (by decide +kernel) rfl
def mX5_pull : MethodName × ByteArray × Nat × Option FieldType × Nat × Nat × Nat × Nat := (yX5_pull, cX5_pull, 4, (some .int), 4, 96, 0, 0)
theorem gcd_X5_pull : Cond.code yX5_pull cX5_pull 4 (some .int) ∈ wsG := wsG_of 921 (by decide +kernel) rfl
def mX5_pullAll : MethodName × ByteArray × Nat × Option FieldType × Nat × Nat × Nat × Nat := (yX5_pullAll, cX5_pullAll, 6, (some .int), 4, 96, 0, 0)
theorem gcd_X5_pullAll : Cond.code yX5_pullAll cX5_pullAll 6 (some .int) ∈ wsG := wsG_of 941 (by decide +kernel) rfl
def mX5_append : MethodName × ByteArray × Nat × Option FieldType × Nat × Nat × Nat × Nat := (yX5_append, cX5_append, 2, (some .int), 1, 22, 0, 0)
theorem gcd_X5_append : Cond.code yX5_append cX5_append 2 (some .int) ∈ wsG := wsG_of 945 (by decide +kernel) rfl
def mX5_clearBuffer : MethodName × ByteArray × Nat × Option FieldType × Nat × Nat × Nat × Nat := (yX5_clearBuffer, cX5_clearBuffer, 2, (some .int), 0, 0, 0, 0)
theorem gcd_X5_clearBuffer : Cond.code yX5_clearBuffer cX5_clearBuffer 2 (some .int) ∈ wsG := wsG_of 949 (by decide +kernel) rfl
def mX5_isAt : MethodName × ByteArray × Nat × Option FieldType × Nat × Nat × Nat × Nat := (yX5_isAt, cX5_isAt, 3, (some .boolean), 1, 22, 0, 0)
theorem gcd_X5_isAt : Cond.code yX5_isAt cX5_isAt 3 (some .boolean) ∈ wsG := wsG_of 969 (by decide +kernel) rfl
def mX5_stops : MethodName × ByteArray × Nat × Option FieldType × Nat × Nat × Nat × Nat := (yX5_stops, cX5_stops, 1, (some .boolean), 0, 0, 0, 0)
theorem gcd_X5_stops : Cond.code yX5_stops cX5_stops 1 (some .boolean) ∈ wsG := wsG_of 973 (by decide +kernel) rfl
def mX5_takes : MethodName × ByteArray × Nat × Option FieldType × Nat × Nat × Nat × Nat := (yX5_takes, cX5_takes, 3, (some .boolean), 2, 44, 0, 0)
theorem gcd_X5_takes : Cond.code yX5_takes cX5_takes 3 (some .boolean) ∈ wsG := wsG_of 965 (by decide +kernel) rfl
def mX5_takesPart : MethodName × ByteArray × Nat × Option FieldType × Nat × Nat × Nat × Nat := (yX5_takesPart, cX5_takesPart, 3, (some .boolean), 2, 44, 0, 0)
theorem gcd_X5_takesPart : Cond.code yX5_takesPart cX5_takesPart 3 (some .boolean) ∈ wsG := wsG_of 977 (by decide +kernel) rfl
def mX5_takesValue : MethodName × ByteArray × Nat × Option FieldType × Nat × Nat × Nat × Nat := (yX5_takesValue, cX5_takesValue, 2, (some .boolean), 2, 44, 0, 0)
theorem gcd_X5_takesValue : Cond.code yX5_takesValue cX5_takesValue 2 (some .boolean) ∈ wsG := wsG_of 981 (by decide +kernel) rfl
def mX5_takesOne : MethodName × ByteArray × Nat × Option FieldType × Nat × Nat × Nat × Nat := (yX5_takesOne, cX5_takesOne, 2, (some .boolean), 3, 66, 0, 0)
theorem gcd_X5_takesOne : Cond.code yX5_takesOne cX5_takesOne 2 (some .boolean) ∈ wsG := wsG_of 961 (by decide +kernel) rfl
def mX5_isText : MethodName × ByteArray × Nat × Option FieldType × Nat × Nat × Nat × Nat := (yX5_isText, cX5_isText, 2, (some .boolean), 4, 87, 0, 0)
theorem gcd_X5_isText : Cond.code yX5_isText cX5_isText 2 (some .boolean) ∈ wsG := wsG_of 957 (by decide +kernel) rfl
def mX5_firstError : MethodName × ByteArray × Nat × Option FieldType × Nat × Nat × Nat × Nat := (yX5_firstError, cX5_firstError, 2, (some .int), 5, 108, 0, 0)
theorem gcd_X5_firstError : Cond.code yX5_firstError cX5_firstError 2 (some .int) ∈ wsG := wsG_of 953 (by decide +kernel) rfl
def mX5_does : MethodName × ByteArray × Nat × Option FieldType × Nat × Nat × Nat × Nat := (yX5_does, cX5_does, 6, (some .boolean), 4, 98, 0, 0)
theorem gcd_X5_does : Cond.code yX5_does cX5_does 6 (some .boolean) ∈ wsG := wsG_of 989 (by decide +kernel) rfl
def mX5_runAll : MethodName × ByteArray × Nat × Option FieldType × Nat × Nat × Nat × Nat := (yX5_runAll, cX5_runAll, 2, (some .int), 5, 123, 0, 0)
theorem gcd_X5_runAll : Cond.code yX5_runAll cX5_runAll 2 (some .int) ∈ wsG := wsG_of 985 (by decide +kernel) rfl
def mX5_coverers : MethodName × ByteArray × Nat × Option FieldType × Nat × Nat × Nat × Nat := (yX5_coverers, cX5_coverers, 5, (some .int), 1, 22, 0, 0)
theorem gcd_X5_coverers : Cond.code yX5_coverers cX5_coverers 5 (some .int) ∈ wsG := wsG_of 1001 (by decide +kernel) rfl
def mX5_holders : MethodName × ByteArray × Nat × Option FieldType × Nat × Nat × Nat × Nat := (yX5_holders, cX5_holders, 5, (some .int), 3, 70, 0, 0)
theorem gcd_X5_holders : Cond.code yX5_holders cX5_holders 5 (some .int) ∈ wsG := wsG_of 1005 (by decide +kernel) rfl
def mX5_ofSibling : MethodName × ByteArray × Nat × Option FieldType × Nat × Nat × Nat × Nat := (yX5_ofSibling, cX5_ofSibling, 6, (some .int), 4, 94, 0, 0)
theorem gcd_X5_ofSibling : Cond.code yX5_ofSibling cX5_ofSibling 6 (some .int) ∈ wsG := wsG_of 997 (by decide +kernel) rfl
def mX5_sibling : MethodName × ByteArray × Nat × Option FieldType × Nat × Nat × Nat × Nat := (yX5_sibling, cX5_sibling, 5, (some .int), 5, 119, 0, 0)
theorem gcd_X5_sibling : Cond.code yX5_sibling cX5_sibling 5 (some .int) ∈ wsG := wsG_of 993 (by decide +kernel) rfl
def mX5_vector : MethodName × ByteArray × Nat × Option FieldType × Nat × Nat × Nat × Nat := (yX5_vector, cX5_vector, 4, (some .int), 3, 64, 0, 0)
theorem gcd_X5_vector : Cond.code yX5_vector cX5_vector 4 (some .int) ∈ wsG := wsG_of 1009 (by decide +kernel) rfl
def mX5_knows : MethodName × ByteArray × Nat × Option FieldType × Nat × Nat × Nat × Nat := (yX5_knows, cX5_knows, 4, (some .int), 2, 42, 0, 0)
theorem gcd_X5_knows : Cond.code yX5_knows cX5_knows 4 (some .int) ∈ wsG := wsG_of 1013 (by decide +kernel) rfl
def mX5_areAlike : MethodName × ByteArray × Nat × Option FieldType × Nat × Nat × Nat × Nat := (yX5_areAlike, cX5_areAlike, 7, (some .boolean), 3, 70, 0, 0)
theorem gcd_X5_areAlike : Cond.code yX5_areAlike cX5_areAlike 7 (some .boolean) ∈ wsG := wsG_of 1033 (by decide +kernel) rfl
def mX5_areVectorsAlike : MethodName × ByteArray × Nat × Option FieldType × Nat × Nat × Nat × Nat := (yX5_areVectorsAlike, cX5_areVectorsAlike, 5, (some .boolean), 1, 21, 0, 0)
theorem gcd_X5_areVectorsAlike : Cond.code yX5_areVectorsAlike cX5_areVectorsAlike 5 (some .boolean) ∈ wsG := wsG_of 1037 (by decide +kernel) rfl
def mX5_unlike : MethodName × ByteArray × Nat × Option FieldType × Nat × Nat × Nat × Nat := (yX5_unlike, cX5_unlike, 6, (some .int), 4, 94, 0, 0)
theorem gcd_X5_unlike : Cond.code yX5_unlike cX5_unlike 6 (some .int) ∈ wsG := wsG_of 1025 (by decide +kernel) rfl
def mX5_forgettable : MethodName × ByteArray × Nat × Option FieldType × Nat × Nat × Nat × Nat := (yX5_forgettable, cX5_forgettable, 4, (some .int), 3, 69, 0, 0)
theorem gcd_X5_forgettable : Cond.code yX5_forgettable cX5_forgettable 4 (some .int) ∈ wsG := wsG_of 1041 (by decide +kernel) rfl
def mX5_counts : MethodName × ByteArray × Nat × Option FieldType × Nat × Nat × Nat × Nat := (yX5_counts, cX5_counts, 4, (some .int), 1, 21, 0, 0)
theorem gcd_X5_counts : Cond.code yX5_counts cX5_counts 4 (some .int) ∈ wsG := wsG_of 1029 (by decide +kernel) rfl
def mX5_ofKey : MethodName × ByteArray × Nat × Option FieldType × Nat × Nat × Nat × Nat := (yX5_ofKey, cX5_ofKey, 3, (some .int), 5, 119, 0, 0)
theorem gcd_X5_ofKey : Cond.code yX5_ofKey cX5_ofKey 3 (some .int) ∈ wsG := wsG_of 1021 (by decide +kernel) rfl
def mX5_key : MethodName × ByteArray × Nat × Option FieldType × Nat × Nat × Nat × Nat := (yX5_key, cX5_key, 3, (some .int), 6, 141, 0, 0)
theorem gcd_X5_key : Cond.code yX5_key cX5_key 3 (some .int) ∈ wsG := wsG_of 1017 (by decide +kernel) rfl
def mX5_counted : MethodName × ByteArray × Nat × Option FieldType × Nat × Nat × Nat × Nat := (yX5_counted, cX5_counted, 6, (some .int), 2, 43, 0, 0)
theorem gcd_X5_counted : Cond.code yX5_counted cX5_counted 6 (some .int) ∈ wsG := wsG_of 1049 (by decide +kernel) rfl
def mX5_count : MethodName × ByteArray × Nat × Option FieldType × Nat × Nat × Nat × Nat := (yX5_count, cX5_count, 2, (some .int), 3, 68, 0, 0)
theorem gcd_X5_count : Cond.code yX5_count cX5_count 2 (some .int) ∈ wsG := wsG_of 1045 (by decide +kernel) rfl
def mX5_written : MethodName × ByteArray × Nat × Option FieldType × Nat × Nat × Nat × Nat := (yX5_written, cX5_written, 6, (some .int), 3, 68, 0, 0)
theorem gcd_X5_written : Cond.code yX5_written cX5_written 6 (some .int) ∈ wsG := wsG_of 1057 (by decide +kernel) rfl
def mX5_ifWritten : MethodName × ByteArray × Nat × Option FieldType × Nat × Nat × Nat × Nat := (yX5_ifWritten, cX5_ifWritten, 5, (some .int), 4, 93, 0, 0)
theorem gcd_X5_ifWritten : Cond.code yX5_ifWritten cX5_ifWritten 5 (some .int) ∈ wsG := wsG_of 1053 (by decide +kernel) rfl
def mX5_pulled : MethodName × ByteArray × Nat × Option FieldType × Nat × Nat × Nat × Nat := (yX5_pulled, cX5_pulled, 5, (some .int), 4, 96, 0, 0)
theorem gcd_X5_pulled : Cond.code yX5_pulled cX5_pulled 5 (some .int) ∈ wsG := wsG_of 1065 (by decide +kernel) rfl
def mX5_ifPulled : MethodName × ByteArray × Nat × Option FieldType × Nat × Nat × Nat × Nat := (yX5_ifPulled, cX5_ifPulled, 5, (some .int), 5, 120, 0, 0)
theorem gcd_X5_ifPulled : Cond.code yX5_ifPulled cX5_ifPulled 5 (some .int) ∈ wsG := wsG_of 1061 (by decide +kernel) rfl
def mX5_agrees : MethodName × ByteArray × Nat × Option FieldType × Nat × Nat × Nat × Nat := (yX5_agrees, cX5_agrees, 3, (some .double), 4, 96, 0, 0)
theorem gcd_X5_agrees : Cond.code yX5_agrees cX5_agrees 3 (some .double) ∈ wsG := wsG_of 1073 (by decide +kernel) rfl
def mX5_agreement : MethodName × ByteArray × Nat × Option FieldType × Nat × Nat × Nat × Nat := (yX5_agreement, cX5_agreement, 1, (some .double), 5, 118, 0, 0)
theorem gcd_X5_agreement : Cond.code yX5_agreement cX5_agreement 1 (some .double) ∈ wsG := wsG_of 1069 (by decide +kernel) rfl
def mX5_mixes : MethodName × ByteArray × Nat × Option FieldType × Nat × Nat × Nat × Nat := (yX5_mixes, cX5_mixes, 3, none, 0, 0, 0, 0)
theorem gcd_X5_mixes : Cond.code yX5_mixes cX5_mixes 3 none ∈ wsG := wsG_of 1083 (by decide +kernel) rfl
def mX5_mixesKey : MethodName × ByteArray × Nat × Option FieldType × Nat × Nat × Nat × Nat := (yX5_mixesKey, cX5_mixesKey, 4, none, 6, 141, 0, 0)
theorem gcd_X5_mixesKey : Cond.code yX5_mixesKey cX5_mixesKey 4 none ∈ wsG := wsG_of 1088 (by decide +kernel) rfl
def mX5_digest : MethodName × ByteArray × Nat × Option FieldType × Nat × Nat × Nat × Nat := (yX5_digest, cX5_digest, 2, (some .long), 7, 164, 0, 0)
theorem gcd_X5_digest : Cond.code yX5_digest cX5_digest 2 (some .long) ∈ wsG := wsG_of 1078 (by decide +kernel) rfl
def mJxe99ae_isNaN_b9ae7 : MethodName × ByteArray × Nat × Option FieldType × Nat × Nat × Nat × Nat := (yJxe99ae_isNaN_b9ae7, cJxe99ae_isNaN_b9ae7, 2, (some .boolean), 0, 0, 0, 0)
theorem gcd_Jxe99ae_isNaN_b9ae7 : Cond.code yJxe99ae_isNaN_b9ae7 cJxe99ae_isNaN_b9ae7 2 (some .boolean) ∈ wsG := wsG_of 1094 (by decide +kernel) rfl
def mJxe99ae_doubleToLongBits_ccdee : MethodName × ByteArray × Nat × Option FieldType × Nat × Nat × Nat × Nat := (yJxe99ae_doubleToLongBits_ccdee, cJxe99ae_doubleToLongBits_ccdee, 2, (some .long), 1, 40, 0, 0)
theorem gcd_Jxe99ae_doubleToLongBits_ccdee : Cond.code yJxe99ae_doubleToLongBits_ccdee cJxe99ae_doubleToLongBits_ccdee 2 (some .long) ∈ wsG := wsG_of 1091 (by decide +kernel) rfl
def mJ0_length_8abf5 : MethodName × ByteArray × Nat × Option FieldType × Nat × Nat × Nat × Nat := (yJ0_length_8abf5, cJ0_length_8abf5, 1, (some .int), 1, 20, 0, 0)
theorem gcd_J0_length_8abf5 : Cond.code yJ0_length_8abf5 cJ0_length_8abf5 1 (some .int) ∈ wsG := wsG_of 200 (by decide +kernel) rfl
def mJ0_charAt_5068e : MethodName × ByteArray × Nat × Option FieldType × Nat × Nat × Nat × Nat := (yJ0_charAt_5068e, cJ0_charAt_5068e, 2, (some .char), 4, 85, 0, 0)
theorem gcd_J0_charAt_5068e : Cond.code yJ0_charAt_5068e cJ0_charAt_5068e 2 (some .char) ∈ wsG := wsG_of 215 (by decide +kernel) rfl
def mJ0_coder_7d493 : MethodName × ByteArray × Nat × Option FieldType × Nat × Nat × Nat × Nat := (yJ0_coder_7d493, cJ0_coder_7d493, 1, (some .byte), 0, 0, 0, 0)
theorem gcd_J0_coder_7d493 : Cond.code yJ0_coder_7d493 cJ0_coder_7d493 1 (some .byte) ∈ wsG := wsG_of 204 (by decide +kernel) rfl
def mJ0_isLatin1_aae02 : MethodName × ByteArray × Nat × Option FieldType × Nat × Nat × Nat × Nat := (yJ0_isLatin1_aae02, cJ0_isLatin1_aae02, 1, (some .boolean), 0, 0, 0, 0)
theorem gcd_J0_isLatin1_aae02 : Cond.code yJ0_isLatin1_aae02 cJ0_isLatin1_aae02 1 (some .boolean) ∈ wsG := wsG_of 219 (by decide +kernel) rfl
def mJ0_checkIndex_df160 : MethodName × ByteArray × Nat × Option FieldType × Nat × Nat × Nat × Nat := (yJ0_checkIndex_df160, cJ0_checkIndex_df160, 2, none, 1, 22, 0, 0)
theorem gcd_J0_checkIndex_df160 : Cond.code yJ0_checkIndex_df160 cJ0_checkIndex_df160 2 none ∈ wsG := wsG_of 225 (by decide +kernel) rfl
def mJ1_charAt_3b067 : MethodName × ByteArray × Nat × Option FieldType × Nat × Nat × Nat × Nat := (yJ1_charAt_3b067, cJ1_charAt_3b067, 2, (some .char), 2, 43, 0, 0)
theorem gcd_J1_charAt_3b067 : Cond.code yJ1_charAt_3b067 cJ1_charAt_3b067 2 (some .char) ∈ wsG := wsG_of 222 (by decide +kernel) rfl
def mJ2_getChar_3b067 : MethodName × ByteArray × Nat × Option FieldType × Nat × Nat × Nat × Nat := (yJ2_getChar_3b067, cJ2_getChar_3b067, 2, (some .char), 1, 20, 0, 0)
theorem gcd_J2_getChar_3b067 : Cond.code yJ2_getChar_3b067 cJ2_getChar_3b067 2 (some .char) ∈ wsG := wsG_of 243 (by decide +kernel) rfl
def mJ2_length_9d52b : MethodName × ByteArray × Nat × Option FieldType × Nat × Nat × Nat × Nat := (yJ2_length_9d52b, cJ2_length_9d52b, 1, (some .int), 0, 0, 0, 0)
theorem gcd_J2_length_9d52b : Cond.code yJ2_length_9d52b cJ2_length_9d52b 1 (some .int) ∈ wsG := wsG_of 239 (by decide +kernel) rfl
def mJ2_charAt_3b067 : MethodName × ByteArray × Nat × Option FieldType × Nat × Nat × Nat × Nat := (yJ2_charAt_3b067, cJ2_charAt_3b067, 2, (some .char), 3, 64, 0, 0)
theorem gcd_J2_charAt_3b067 : Cond.code yJ2_charAt_3b067 cJ2_charAt_3b067 2 (some .char) ∈ wsG := wsG_of 233 (by decide +kernel) rfl
def mJ2_checkIndex_2214a : MethodName × ByteArray × Nat × Option FieldType × Nat × Nat × Nat × Nat := (yJ2_checkIndex_2214a, cJ2_checkIndex_2214a, 2, none, 2, 43, 0, 0)
theorem gcd_J2_checkIndex_2214a : Cond.code yJ2_checkIndex_2214a cJ2_checkIndex_2214a 2 none ∈ wsG := wsG_of 236 (by decide +kernel) rfl
def mJ3_checkIndex_8e157 : MethodName × ByteArray × Nat × Option FieldType × Nat × Nat × Nat × Nat := (yJ3_checkIndex_8e157, cJ3_checkIndex_8e157, 3, (some .int), 0, 0, 0, 0)
theorem gcd_J3_checkIndex_8e157 : Cond.code yJ3_checkIndex_8e157 cJ3_checkIndex_8e157 3 (some .int) ∈ wsG := wsG_of 230 (by decide +kernel) rfl
def mL_read : MethodName × ByteArray × Nat × Option FieldType × Nat × Nat × Nat × Nat := (yL_read, cL_read, 6, (some .int), 9, 157, 3, 18)
theorem gcd_L_read : Cond.codeWith yL_read cL_read 6 (some .int) [(0, 12, 15, 13)] ∈ wsG := wsG_of 402 (by decide +kernel) rfl
def mL_write : MethodName × ByteArray × Nat × Option FieldType × Nat × Nat × Nat × Nat := (yL_write, cL_write, 7, (some .int), 9, 157, 5, 30)
theorem gcd_L_write : Cond.codeWith yL_write cL_write 7 (some .int) [(0, 14, 17, 13), (0, 14, 21, 19), (0, 14, 25, 21)] ∈ wsG := wsG_of 515 (by decide +kernel) rfl
def mL_pull : MethodName × ByteArray × Nat × Option FieldType × Nat × Nat × Nat × Nat := (yL_pull, cL_pull, 6, (some .int), 9, 156, 5, 30)
theorem gcd_L_pull : Cond.codeWith yL_pull cL_pull 6 (some .int) [(0, 12, 15, 13), (0, 12, 19, 19), (0, 12, 23, 21)] ∈ wsG := wsG_of 585 (by decide +kernel) rfl
def mL_join : MethodName × ByteArray × Nat × Option FieldType × Nat × Nat × Nat × Nat := (yL_join, cL_join, 7, (some .int), 9, 159, 5, 30)
theorem gcd_L_join : Cond.codeWith yL_join cL_join 7 (some .int) [(0, 14, 17, 13), (0, 14, 21, 19), (0, 14, 25, 21)] ∈ wsG := wsG_of 613 (by decide +kernel) rfl
def mL_lose : MethodName × ByteArray × Nat × Option FieldType × Nat × Nat × Nat × Nat := (yL_lose, cL_lose, 5, (some .int), 8, 151, 2, 12)
theorem gcd_L_lose : Cond.codeWith yL_lose cL_lose 5 (some .int) [(0, 10, 13, 13)] ∈ wsG := wsG_of 629 (by decide +kernel) rfl
def mL_forget : MethodName × ByteArray × Nat × Option FieldType × Nat × Nat × Nat × Nat := (yL_forget, cL_forget, 5, (some .int), 8, 153, 3, 18)
theorem gcd_L_forget : Cond.codeWith yL_forget cL_forget 5 (some .int) [(0, 10, 13, 13), (0, 10, 17, 21)] ∈ wsG := wsG_of 640 (by decide +kernel) rfl
def mL_pullAll : MethodName × ByteArray × Nat × Option FieldType × Nat × Nat × Nat × Nat := (yL_pullAll, cL_pullAll, 3, (some .int), 7, 159, 1, 6)
theorem gcd_L_pullAll : Cond.codeWith yL_pullAll cL_pullAll 3 (some .int) [(0, 8, 11, 21)] ∈ wsG := wsG_of 652 (by decide +kernel) rfl
def mL_append : MethodName × ByteArray × Nat × Option FieldType × Nat × Nat × Nat × Nat := (yL_append, cL_append, 4, (some .int), 7, 111, 2, 12)
theorem gcd_L_append : Cond.codeWith yL_append cL_append 4 (some .int) [(0, 9, 12, 19), (0, 9, 15, 21)] ∈ wsG := wsG_of 665 (by decide +kernel) rfl
def mL_runAll : MethodName × ByteArray × Nat × Option FieldType × Nat × Nat × Nat × Nat := (yL_runAll, cL_runAll, 3, (some .int), 8, 171, 1, 6)
theorem gcd_L_runAll : Cond.codeWith yL_runAll cL_runAll 3 (some .int) [(0, 8, 11, 19)] ∈ wsG := wsG_of 674 (by decide +kernel) rfl
def mL_undo : MethodName × ByteArray × Nat × Option FieldType × Nat × Nat × Nat × Nat := (yL_undo, cL_undo, 3, (some .int), 7, 129, 1, 6)
theorem gcd_L_undo : Cond.codeWith yL_undo cL_undo 3 (some .int) [(0, 8, 11, 21)] ∈ wsG := wsG_of 691 (by decide +kernel) rfl
def mL_sibling : MethodName × ByteArray × Nat × Option FieldType × Nat × Nat × Nat × Nat := (yL_sibling, cL_sibling, 7, (some .int), 8, 135, 4, 24)
theorem gcd_L_sibling : Cond.codeWith yL_sibling cL_sibling 7 (some .int) [(0, 14, 17, 13), (0, 14, 21, 19)] ∈ wsG := wsG_of 699 (by decide +kernel) rfl
def mL_vector : MethodName × ByteArray × Nat × Option FieldType × Nat × Nat × Nat × Nat := (yL_vector, cL_vector, 6, (some .int), 9, 156, 3, 18)
theorem gcd_L_vector : Cond.codeWith yL_vector cL_vector 6 (some .int) [(0, 12, 15, 13)] ∈ wsG := wsG_of 706 (by decide +kernel) rfl
def mL_knows : MethodName × ByteArray × Nat × Option FieldType × Nat × Nat × Nat × Nat := (yL_knows, cL_knows, 6, (some .int), 8, 134, 3, 18)
theorem gcd_L_knows : Cond.codeWith yL_knows cL_knows 6 (some .int) [(0, 12, 15, 13)] ∈ wsG := wsG_of 713 (by decide +kernel) rfl
def mL_key : MethodName × ByteArray × Nat × Option FieldType × Nat × Nat × Nat × Nat := (yL_key, cL_key, 5, (some .int), 8, 133, 2, 12)
theorem gcd_L_key : Cond.codeWith yL_key cL_key 5 (some .int) [(0, 10, 13, 13), (0, 10, 17, 19)] ∈ wsG := wsG_of 720 (by decide +kernel) rfl
def mL_count : MethodName × ByteArray × Nat × Option FieldType × Nat × Nat × Nat × Nat := (yL_count, cL_count, 4, (some .int), 8, 132, 1, 6)
theorem gcd_L_count : Cond.codeWith yL_count cL_count 4 (some .int) [(0, 9, 12, 19)] ∈ wsG := wsG_of 727 (by decide +kernel) rfl
def mL_ifWritten : MethodName × ByteArray × Nat × Option FieldType × Nat × Nat × Nat × Nat := (yL_ifWritten, cL_ifWritten, 7, (some .int), 9, 157, 4, 24)
theorem gcd_L_ifWritten : Cond.codeWith yL_ifWritten cL_ifWritten 7 (some .int) [(0, 14, 17, 13), (0, 14, 21, 19)] ∈ wsG := wsG_of 734 (by decide +kernel) rfl
def mL_ifPulled : MethodName × ByteArray × Nat × Option FieldType × Nat × Nat × Nat × Nat := (yL_ifPulled, cL_ifPulled, 7, (some .int), 9, 157, 5, 30)
theorem gcd_L_ifPulled : Cond.codeWith yL_ifPulled cL_ifPulled 7 (some .int) [(0, 14, 17, 13), (0, 14, 21, 19)] ∈ wsG := wsG_of 741 (by decide +kernel) rfl
def mL_whyNot : MethodName × ByteArray × Nat × Option FieldType × Nat × Nat × Nat × Nat := (yL_whyNot, cL_whyNot, 5, (some .int), 8, 133, 2, 12)
theorem gcd_L_whyNot : Cond.codeWith yL_whyNot cL_whyNot 5 (some .int) [(0, 10, 13, 13)] ∈ wsG := wsG_of 748 (by decide +kernel) rfl
def mL_law : MethodName × ByteArray × Nat × Option FieldType × Nat × Nat × Nat × Nat := (yL_law, cL_law, 9, ret, 12, 440, 601899, 7290406)
