/-! the links of the code: fields, classes, calls; the throws -/
theorem fp_RX0_9 : gFp RX0 9 0 0 (.array .int) true := ⟨RX0, TX0, 4, rfl, by decide, gly_RX0, (wsG_of 48 (by decide +kernel) rfl), ⟨tyX0, tyX0_ok⟩, nmX0, rfl, (fun _ => rfl), by decide +kernel⟩
theorem fp_RX0_15 : gFp RX0 15 0 1 (.array .int) true := ⟨RX0, TX0, 4, rfl, by decide, gly_RX0, (wsG_of 51 (by decide +kernel) rfl), ⟨tyX0, tyX0_ok⟩, nmX0, rfl, (fun _ => rfl), by decide +kernel⟩
theorem fp_RX0_18 : gFp RX0 18 0 2 (.array .int) true := ⟨RX0, TX0, 4, rfl, by decide, gly_RX0, (wsG_of 53 (by decide +kernel) rfl), ⟨tyX0, tyX0_ok⟩, nmX0, rfl, (fun _ => rfl), by decide +kernel⟩
theorem fl_RX0_9 : gFl RX0 9 0 0 := ⟨RX0, TX0, 4, rfl, by decide, gly_RX0, (wsG_of 48 (by decide +kernel) rfl)⟩
theorem fl_RX0_15 : gFl RX0 15 0 1 := ⟨RX0, TX0, 4, rfl, by decide, gly_RX0, (wsG_of 51 (by decide +kernel) rfl)⟩
theorem fl_RX0_18 : gFl RX0 18 0 2 := ⟨RX0, TX0, 4, rfl, by decide, gly_RX0, (wsG_of 53 (by decide +kernel) rfl)⟩
theorem fl_RX0_27 : gFl RX0 27 0 3 := ⟨RX0, TX0, 4, rfl, by decide, gly_RX0, (wsG_of 56 (by decide +kernel) rfl)⟩
theorem fp_RX0_27 : gFp RX0 27 0 3 .int false := ⟨RX0, TX0, 4, rfl, by decide, gly_RX0, (wsG_of 56 (by decide +kernel) rfl), ⟨tyX0, tyX0_ok⟩, nmX0, rfl, (fun h => by cases h), by decide +kernel⟩
theorem fp_RX1_11 : gFp RX1 11 1 0 (.array (.object "SiblingJoins$Copy")) true := ⟨RX1, TX1, 3, rfl, by decide, gly_RX1, (wsG_of 69 (by decide +kernel) rfl), ⟨tyX1, tyX1_ok⟩, nmX1, rfl, (fun _ => rfl), by decide +kernel⟩
theorem fp_RX1_19 : gFp RX1 19 1 1 (.array (.array .int)) true := ⟨RX1, TX1, 3, rfl, by decide, gly_RX1, (wsG_of 72 (by decide +kernel) rfl), ⟨tyX1, tyX1_ok⟩, nmX1, rfl, (fun _ => rfl), by decide +kernel⟩
theorem fp_RX1_22 : gFp RX1 22 1 2 (.array .int) true := ⟨RX1, TX1, 3, rfl, by decide, gly_RX1, (wsG_of 74 (by decide +kernel) rfl), ⟨tyX1, tyX1_ok⟩, nmX1, rfl, (fun _ => rfl), by decide +kernel⟩
theorem fl_RX1_11 : gFl RX1 11 1 0 := ⟨RX1, TX1, 3, rfl, by decide, gly_RX1, (wsG_of 69 (by decide +kernel) rfl)⟩
theorem fl_RX1_19 : gFl RX1 19 1 1 := ⟨RX1, TX1, 3, rfl, by decide, gly_RX1, (wsG_of 72 (by decide +kernel) rfl)⟩
theorem fl_RX1_22 : gFl RX1 22 1 2 := ⟨RX1, TX1, 3, rfl, by decide, gly_RX1, (wsG_of 74 (by decide +kernel) rfl)⟩
theorem fl_RX1_37 : gFl RX1 37 0 0 := ⟨RX0, TX0, 4, rfl, by decide, gly_RX0, (wsG_of 49 (by decide +kernel) rfl)⟩
theorem fl_RX1_55 : gFl RX1 55 0 3 := ⟨RX0, TX0, 4, rfl, by decide, gly_RX0, (wsG_of 58 (by decide +kernel) rfl)⟩
theorem fl_RX1_78 : gFl RX1 78 0 1 := ⟨RX0, TX0, 4, rfl, by decide, gly_RX0, (wsG_of 52 (by decide +kernel) rfl)⟩
theorem fl_RX1_88 : gFl RX1 88 0 2 := ⟨RX0, TX0, 4, rfl, by decide, gly_RX0, (wsG_of 54 (by decide +kernel) rfl)⟩
theorem fp_RX2_7 : gFp RX2 7 2 0 .int false := ⟨RX2, TX2, 6, rfl, by decide, gly_RX2, (wsG_of 115 (by decide +kernel) rfl), ⟨tyX2, tyX2_ok⟩, nmX2, rfl, (fun h => by cases h), by decide +kernel⟩
theorem fl_RX2_7 : gFl RX2 7 2 0 := ⟨RX2, TX2, 6, rfl, by decide, gly_RX2, (wsG_of 115 (by decide +kernel) rfl)⟩
theorem fl_RX2_42 : gFl RX2 42 2 1 := ⟨RX2, TX2, 6, rfl, by decide, gly_RX2, (wsG_of 116 (by decide +kernel) rfl)⟩
theorem fp_RX2_42 : gFp RX2 42 2 1 .boolean false := ⟨RX2, TX2, 6, rfl, by decide, gly_RX2, (wsG_of 116 (by decide +kernel) rfl), ⟨tyX2, tyX2_ok⟩, nmX2, rfl, (fun h => by cases h), by decide +kernel⟩
theorem fp_RX2_50 : gFp RX2 50 2 2 .int false := ⟨RX2, TX2, 6, rfl, by decide, gly_RX2, (wsG_of 118 (by decide +kernel) rfl), ⟨tyX2, tyX2_ok⟩, nmX2, rfl, (fun h => by cases h), by decide +kernel⟩
theorem fp_RX2_53 : gFp RX2 53 2 3 .int false := ⟨RX2, TX2, 6, rfl, by decide, gly_RX2, (wsG_of 120 (by decide +kernel) rfl), ⟨tyX2, tyX2_ok⟩, nmX2, rfl, (fun h => by cases h), by decide +kernel⟩
theorem fp_RX2_56 : gFp RX2 56 2 4 .int false := ⟨RX2, TX2, 6, rfl, by decide, gly_RX2, (wsG_of 122 (by decide +kernel) rfl), ⟨tyX2, tyX2_ok⟩, nmX2, rfl, (fun h => by cases h), by decide +kernel⟩
theorem fp_RX2_59 : gFp RX2 59 2 5 .int false := ⟨RX2, TX2, 6, rfl, by decide, gly_RX2, (wsG_of 124 (by decide +kernel) rfl), ⟨tyX2, tyX2_ok⟩, nmX2, rfl, (fun h => by cases h), by decide +kernel⟩
theorem fl_RX2_59 : gFl RX2 59 2 5 := ⟨RX2, TX2, 6, rfl, by decide, gly_RX2, (wsG_of 124 (by decide +kernel) rfl)⟩
theorem fp_RX3_11 : gFp RX3 11 3 0 (.array (.object "SiblingJoins$KeyState")) true := ⟨RX3, TX3, 6, rfl, by decide, gly_RX3, (wsG_of 83 (by decide +kernel) rfl), ⟨tyX3, tyX3_ok⟩, nmX3, rfl, (fun _ => rfl), by decide +kernel⟩
theorem fl_RX3_11 : gFl RX3 11 3 0 := ⟨RX3, TX3, 6, rfl, by decide, gly_RX3, (wsG_of 83 (by decide +kernel) rfl)⟩
theorem fl_RX3_22 : gFl RX3 22 3 1 := ⟨RX3, TX3, 6, rfl, by decide, gly_RX3, (wsG_of 85 (by decide +kernel) rfl)⟩
theorem fp_RX3_22 : gFp RX3 22 3 1 .int false := ⟨RX3, TX3, 6, rfl, by decide, gly_RX3, (wsG_of 85 (by decide +kernel) rfl), ⟨tyX3, tyX3_ok⟩, nmX3, rfl, (fun h => by cases h), by decide +kernel⟩
theorem fl_RX3_26 : gFl RX3 26 3 2 := ⟨RX3, TX3, 6, rfl, by decide, gly_RX3, (wsG_of 87 (by decide +kernel) rfl)⟩
theorem fp_RX3_26 : gFp RX3 26 3 2 .int false := ⟨RX3, TX3, 6, rfl, by decide, gly_RX3, (wsG_of 87 (by decide +kernel) rfl), ⟨tyX3, tyX3_ok⟩, nmX3, rfl, (fun h => by cases h), by decide +kernel⟩
theorem fl_RX3_29 : gFl RX3 29 3 3 := ⟨RX3, TX3, 6, rfl, by decide, gly_RX3, (wsG_of 89 (by decide +kernel) rfl)⟩
theorem fp_RX3_29 : gFp RX3 29 3 3 .int false := ⟨RX3, TX3, 6, rfl, by decide, gly_RX3, (wsG_of 89 (by decide +kernel) rfl), ⟨tyX3, tyX3_ok⟩, nmX3, rfl, (fun h => by cases h), by decide +kernel⟩
theorem fl_RX3_32 : gFl RX3 32 3 4 := ⟨RX3, TX3, 6, rfl, by decide, gly_RX3, (wsG_of 91 (by decide +kernel) rfl)⟩
theorem fp_RX3_32 : gFp RX3 32 3 4 .int false := ⟨RX3, TX3, 6, rfl, by decide, gly_RX3, (wsG_of 91 (by decide +kernel) rfl), ⟨tyX3, tyX3_ok⟩, nmX3, rfl, (fun h => by cases h), by decide +kernel⟩
theorem fl_RX3_35 : gFl RX3 35 3 5 := ⟨RX3, TX3, 6, rfl, by decide, gly_RX3, (wsG_of 93 (by decide +kernel) rfl)⟩
theorem fp_RX3_35 : gFp RX3 35 3 5 .int false := ⟨RX3, TX3, 6, rfl, by decide, gly_RX3, (wsG_of 93 (by decide +kernel) rfl), ⟨tyX3, tyX3_ok⟩, nmX3, rfl, (fun h => by cases h), by decide +kernel⟩
theorem fl_RX3_49 : gFl RX3 49 1 0 := ⟨RX1, TX1, 3, rfl, by decide, gly_RX1, (wsG_of 71 (by decide +kernel) rfl)⟩
theorem fl_RX3_66 : gFl RX3 66 0 3 := ⟨RX0, TX0, 4, rfl, by decide, gly_RX0, (wsG_of 57 (by decide +kernel) rfl)⟩
theorem fp_RX4_10 : gFp RX4 10 4 0 (.object "SiblingJoins$State") true := ⟨RX4, TX4, 7, rfl, by decide, gly_RX4, (wsG_of 139 (by decide +kernel) rfl), ⟨tyX4, tyX4_ok⟩, nmX4, rfl, (fun _ => rfl), by decide +kernel⟩
theorem fp_RX4_16 : gFp RX4 16 4 1 (.object "SiblingJoins$State") true := ⟨RX4, TX4, 7, rfl, by decide, gly_RX4, (wsG_of 140 (by decide +kernel) rfl), ⟨tyX4, tyX4_ok⟩, nmX4, rfl, (fun _ => rfl), by decide +kernel⟩
theorem fp_RX4_19 : gFp RX4 19 4 2 (.array (.object "SiblingJoins$State")) true := ⟨RX4, TX4, 7, rfl, by decide, gly_RX4, (wsG_of 141 (by decide +kernel) rfl), ⟨tyX4, tyX4_ok⟩, nmX4, rfl, (fun _ => rfl), by decide +kernel⟩
theorem fp_RX4_23 : gFp RX4 23 4 4 (.array .int) true := ⟨RX4, TX4, 7, rfl, by decide, gly_RX4, (wsG_of 143 (by decide +kernel) rfl), ⟨tyX4, tyX4_ok⟩, nmX4, rfl, (fun _ => rfl), by decide +kernel⟩
theorem fp_RX4_30 : gFp RX4 30 4 6 (.object "SiblingJoins$Part") true := ⟨RX4, TX4, 7, rfl, by decide, gly_RX4, (wsG_of 145 (by decide +kernel) rfl), ⟨tyX4, tyX4_ok⟩, nmX4, rfl, (fun _ => rfl), by decide +kernel⟩
theorem fl_RX4_19 : gFl RX4 19 4 2 := ⟨RX4, TX4, 7, rfl, by decide, gly_RX4, (wsG_of 141 (by decide +kernel) rfl)⟩
theorem fl_RX4_10 : gFl RX4 10 4 0 := ⟨RX4, TX4, 7, rfl, by decide, gly_RX4, (wsG_of 139 (by decide +kernel) rfl)⟩
theorem fl_RX4_41 : gFl RX4 41 3 0 := ⟨RX3, TX3, 6, rfl, by decide, gly_RX3, (wsG_of 84 (by decide +kernel) rfl)⟩
theorem fl_RX4_51 : gFl RX4 51 1 0 := ⟨RX1, TX1, 3, rfl, by decide, gly_RX1, (wsG_of 70 (by decide +kernel) rfl)⟩
theorem fl_RX4_55 : gFl RX4 55 0 3 := ⟨RX0, TX0, 4, rfl, by decide, gly_RX0, (wsG_of 55 (by decide +kernel) rfl)⟩
theorem fl_RX4_91 : gFl RX4 91 1 2 := ⟨RX1, TX1, 3, rfl, by decide, gly_RX1, (wsG_of 75 (by decide +kernel) rfl)⟩
theorem fl_RX4_100 : gFl RX4 100 3 4 := ⟨RX3, TX3, 6, rfl, by decide, gly_RX3, (wsG_of 92 (by decide +kernel) rfl)⟩
theorem fp_RX4_100 : gFp RX4 100 3 4 .int false := ⟨RX3, TX3, 6, rfl, by decide, gly_RX3, (wsG_of 92 (by decide +kernel) rfl), ⟨tyX3, tyX3_ok⟩, nmX3, rfl, (fun h => by cases h), by decide +kernel⟩
theorem fl_RX4_118 : gFl RX4 118 3 5 := ⟨RX3, TX3, 6, rfl, by decide, gly_RX3, (wsG_of 94 (by decide +kernel) rfl)⟩
theorem fp_RX4_118 : gFp RX4 118 3 5 .int false := ⟨RX3, TX3, 6, rfl, by decide, gly_RX3, (wsG_of 94 (by decide +kernel) rfl), ⟨tyX3, tyX3_ok⟩, nmX3, rfl, (fun h => by cases h), by decide +kernel⟩
theorem fl_RX4_16 : gFl RX4 16 4 1 := ⟨RX4, TX4, 7, rfl, by decide, gly_RX4, (wsG_of 140 (by decide +kernel) rfl)⟩
theorem fl_RX4_129 : gFl RX4 129 3 3 := ⟨RX3, TX3, 6, rfl, by decide, gly_RX3, (wsG_of 90 (by decide +kernel) rfl)⟩
theorem fl_RX4_137 : gFl RX4 137 4 5 := ⟨RX4, TX4, 7, rfl, by decide, gly_RX4, (wsG_of 144 (by decide +kernel) rfl)⟩
theorem fl_RX4_23 : gFl RX4 23 4 4 := ⟨RX4, TX4, 7, rfl, by decide, gly_RX4, (wsG_of 143 (by decide +kernel) rfl)⟩
theorem fp_RX4_137 : gFp RX4 137 4 5 .int false := ⟨RX4, TX4, 7, rfl, by decide, gly_RX4, (wsG_of 144 (by decide +kernel) rfl), ⟨tyX4, tyX4_ok⟩, nmX4, rfl, (fun h => by cases h), by decide +kernel⟩
theorem fl_RX4_30 : gFl RX4 30 4 6 := ⟨RX4, TX4, 7, rfl, by decide, gly_RX4, (wsG_of 145 (by decide +kernel) rfl)⟩
theorem fl_RX4_154 : gFl RX4 154 4 3 := ⟨RX4, TX4, 7, rfl, by decide, gly_RX4, (wsG_of 142 (by decide +kernel) rfl)⟩
theorem fp_RX4_154 : gFp RX4 154 4 3 .int false := ⟨RX4, TX4, 7, rfl, by decide, gly_RX4, (wsG_of 142 (by decide +kernel) rfl), ⟨tyX4, tyX4_ok⟩, nmX4, rfl, (fun h => by cases h), by decide +kernel⟩
theorem fl_RX4_162 : gFl RX4 162 0 0 := ⟨RX0, TX0, 4, rfl, by decide, gly_RX0, (wsG_of 50 (by decide +kernel) rfl)⟩
theorem fl_RX4_165 : gFl RX4 165 1 1 := ⟨RX1, TX1, 3, rfl, by decide, gly_RX1, (wsG_of 73 (by decide +kernel) rfl)⟩
theorem fl_RX4_221 : gFl RX4 221 2 3 := ⟨RX2, TX2, 6, rfl, by decide, gly_RX2, (wsG_of 121 (by decide +kernel) rfl)⟩
theorem fl_RX4_224 : gFl RX4 224 2 1 := ⟨RX2, TX2, 6, rfl, by decide, gly_RX2, (wsG_of 117 (by decide +kernel) rfl)⟩
theorem fl_RX4_228 : gFl RX4 228 2 2 := ⟨RX2, TX2, 6, rfl, by decide, gly_RX2, (wsG_of 119 (by decide +kernel) rfl)⟩
theorem fl_RX4_231 : gFl RX4 231 2 4 := ⟨RX2, TX2, 6, rfl, by decide, gly_RX2, (wsG_of 123 (by decide +kernel) rfl)⟩
theorem fl_RX4_234 : gFl RX4 234 2 5 := ⟨RX2, TX2, 6, rfl, by decide, gly_RX2, (wsG_of 125 (by decide +kernel) rfl)⟩
theorem fl_RX4_243 : gFl RX4 243 3 1 := ⟨RX3, TX3, 6, rfl, by decide, gly_RX3, (wsG_of 86 (by decide +kernel) rfl)⟩
theorem fl_RX4_246 : gFl RX4 246 3 2 := ⟨RX3, TX3, 6, rfl, by decide, gly_RX3, (wsG_of 88 (by decide +kernel) rfl)⟩
theorem nw_RX1_9 : gNw RX1 9 0 4 [.null, .null, .null, .int 0] := ⟨RX0, TX0, tyX0, rfl, gly_RX0, tyX0_ok, (wsG_of 39 (by decide +kernel) rfl), gin_RX0, gii_RX0, fun j hj => by rcases (show j = 0 ∨ j = 1 ∨ j = 2 ∨ j = 3 by omega) with rfl | rfl | rfl | rfl <;> rfl⟩
theorem nw_RX3_9 : gNw RX3 9 1 3 [.null, .null, .null] := ⟨RX1, TX1, tyX1, rfl, gly_RX1, tyX1_ok, (wsG_of 32 (by decide +kernel) rfl), gin_RX1, gii_RX1, fun j hj => by rcases (show j = 0 ∨ j = 1 ∨ j = 2 by omega) with rfl | rfl | rfl <;> rfl⟩
theorem nw_RX4_7 : gNw RX4 7 3 6 [.null, .int 0, .int 0, .int 0, .int 0, .int 0] := ⟨RX3, TX3, tyX3, rfl, gly_RX3, tyX3_ok, (wsG_of 26 (by decide +kernel) rfl), gin_RX3, gii_RX3, fun j hj => by rcases (show j = 0 ∨ j = 1 ∨ j = 2 ∨ j = 3 ∨ j = 4 ∨ j = 5 by omega) with rfl | rfl | rfl | rfl | rfl | rfl <;> rfl⟩
theorem nw_RX4_27 : gNw RX4 27 2 6 [.int 0, .int 0, .int 0, .int 0, .int 0, .int 0] := ⟨RX2, TX2, tyX2, rfl, gly_RX2, tyX2_ok, (wsG_of 109 (by decide +kernel) rfl), gin_RX2, gii_RX2, fun j hj => by rcases (show j = 0 ∨ j = 1 ∨ j = 2 ∨ j = 3 ∨ j = 4 ∨ j = 5 by omega) with rfl | rfl | rfl | rfl | rfl | rfl <;> rfl⟩
theorem sp_RX0_3 : Cond.methodLink RX0 3 objectInit ∈ wsG := (wsG_of 47 (by decide +kernel) rfl)
theorem sp_RX0_21 : Cond.methodLink RX0 21 arraycopyName ∈ wsG := (wsG_of 259 (by decide +kernel) rfl)
theorem ln_RX0_31 : gLn RX0 31 mX4_writerOf 1 := ⟨⟨"SiblingJoins", by simp [gNest, mX4_writerOf]⟩, gii_RX4, gcd_X4_writerOf, by decide, by decide, by decide +kernel⟩
theorem gs_X4_writerOf : Cond.static mX4_writerOf.1 ∈ wsG := (wsG_of 397 (by decide +kernel) rfl)
theorem ln_RX0_35 : gLn RX0 35 mX4_covers 2 := ⟨⟨"SiblingJoins", by simp [gNest, mX4_covers]⟩, gii_RX4, gcd_X4_covers, by decide, by decide, by decide +kernel⟩
theorem gs_X4_covers : Cond.static mX4_covers.1 ∈ wsG := (wsG_of 415 (by decide +kernel) rfl)
theorem lk_RX0_39 : gLk RX0 39 mX0_has 1 := ⟨(wsG_of 442 (by decide +kernel) rfl), gii_RX0, gcd_X0_has, by decide, by decide, by decide +kernel⟩
theorem gi_X0_has : Cond.instanceMethod mX0_has.1 ∈ wsG := (wsG_of 362 (by decide +kernel) rfl)
theorem gv_X0_has : Cond.selects RX0 mX0_has.1 mX0_has.1 ∈ wsG := (wsG_of 363 (by decide +kernel) rfl)
theorem lk_RX0_43 : gLk RX0 43 mX0_hasDropped 1 := ⟨(wsG_of 438 (by decide +kernel) rfl), gii_RX0, gcd_X0_hasDropped, by decide, by decide, by decide +kernel⟩
theorem gi_X0_hasDropped : Cond.instanceMethod mX0_hasDropped.1 ∈ wsG := (wsG_of 439 (by decide +kernel) rfl)
theorem gv_X0_hasDropped : Cond.selects RX0 mX0_hasDropped.1 mX0_hasDropped.1 ∈ wsG := (wsG_of 440 (by decide +kernel) rfl)
theorem lk_RX0_46 : gLk RX0 46 mX0_isNew 1 := ⟨(wsG_of 447 (by decide +kernel) rfl), gii_RX0, gcd_X0_isNew, by decide, by decide, by decide +kernel⟩
theorem gi_X0_isNew : Cond.instanceMethod mX0_isNew.1 ∈ wsG := (wsG_of 448 (by decide +kernel) rfl)
theorem gv_X0_isNew : Cond.selects RX0 mX0_isNew.1 mX0_isNew.1 ∈ wsG := (wsG_of 449 (by decide +kernel) rfl)
theorem lk_RX0_49 : gLk RX0 49 mX0_remove 1 := ⟨(wsG_of 503 (by decide +kernel) rfl), gii_RX0, gcd_X0_remove, by decide, by decide, by decide +kernel⟩
theorem gi_X0_remove : Cond.instanceMethod mX0_remove.1 ∈ wsG := (wsG_of 504 (by decide +kernel) rfl)
theorem gv_X0_remove : Cond.selects RX0 mX0_remove.1 mX0_remove.1 ∈ wsG := (wsG_of 505 (by decide +kernel) rfl)
theorem lk_RX0_53 : gLk RX0 53 mX0_insert 2 := ⟨(wsG_of 534 (by decide +kernel) rfl), gii_RX0, gcd_X0_insert, by decide, by decide, by decide +kernel⟩
theorem gi_X0_insert : Cond.instanceMethod mX0_insert.1 ∈ wsG := (wsG_of 508 (by decide +kernel) rfl)
theorem gv_X0_insert : Cond.selects RX0 mX0_insert.1 mX0_insert.1 ∈ wsG := (wsG_of 509 (by decide +kernel) rfl)
theorem ln_RX0_57 : gLn RX0 57 mX4_mergeInto 2 := ⟨⟨"SiblingJoins", by simp [gNest, mX4_mergeInto]⟩, gii_RX4, gcd_X4_mergeInto, by decide, by decide, by decide +kernel⟩
theorem gs_X4_mergeInto : Cond.static mX4_mergeInto.1 ∈ wsG := (wsG_of 268 (by decide +kernel) rfl)
theorem sp_RX0_61 : Cond.methodLink RX0 61 Lib.Math.max.name ∈ wsG := (wsG_of 545 (by decide +kernel) rfl)
theorem sp_RX0_67 : Cond.methodLink RX0 67 Lib.Math.min.name ∈ wsG := (wsG_of 546 (by decide +kernel) rfl)
theorem sp_RX1_3 : Cond.methodLink RX1 3 objectInit ∈ wsG := (wsG_of 38 (by decide +kernel) rfl)
theorem ln_RX1_26 : gLn RX1 26 mX0_init 0 := ⟨⟨"SiblingJoins", by simp [gNest, mX0_init]⟩, gii_RX0, gcd_X0_init, by decide, by decide, by decide +kernel⟩
theorem gi_X0_init : Cond.instanceMethod mX0_init.1 ∈ wsG := (wsG_of 45 (by decide +kernel) rfl)
theorem lk_RX1_27 : gLk RX1 27 mX0_become 1 := ⟨(wsG_of 255 (by decide +kernel) rfl), gii_RX0, gcd_X0_become, by decide, by decide, by decide +kernel⟩
theorem gi_X0_become : Cond.instanceMethod mX0_become.1 ∈ wsG := (wsG_of 256 (by decide +kernel) rfl)
theorem gv_X0_become : Cond.selects RX0 mX0_become.1 mX0_become.1 ∈ wsG := (wsG_of 257 (by decide +kernel) rfl)
theorem sp_RX1_31 : Cond.methodLink RX1 31 arraycopyName ∈ wsG := (wsG_of 262 (by decide +kernel) rfl)
theorem ln_RX1_40 : gLn RX1 40 mX4_mergeInto 2 := ⟨⟨"SiblingJoins", by simp [gNest, mX4_mergeInto]⟩, gii_RX4, gcd_X4_mergeInto, by decide, by decide, by decide +kernel⟩
theorem lk_RX1_44 : gLk RX1 44 mX1_writeOutlook 3 := ⟨(wsG_of 488 (by decide +kernel) rfl), gii_RX1, gcd_X1_writeOutlook, by decide, by decide, by decide +kernel⟩
theorem gi_X1_writeOutlook : Cond.instanceMethod mX1_writeOutlook.1 ∈ wsG := (wsG_of 422 (by decide +kernel) rfl)
theorem gv_X1_writeOutlook : Cond.selects RX1 mX1_writeOutlook.1 mX1_writeOutlook.1 ∈ wsG := (wsG_of 423 (by decide +kernel) rfl)
theorem lk_RX1_48 : gLk RX1 48 mX1_pullOutlook 3 := ⟨(wsG_of 523 (by decide +kernel) rfl), gii_RX1, gcd_X1_pullOutlook, by decide, by decide, by decide +kernel⟩
theorem gi_X1_pullOutlook : Cond.instanceMethod mX1_pullOutlook.1 ∈ wsG := (wsG_of 431 (by decide +kernel) rfl)
theorem gv_X1_pullOutlook : Cond.selects RX1 mX1_pullOutlook.1 mX1_pullOutlook.1 ∈ wsG := (wsG_of 432 (by decide +kernel) rfl)
theorem lk_RX1_51 : gLk RX1 51 mX0_coveredBy 1 := ⟨(wsG_of 425 (by decide +kernel) rfl), gii_RX0, gcd_X0_coveredBy, by decide, by decide, by decide +kernel⟩
theorem gi_X0_coveredBy : Cond.instanceMethod mX0_coveredBy.1 ∈ wsG := (wsG_of 426 (by decide +kernel) rfl)
theorem gv_X0_coveredBy : Cond.selects RX0 mX0_coveredBy.1 mX0_coveredBy.1 ∈ wsG := (wsG_of 427 (by decide +kernel) rfl)
theorem lk_RX1_59 : gLk RX1 59 mX0_lostTo 1 := ⟨(wsG_of 434 (by decide +kernel) rfl), gii_RX0, gcd_X0_lostTo, by decide, by decide, by decide +kernel⟩
theorem gi_X0_lostTo : Cond.instanceMethod mX0_lostTo.1 ∈ wsG := (wsG_of 435 (by decide +kernel) rfl)
theorem gv_X0_lostTo : Cond.selects RX0 mX0_lostTo.1 mX0_lostTo.1 ∈ wsG := (wsG_of 436 (by decide +kernel) rfl)
theorem lk_RX1_63 : gLk RX1 63 mX0_gainedFrom 1 := ⟨(wsG_of 443 (by decide +kernel) rfl), gii_RX0, gcd_X0_gainedFrom, by decide, by decide, by decide +kernel⟩
theorem gi_X0_gainedFrom : Cond.instanceMethod mX0_gainedFrom.1 ∈ wsG := (wsG_of 444 (by decide +kernel) rfl)
theorem gv_X0_gainedFrom : Cond.selects RX0 mX0_gainedFrom.1 mX0_gainedFrom.1 ∈ wsG := (wsG_of 445 (by decide +kernel) rfl)
theorem lk_RX1_66 : gLk RX1 66 mX0_dropCoveredBy 1 := ⟨(wsG_of 499 (by decide +kernel) rfl), gii_RX0, gcd_X0_dropCoveredBy, by decide, by decide, by decide +kernel⟩
theorem gi_X0_dropCoveredBy : Cond.instanceMethod mX0_dropCoveredBy.1 ∈ wsG := (wsG_of 500 (by decide +kernel) rfl)
theorem gv_X0_dropCoveredBy : Cond.selects RX0 mX0_dropCoveredBy.1 mX0_dropCoveredBy.1 ∈ wsG := (wsG_of 501 (by decide +kernel) rfl)
theorem lk_RX1_70 : gLk RX1 70 mX0_insert 2 := ⟨(wsG_of 507 (by decide +kernel) rfl), gii_RX0, gcd_X0_insert, by decide, by decide, by decide +kernel⟩
theorem lk_RX1_74 : gLk RX1 74 mX0_hasOneOf 1 := ⟨(wsG_of 392 (by decide +kernel) rfl), gii_RX0, gcd_X0_hasOneOf, by decide, by decide, by decide +kernel⟩
theorem gi_X0_hasOneOf : Cond.instanceMethod mX0_hasOneOf.1 ∈ wsG := (wsG_of 393 (by decide +kernel) rfl)
theorem gv_X0_hasOneOf : Cond.selects RX0 mX0_hasOneOf.1 mX0_hasOneOf.1 ∈ wsG := (wsG_of 394 (by decide +kernel) rfl)
theorem ln_RX1_81 : gLn RX1 81 mX4_writerOf 1 := ⟨⟨"SiblingJoins", by simp [gNest, mX4_writerOf]⟩, gii_RX4, gcd_X4_writerOf, by decide, by decide, by decide +kernel⟩
theorem ln_RX1_85 : gLn RX1 85 mX4_numberOf 1 := ⟨⟨"SiblingJoins", by simp [gNest, mX4_numberOf]⟩, gii_RX4, gcd_X4_numberOf, by decide, by decide, by decide +kernel⟩
theorem gs_X4_numberOf : Cond.static mX4_numberOf.1 ∈ wsG := (wsG_of 408 (by decide +kernel) rfl)
theorem lk_RX1_91 : gLk RX1 91 mX1_knowers 1 := ⟨(wsG_of 410 (by decide +kernel) rfl), gii_RX1, gcd_X1_knowers, by decide, by decide, by decide +kernel⟩
theorem gi_X1_knowers : Cond.instanceMethod mX1_knowers.1 ∈ wsG := (wsG_of 411 (by decide +kernel) rfl)
theorem gv_X1_knowers : Cond.selects RX1 mX1_knowers.1 mX1_knowers.1 ∈ wsG := (wsG_of 412 (by decide +kernel) rfl)
theorem lk_RX1_94 : gLk RX1 94 mX1_holders 1 := ⟨(wsG_of 357 (by decide +kernel) rfl), gii_RX1, gcd_X1_holders, by decide, by decide, by decide +kernel⟩
theorem gi_X1_holders : Cond.instanceMethod mX1_holders.1 ∈ wsG := (wsG_of 358 (by decide +kernel) rfl)
theorem gv_X1_holders : Cond.selects RX1 mX1_holders.1 mX1_holders.1 ∈ wsG := (wsG_of 359 (by decide +kernel) rfl)
theorem ln_RX1_97 : gLn RX1 97 mX4_covers 2 := ⟨⟨"SiblingJoins", by simp [gNest, mX4_covers]⟩, gii_RX4, gcd_X4_covers, by decide, by decide, by decide +kernel⟩
theorem lk_RX1_101 : gLk RX1 101 mX0_has 1 := ⟨(wsG_of 361 (by decide +kernel) rfl), gii_RX0, gcd_X0_has, by decide, by decide, by decide +kernel⟩
theorem lk_RX1_104 : gLk RX1 104 mX1_unlikeSiblings 0 := ⟨(wsG_of 353 (by decide +kernel) rfl), gii_RX1, gcd_X1_unlikeSiblings, by decide, by decide, by decide +kernel⟩
theorem gi_X1_unlikeSiblings : Cond.instanceMethod mX1_unlikeSiblings.1 ∈ wsG := (wsG_of 354 (by decide +kernel) rfl)
theorem gv_X1_unlikeSiblings : Cond.selects RX1 mX1_unlikeSiblings.1 mX1_unlikeSiblings.1 ∈ wsG := (wsG_of 355 (by decide +kernel) rfl)
theorem lk_RX1_108 : gLk RX1 108 mX1_writesInAll 0 := ⟨(wsG_of 365 (by decide +kernel) rfl), gii_RX1, gcd_X1_writesInAll, by decide, by decide, by decide +kernel⟩
theorem gi_X1_writesInAll : Cond.instanceMethod mX1_writesInAll.1 ∈ wsG := (wsG_of 366 (by decide +kernel) rfl)
theorem gv_X1_writesInAll : Cond.selects RX1 mX1_writesInAll.1 mX1_writesInAll.1 ∈ wsG := (wsG_of 367 (by decide +kernel) rfl)
theorem lk_RX1_111 : gLk RX1 111 mX1_agreeingPairs 0 := ⟨(wsG_of 369 (by decide +kernel) rfl), gii_RX1, gcd_X1_agreeingPairs, by decide, by decide, by decide +kernel⟩
theorem gi_X1_agreeingPairs : Cond.instanceMethod mX1_agreeingPairs.1 ∈ wsG := (wsG_of 370 (by decide +kernel) rfl)
theorem gv_X1_agreeingPairs : Cond.selects RX1 mX1_agreeingPairs.1 mX1_agreeingPairs.1 ∈ wsG := (wsG_of 371 (by decide +kernel) rfl)
theorem lk_RX1_114 : gLk RX1 114 mX1_allSeeTheSame 0 := ⟨(wsG_of 377 (by decide +kernel) rfl), gii_RX1, gcd_X1_allSeeTheSame, by decide, by decide, by decide +kernel⟩
theorem gi_X1_allSeeTheSame : Cond.instanceMethod mX1_allSeeTheSame.1 ∈ wsG := (wsG_of 378 (by decide +kernel) rfl)
theorem gv_X1_allSeeTheSame : Cond.selects RX1 mX1_allSeeTheSame.1 mX1_allSeeTheSame.1 ∈ wsG := (wsG_of 379 (by decide +kernel) rfl)
theorem lk_RX1_118 : gLk RX1 118 mX1_forgettable 0 := ⟨(wsG_of 384 (by decide +kernel) rfl), gii_RX1, gcd_X1_forgettable, by decide, by decide, by decide +kernel⟩
theorem gi_X1_forgettable : Cond.instanceMethod mX1_forgettable.1 ∈ wsG := (wsG_of 385 (by decide +kernel) rfl)
theorem gv_X1_forgettable : Cond.selects RX1 mX1_forgettable.1 mX1_forgettable.1 ∈ wsG := (wsG_of 386 (by decide +kernel) rfl)
theorem lk_RX1_121 : gLk RX1 121 mX0_hasSameSiblings 1 := ⟨(wsG_of 373 (by decide +kernel) rfl), gii_RX0, gcd_X0_hasSameSiblings, by decide, by decide, by decide +kernel⟩
theorem gi_X0_hasSameSiblings : Cond.instanceMethod mX0_hasSameSiblings.1 ∈ wsG := (wsG_of 374 (by decide +kernel) rfl)
theorem gv_X0_hasSameSiblings : Cond.selects RX0 mX0_hasSameSiblings.1 mX0_hasSameSiblings.1 ∈ wsG := (wsG_of 375 (by decide +kernel) rfl)
theorem ln_RX1_125 : gLn RX1 125 mX4_sameNumbers 2 := ⟨⟨"SiblingJoins", by simp [gNest, mX4_sameNumbers]⟩, gii_RX4, gcd_X4_sameNumbers, by decide, by decide, by decide +kernel⟩
theorem gs_X4_sameNumbers : Cond.static mX4_sameNumbers.1 ∈ wsG := (wsG_of 382 (by decide +kernel) rfl)
theorem lk_RX1_129 : gLk RX1 129 mX1_hindrance 1 := ⟨(wsG_of 388 (by decide +kernel) rfl), gii_RX1, gcd_X1_hindrance, by decide, by decide, by decide +kernel⟩
theorem gi_X1_hindrance : Cond.instanceMethod mX1_hindrance.1 ∈ wsG := (wsG_of 389 (by decide +kernel) rfl)
theorem gv_X1_hindrance : Cond.selects RX1 mX1_hindrance.1 mX1_hindrance.1 ∈ wsG := (wsG_of 390 (by decide +kernel) rfl)
theorem sp_RX2_1 : Cond.methodLink RX2 1 objectInit ∈ wsG := (wsG_of 114 (by decide +kernel) rfl)
theorem lk_RX2_13 : gLk RX2 13 mX2_shape 0 := ⟨(wsG_of 588 (by decide +kernel) rfl), gii_RX2, gcd_X2_shape, by decide, by decide, by decide +kernel⟩
theorem gi_X2_shape : Cond.instanceMethod mX2_shape.1 ∈ wsG := (wsG_of 589 (by decide +kernel) rfl)
theorem gv_X2_shape : Cond.selects RX2 mX2_shape.1 mX2_shape.1 ∈ wsG := (wsG_of 590 (by decide +kernel) rfl)
theorem lk_RX2_17 : gLk RX2 17 mJ0_length_8abf5 0 := ⟨(wsG_of 594 (by decide +kernel) rfl), (wsG_of 14 (by decide +kernel) rfl), gcd_J0_length_8abf5, by decide, by decide, by decide +kernel⟩
theorem gi_J0_length_8abf5 : Cond.instanceMethod mJ0_length_8abf5.1 ∈ wsG := (wsG_of 595 (by decide +kernel) rfl)
theorem gv_J0_length_8abf5 : Cond.selects RJ0 mJ0_length_8abf5.1 mJ0_length_8abf5.1 ∈ wsG := (wsG_of 596 (by decide +kernel) rfl)
theorem lk_RX2_23 : gLk RX2 23 mX2_takesKind 1 := ⟨(wsG_of 580 (by decide +kernel) rfl), gii_RX2, gcd_X2_takesKind, by decide, by decide, by decide +kernel⟩
theorem gi_X2_takesKind : Cond.instanceMethod mX2_takesKind.1 ∈ wsG := (wsG_of 581 (by decide +kernel) rfl)
theorem gv_X2_takesKind : Cond.selects RX2 mX2_takesKind.1 mX2_takesKind.1 ∈ wsG := (wsG_of 582 (by decide +kernel) rfl)
theorem lk_RX2_27 : gLk RX2 27 mX2_isWhole 0 := ⟨(wsG_of 584 (by decide +kernel) rfl), gii_RX2, gcd_X2_isWhole, by decide, by decide, by decide +kernel⟩
theorem gi_X2_isWhole : Cond.instanceMethod mX2_isWhole.1 ∈ wsG := (wsG_of 585 (by decide +kernel) rfl)
theorem gv_X2_isWhole : Cond.selects RX2 mX2_isWhole.1 mX2_isWhole.1 ∈ wsG := (wsG_of 586 (by decide +kernel) rfl)
theorem lk_RX2_31 : gLk RX2 31 mX2_takesEnd 1 := ⟨(wsG_of 604 (by decide +kernel) rfl), gii_RX2, gcd_X2_takesEnd, by decide, by decide, by decide +kernel⟩
theorem gi_X2_takesEnd : Cond.instanceMethod mX2_takesEnd.1 ∈ wsG := (wsG_of 605 (by decide +kernel) rfl)
theorem gv_X2_takesEnd : Cond.selects RX2 mX2_takesEnd.1 mX2_takesEnd.1 ∈ wsG := (wsG_of 606 (by decide +kernel) rfl)
theorem lk_RX2_34 : gLk RX2 34 mJ0_charAt_5068e 1 := ⟨(wsG_of 609 (by decide +kernel) rfl), (wsG_of 14 (by decide +kernel) rfl), gcd_J0_charAt_5068e, by decide, by decide, by decide +kernel⟩
theorem gi_J0_charAt_5068e : Cond.instanceMethod mJ0_charAt_5068e.1 ∈ wsG := (wsG_of 610 (by decide +kernel) rfl)
theorem gv_J0_charAt_5068e : Cond.selects RJ0 mJ0_charAt_5068e.1 mJ0_charAt_5068e.1 ∈ wsG := (wsG_of 611 (by decide +kernel) rfl)
theorem lk_RX2_38 : gLk RX2 38 mX2_takesDigit 2 := ⟨(wsG_of 647 (by decide +kernel) rfl), gii_RX2, gcd_X2_takesDigit, by decide, by decide, by decide +kernel⟩
theorem gi_X2_takesDigit : Cond.instanceMethod mX2_takesDigit.1 ∈ wsG := (wsG_of 648 (by decide +kernel) rfl)
theorem gv_X2_takesDigit : Cond.selects RX2 mX2_takesDigit.1 mX2_takesDigit.1 ∈ wsG := (wsG_of 649 (by decide +kernel) rfl)
theorem lk_RX2_62 : gLk RX2 62 mX2_restart 0 := ⟨(wsG_of 608 (by decide +kernel) rfl), gii_RX2, gcd_X2_restart, by decide, by decide, by decide +kernel⟩
theorem gi_X2_restart : Cond.instanceMethod mX2_restart.1 ∈ wsG := (wsG_of 573 (by decide +kernel) rfl)
theorem gv_X2_restart : Cond.selects RX2 mX2_restart.1 mX2_restart.1 ∈ wsG := (wsG_of 574 (by decide +kernel) rfl)
theorem sp_RX3_3 : Cond.methodLink RX3 3 objectInit ∈ wsG := (wsG_of 31 (by decide +kernel) rfl)
theorem lk_RX3_17 : gLk RX3 17 mX1_init 0 := ⟨(wsG_of 35 (by decide +kernel) rfl), gii_RX1, gcd_X1_init, by decide, by decide, by decide +kernel⟩
theorem gi_X1_init : Cond.instanceMethod mX1_init.1 ∈ wsG := (wsG_of 36 (by decide +kernel) rfl)
theorem lk_RX3_18 : gLk RX3 18 mX1_become 1 := ⟨(wsG_of 251 (by decide +kernel) rfl), gii_RX1, gcd_X1_become, by decide, by decide, by decide +kernel⟩
theorem gi_X1_become : Cond.instanceMethod mX1_become.1 ∈ wsG := (wsG_of 252 (by decide +kernel) rfl)
theorem gv_X1_become : Cond.selects RX1 mX1_become.1 mX1_become.1 ∈ wsG := (wsG_of 253 (by decide +kernel) rfl)
theorem lk_RX3_38 : gLk RX3 38 mX1_writeOutlook 3 := ⟨(wsG_of 494 (by decide +kernel) rfl), gii_RX1, gcd_X1_writeOutlook, by decide, by decide, by decide +kernel⟩
theorem lk_RX3_42 : gLk RX3 42 mX1_put 3 := ⟨(wsG_of 495 (by decide +kernel) rfl), gii_RX1, gcd_X1_put, by decide, by decide, by decide +kernel⟩
theorem gi_X1_put : Cond.instanceMethod mX1_put.1 ∈ wsG := (wsG_of 496 (by decide +kernel) rfl)
theorem gv_X1_put : Cond.selects RX1 mX1_put.1 mX1_put.1 ∈ wsG := (wsG_of 497 (by decide +kernel) rfl)
theorem lk_RX3_46 : gLk RX3 46 mX1_pullOutlook 3 := ⟨(wsG_of 529 (by decide +kernel) rfl), gii_RX1, gcd_X1_pullOutlook, by decide, by decide, by decide +kernel⟩
theorem lk_RX3_53 : gLk RX3 53 mX0_takeFrom 1 := ⟨(wsG_of 530 (by decide +kernel) rfl), gii_RX0, gcd_X0_takeFrom, by decide, by decide, by decide +kernel⟩
theorem gi_X0_takeFrom : Cond.instanceMethod mX0_takeFrom.1 ∈ wsG := (wsG_of 531 (by decide +kernel) rfl)
theorem gv_X0_takeFrom : Cond.selects RX0 mX0_takeFrom.1 mX0_takeFrom.1 ∈ wsG := (wsG_of 532 (by decide +kernel) rfl)
theorem lk_RX3_59 : gLk RX3 59 mX1_mayPull 2 := ⟨(wsG_of 697 (by decide +kernel) rfl), gii_RX1, gcd_X1_mayPull, by decide, by decide, by decide +kernel⟩
theorem gi_X1_mayPull : Cond.instanceMethod mX1_mayPull.1 ∈ wsG := (wsG_of 520 (by decide +kernel) rfl)
theorem gv_X1_mayPull : Cond.selects RX1 mX1_mayPull.1 mX1_mayPull.1 ∈ wsG := (wsG_of 521 (by decide +kernel) rfl)
theorem lk_RX3_63 : gLk RX3 63 mX3_bring 3 := ⟨(wsG_of 698 (by decide +kernel) rfl), gii_RX3, gcd_X3_bring, by decide, by decide, by decide +kernel⟩
theorem gi_X3_bring : Cond.instanceMethod mX3_bring.1 ∈ wsG := (wsG_of 526 (by decide +kernel) rfl)
theorem gv_X3_bring : Cond.selects RX3 mX3_bring.1 mX3_bring.1 ∈ wsG := (wsG_of 527 (by decide +kernel) rfl)
theorem sp_RX3_69 : Cond.methodLink RX3 69 Lib.Math.max.name ∈ wsG := (wsG_of 336 (by decide +kernel) rfl)
theorem sp_RX4_1 : Cond.methodLink RX4 1 objectInit ∈ wsG := (wsG_of 23 (by decide +kernel) rfl)
theorem lk_RX4_9 : gLk RX4 9 mX3_init 0 := ⟨(wsG_of 28 (by decide +kernel) rfl), gii_RX3, gcd_X3_init, by decide, by decide, by decide +kernel⟩
theorem gi_X3_init : Cond.instanceMethod mX3_init.1 ∈ wsG := (wsG_of 29 (by decide +kernel) rfl)
theorem ln_RX4_29 : gLn RX4 29 mX2_init 0 := ⟨⟨"SiblingJoins", by simp [gNest, mX2_init]⟩, gii_RX2, gcd_X2_init, by decide, by decide, by decide +kernel⟩
theorem gi_X2_init : Cond.instanceMethod mX2_init.1 ∈ wsG := (wsG_of 112 (by decide +kernel) rfl)
theorem lk_RX4_34 : gLk RX4 34 mX4_checkWriterKeyStore 3 := ⟨(wsG_of 165 (by decide +kernel) rfl), gii_RX4, gcd_X4_checkWriterKeyStore, by decide, by decide, by decide +kernel⟩
theorem gs_X4_checkWriterKeyStore : Cond.static mX4_checkWriterKeyStore.1 ∈ wsG := (wsG_of 166 (by decide +kernel) rfl)
theorem lk_RX4_38 : gLk RX4 38 mX4_save 0 := ⟨(wsG_of 239 (by decide +kernel) rfl), gii_RX4, gcd_X4_save, by decide, by decide, by decide +kernel⟩
theorem gi_X4_save : Cond.instanceMethod mX4_save.1 ∈ wsG := (wsG_of 241 (by decide +kernel) rfl)
theorem gv_X4_save : Cond.selects RX4 mX4_save.1 mX4_save.1 ∈ wsG := (wsG_sel 1 (by decide +kernel) rfl)
theorem lk_RX4_45 : gLk RX4 45 mX1_learn 2 := ⟨(wsG_of 263 (by decide +kernel) rfl), gii_RX1, gcd_X1_learn, by decide, by decide, by decide +kernel⟩
theorem gi_X1_learn : Cond.instanceMethod mX1_learn.1 ∈ wsG := (wsG_of 264 (by decide +kernel) rfl)
theorem gv_X1_learn : Cond.selects RX1 mX1_learn.1 mX1_learn.1 ∈ wsG := (wsG_of 265 (by decide +kernel) rfl)
theorem lk_RX4_61 : gLk RX4 61 mX4_checkUpTo 2 := ⟨(wsG_of 305 (by decide +kernel) rfl), gii_RX4, gcd_X4_checkUpTo, by decide, by decide, by decide +kernel⟩
theorem gs_X4_checkUpTo : Cond.static mX4_checkUpTo.1 ∈ wsG := (wsG_of 306 (by decide +kernel) rfl)
theorem lk_RX4_64 : gLk RX4 64 mX1_mayWrite 2 := ⟨(wsG_of 484 (by decide +kernel) rfl), gii_RX1, gcd_X1_mayWrite, by decide, by decide, by decide +kernel⟩
theorem gi_X1_mayWrite : Cond.instanceMethod mX1_mayWrite.1 ∈ wsG := (wsG_of 485 (by decide +kernel) rfl)
theorem gv_X1_mayWrite : Cond.selects RX1 mX1_mayWrite.1 mX1_mayWrite.1 ∈ wsG := (wsG_of 486 (by decide +kernel) rfl)
theorem lk_RX4_75 : gLk RX4 75 mX3_replace 4 := ⟨(wsG_of 490 (by decide +kernel) rfl), gii_RX3, gcd_X3_replace, by decide, by decide, by decide +kernel⟩
theorem gi_X3_replace : Cond.instanceMethod mX3_replace.1 ∈ wsG := (wsG_of 491 (by decide +kernel) rfl)
theorem gv_X3_replace : Cond.selects RX3 mX3_replace.1 mX3_replace.1 ∈ wsG := (wsG_of 492 (by decide +kernel) rfl)
theorem lk_RX4_79 : gLk RX4 79 mX4_checkTwoStores 3 := ⟨(wsG_of 515 (by decide +kernel) rfl), gii_RX4, gcd_X4_checkTwoStores, by decide, by decide, by decide +kernel⟩
theorem gs_X4_checkTwoStores : Cond.static mX4_checkTwoStores.1 ∈ wsG := (wsG_of 516 (by decide +kernel) rfl)
theorem lk_RX4_82 : gLk RX4 82 mX1_mayPull 2 := ⟨(wsG_of 519 (by decide +kernel) rfl), gii_RX1, gcd_X1_mayPull, by decide, by decide, by decide +kernel⟩
theorem lk_RX4_87 : gLk RX4 87 mX3_bring 3 := ⟨(wsG_of 525 (by decide +kernel) rfl), gii_RX3, gcd_X3_bring, by decide, by decide, by decide +kernel⟩
theorem lk_RX4_96 : gLk RX4 96 mX0_valueBy 1 := ⟨(wsG_of 541 (by decide +kernel) rfl), gii_RX0, gcd_X0_valueBy, by decide, by decide, by decide +kernel⟩
theorem gi_X0_valueBy : Cond.instanceMethod mX0_valueBy.1 ∈ wsG := (wsG_of 542 (by decide +kernel) rfl)
theorem gv_X0_valueBy : Cond.selects RX0 mX0_valueBy.1 mX0_valueBy.1 ∈ wsG := (wsG_of 543 (by decide +kernel) rfl)
theorem lk_RX4_103 : gLk RX4 103 mX4_checkIndex 2 := ⟨(wsG_of 168 (by decide +kernel) rfl), gii_RX4, gcd_X4_checkIndex, by decide, by decide, by decide +kernel⟩
theorem gs_X4_checkIndex : Cond.static mX4_checkIndex.1 ∈ wsG := (wsG_of 169 (by decide +kernel) rfl)
theorem lk_RX4_106 : gLk RX4 106 mX1_unlearn 1 := ⟨(wsG_of 277 (by decide +kernel) rfl), gii_RX1, gcd_X1_unlearn, by decide, by decide, by decide +kernel⟩
theorem gi_X1_unlearn : Cond.instanceMethod mX1_unlearn.1 ∈ wsG := (wsG_of 278 (by decide +kernel) rfl)
theorem gv_X1_unlearn : Cond.selects RX1 mX1_unlearn.1 mX1_unlearn.1 ∈ wsG := (wsG_of 279 (by decide +kernel) rfl)
theorem lk_RX4_109 : gLk RX4 109 mX1_hindrance 1 := ⟨(wsG_of 420 (by decide +kernel) rfl), gii_RX1, gcd_X1_hindrance, by decide, by decide, by decide +kernel⟩
theorem lk_RX4_114 : gLk RX4 114 mX1_erase 1 := ⟨(wsG_of 554 (by decide +kernel) rfl), gii_RX1, gcd_X1_erase, by decide, by decide, by decide +kernel⟩
theorem gi_X1_erase : Cond.instanceMethod mX1_erase.1 ∈ wsG := (wsG_of 555 (by decide +kernel) rfl)
theorem gv_X1_erase : Cond.selects RX1 mX1_erase.1 mX1_erase.1 ∈ wsG := (wsG_of 556 (by decide +kernel) rfl)
theorem lk_RX4_121 : gLk RX4 121 mX3_become 1 := ⟨(wsG_of 247 (by decide +kernel) rfl), gii_RX3, gcd_X3_become, by decide, by decide, by decide +kernel⟩
theorem gi_X3_become : Cond.instanceMethod mX3_become.1 ∈ wsG := (wsG_of 248 (by decide +kernel) rfl)
theorem gv_X3_become : Cond.selects RX3 mX3_become.1 mX3_become.1 ∈ wsG := (wsG_of 249 (by decide +kernel) rfl)
theorem lk_RX4_125 : gLk RX4 125 mX3_bringAll 0 := ⟨(wsG_of 693 (by decide +kernel) rfl), gii_RX3, gcd_X3_bringAll, by decide, by decide, by decide +kernel⟩
theorem gi_X3_bringAll : Cond.instanceMethod mX3_bringAll.1 ∈ wsG := (wsG_of 694 (by decide +kernel) rfl)
theorem gv_X3_bringAll : Cond.selects RX3 mX3_bringAll.1 mX3_bringAll.1 ∈ wsG := (wsG_of 695 (by decide +kernel) rfl)
theorem lk_RX4_142 : gLk RX4 142 mX4_scanBuffer 0 := ⟨(wsG_of 568 (by decide +kernel) rfl), gii_RX4, gcd_X4_scanBuffer, by decide, by decide, by decide +kernel⟩
theorem gi_X4_scanBuffer : Cond.instanceMethod mX4_scanBuffer.1 ∈ wsG := (wsG_of 570 (by decide +kernel) rfl)
theorem gv_X4_scanBuffer : Cond.selects RX4 mX4_scanBuffer.1 mX4_scanBuffer.1 ∈ wsG := (wsG_sel 5 (by decide +kernel) rfl)
theorem lk_RX4_146 : gLk RX4 146 mX2_isWhole 0 := ⟨(wsG_of 651 (by decide +kernel) rfl), gii_RX2, gcd_X2_isWhole, by decide, by decide, by decide +kernel⟩
theorem lk_RX4_151 : gLk RX4 151 mX4_runParts 0 := ⟨(wsG_of 653 (by decide +kernel) rfl), gii_RX4, gcd_X4_runParts, by decide, by decide, by decide +kernel⟩
theorem gi_X4_runParts : Cond.instanceMethod mX4_runParts.1 ∈ wsG := (wsG_of 655 (by decide +kernel) rfl)
theorem gv_X4_runParts : Cond.selects RX4 mX4_runParts.1 mX4_runParts.1 ∈ wsG := (wsG_sel 6 (by decide +kernel) rfl)
theorem lk_RX4_159 : gLk RX4 159 mX1_siblingFact 3 := ⟨(wsG_of 402 (by decide +kernel) rfl), gii_RX1, gcd_X1_siblingFact, by decide, by decide, by decide +kernel⟩
theorem gi_X1_siblingFact : Cond.instanceMethod mX1_siblingFact.1 ∈ wsG := (wsG_of 403 (by decide +kernel) rfl)
theorem gv_X1_siblingFact : Cond.selects RX1 mX1_siblingFact.1 mX1_siblingFact.1 ∈ wsG := (wsG_of 404 (by decide +kernel) rfl)
theorem lk_RX4_169 : gLk RX4 169 mX1_keyFact 1 := ⟨(wsG_of 349 (by decide +kernel) rfl), gii_RX1, gcd_X1_keyFact, by decide, by decide, by decide +kernel⟩
theorem gi_X1_keyFact : Cond.instanceMethod mX1_keyFact.1 ∈ wsG := (wsG_of 350 (by decide +kernel) rfl)
theorem gv_X1_keyFact : Cond.selects RX1 mX1_keyFact.1 mX1_keyFact.1 ∈ wsG := (wsG_of 351 (by decide +kernel) rfl)
theorem lk_RX4_172 : gLk RX4 172 mX4_tally 1 := ⟨(wsG_of 324 (by decide +kernel) rfl), gii_RX4, gcd_X4_tally, by decide, by decide, by decide +kernel⟩
theorem gi_X4_tally : Cond.instanceMethod mX4_tally.1 ∈ wsG := (wsG_of 326 (by decide +kernel) rfl)
theorem gv_X4_tally : Cond.selects RX4 mX4_tally.1 mX4_tally.1 ∈ wsG := (wsG_sel 3 (by decide +kernel) rfl)
theorem lk_RX4_175 : gLk RX4 175 mX1_writeOutlook 3 := ⟨(wsG_of 421 (by decide +kernel) rfl), gii_RX1, gcd_X1_writeOutlook, by decide, by decide, by decide +kernel⟩
theorem lk_RX4_178 : gLk RX4 178 mX1_pullOutlook 3 := ⟨(wsG_of 430 (by decide +kernel) rfl), gii_RX1, gcd_X1_pullOutlook, by decide, by decide, by decide +kernel⟩
theorem lk_RX4_181 : gLk RX4 181 mX4_shareOfAgreement 0 := ⟨(wsG_of 451 (by decide +kernel) rfl), gii_RX4, gcd_X4_shareOfAgreement, by decide, by decide, by decide +kernel⟩
theorem gi_X4_shareOfAgreement : Cond.instanceMethod mX4_shareOfAgreement.1 ∈ wsG := (wsG_of 453 (by decide +kernel) rfl)
theorem gv_X4_shareOfAgreement : Cond.selects RX4 mX4_shareOfAgreement.1 mX4_shareOfAgreement.1 ∈ wsG := (wsG_sel 4 (by decide +kernel) rfl)
theorem lk_RX4_187 : gLk RX4 187 mX4_mix 2 := ⟨(wsG_of 342 (by decide +kernel) rfl), gii_RX4, gcd_X4_mix, by decide, by decide, by decide +kernel⟩
theorem gs_X4_mix : Cond.static mX4_mix.1 ∈ wsG := (wsG_of 343 (by decide +kernel) rfl)
theorem lk_RX4_191 : gLk RX4 191 mX4_mixKey 2 := ⟨(wsG_of 346 (by decide +kernel) rfl), gii_RX4, gcd_X4_mixKey, by decide, by decide, by decide +kernel⟩
theorem gs_X4_mixKey : Cond.static mX4_mixKey.1 ∈ wsG := (wsG_of 347 (by decide +kernel) rfl)
theorem lk_RX4_195 : gLk RX4 195 mX4_bitsOfShare 1 := ⟨(wsG_of 457 (by decide +kernel) rfl), gii_RX4, gcd_X4_bitsOfShare, by decide, by decide, by decide +kernel⟩
theorem gs_X4_bitsOfShare : Cond.static mX4_bitsOfShare.1 ∈ wsG := (wsG_of 458 (by decide +kernel) rfl)
theorem lk_RX4_208 : gLk RX4 208 mX4_dropOldest 0 := ⟨(wsG_of 243 (by decide +kernel) rfl), gii_RX4, gcd_X4_dropOldest, by decide, by decide, by decide +kernel⟩
theorem gi_X4_dropOldest : Cond.instanceMethod mX4_dropOldest.1 ∈ wsG := (wsG_of 245 (by decide +kernel) rfl)
theorem gv_X4_dropOldest : Cond.selects RX4 mX4_dropOldest.1 mX4_dropOldest.1 ∈ wsG := (wsG_sel 2 (by decide +kernel) rfl)
theorem lk_RX4_211 : gLk RX4 211 mX2_restart 0 := ⟨(wsG_of 572 (by decide +kernel) rfl), gii_RX2, gcd_X2_restart, by decide, by decide, by decide +kernel⟩
theorem lk_RX4_214 : gLk RX4 214 mX2_takes 1 := ⟨(wsG_of 576 (by decide +kernel) rfl), gii_RX2, gcd_X2_takes, by decide, by decide, by decide +kernel⟩
theorem gi_X2_takes : Cond.instanceMethod mX2_takes.1 ∈ wsG := (wsG_of 577 (by decide +kernel) rfl)
theorem gv_X2_takes : Cond.selects RX2 mX2_takes.1 mX2_takes.1 ∈ wsG := (wsG_of 578 (by decide +kernel) rfl)
theorem lk_RX4_218 : gLk RX4 218 mX4_runPart 0 := ⟨(wsG_of 657 (by decide +kernel) rfl), gii_RX4, gcd_X4_runPart, by decide, by decide, by decide +kernel⟩
theorem gi_X4_runPart : Cond.instanceMethod mX4_runPart.1 ∈ wsG := (wsG_of 659 (by decide +kernel) rfl)
theorem gv_X4_runPart : Cond.selects RX4 mX4_runPart.1 mX4_runPart.1 ∈ wsG := (wsG_sel 7 (by decide +kernel) rfl)
theorem lk_RX4_237 : gLk RX4 237 mX3_siblingsInAll 0 := ⟨(wsG_of 328 (by decide +kernel) rfl), gii_RX3, gcd_X3_siblingsInAll, by decide, by decide, by decide +kernel⟩
theorem gi_X3_siblingsInAll : Cond.instanceMethod mX3_siblingsInAll.1 ∈ wsG := (wsG_of 329 (by decide +kernel) rfl)
theorem gv_X3_siblingsInAll : Cond.selects RX3 mX3_siblingsInAll.1 mX3_siblingsInAll.1 ∈ wsG := (wsG_of 330 (by decide +kernel) rfl)
theorem lk_RX4_240 : gLk RX4 240 mX3_mostSiblings 0 := ⟨(wsG_of 332 (by decide +kernel) rfl), gii_RX3, gcd_X3_mostSiblings, by decide, by decide, by decide +kernel⟩
theorem gi_X3_mostSiblings : Cond.instanceMethod mX3_mostSiblings.1 ∈ wsG := (wsG_of 333 (by decide +kernel) rfl)
theorem gv_X3_mostSiblings : Cond.selects RX3 mX3_mostSiblings.1 mX3_mostSiblings.1 ∈ wsG := (wsG_of 334 (by decide +kernel) rfl)
theorem lk_RX4_249 : gLk RX4 249 mX1_agreeingPairs 0 := ⟨(wsG_of 455 (by decide +kernel) rfl), gii_RX1, gcd_X1_agreeingPairs, by decide, by decide, by decide +kernel⟩
theorem lk_RX4_256 : gLk RX4 256 mX4_mixStore 3 := ⟨(wsG_of 399 (by decide +kernel) rfl), gii_RX4, gcd_X4_mixStore, by decide, by decide, by decide +kernel⟩
theorem gs_X4_mixStore : Cond.static mX4_mixStore.1 ∈ wsG := (wsG_of 400 (by decide +kernel) rfl)
theorem lk_RX4_260 : gLk RX4 260 mX4_mixRow 2 := ⟨(wsG_of 417 (by decide +kernel) rfl), gii_RX4, gcd_X4_mixRow, by decide, by decide, by decide +kernel⟩
theorem gs_X4_mixRow : Cond.static mX4_mixRow.1 ∈ wsG := (wsG_of 418 (by decide +kernel) rfl)
theorem sp_RX4_270 : Cond.methodLink RX4 270 Lib.Math.max.name ∈ wsG := (wsG_of 270 (by decide +kernel) rfl)
theorem gi_X4_read : Cond.instanceMethod mX4_read.1 ∈ wsG := (wsG_of 162 (by decide +kernel) rfl)
theorem gv_X4_read : Cond.selects RX4 mX4_read.1 mX4_read.1 ∈ wsG := (wsG_of 163 (by decide +kernel) rfl)
theorem gi_X4_write : Cond.instanceMethod mX4_write.1 ∈ wsG := (wsG_of 481 (by decide +kernel) rfl)
theorem gv_X4_write : Cond.selects RX4 mX4_write.1 mX4_write.1 ∈ wsG := (wsG_of 482 (by decide +kernel) rfl)
theorem gi_X4_pull : Cond.instanceMethod mX4_pull.1 ∈ wsG := (wsG_of 512 (by decide +kernel) rfl)
theorem gv_X4_pull : Cond.selects RX4 mX4_pull.1 mX4_pull.1 ∈ wsG := (wsG_of 513 (by decide +kernel) rfl)
theorem gi_X4_join : Cond.instanceMethod mX4_join.1 ∈ wsG := (wsG_of 537 (by decide +kernel) rfl)
theorem gv_X4_join : Cond.selects RX4 mX4_join.1 mX4_join.1 ∈ wsG := (wsG_of 538 (by decide +kernel) rfl)
theorem gi_X4_lose : Cond.instanceMethod mX4_lose.1 ∈ wsG := (wsG_of 274 (by decide +kernel) rfl)
theorem gv_X4_lose : Cond.selects RX4 mX4_lose.1 mX4_lose.1 ∈ wsG := (wsG_of 275 (by decide +kernel) rfl)
theorem gi_X4_forget : Cond.instanceMethod mX4_forget.1 ∈ wsG := (wsG_of 550 (by decide +kernel) rfl)
theorem gv_X4_forget : Cond.selects RX4 mX4_forget.1 mX4_forget.1 ∈ wsG := (wsG_of 551 (by decide +kernel) rfl)
theorem gi_X4_append : Cond.instanceMethod mX4_append.1 ∈ wsG := (wsG_of 559 (by decide +kernel) rfl)
theorem gv_X4_append : Cond.selects RX4 mX4_append.1 mX4_append.1 ∈ wsG := (wsG_of 560 (by decide +kernel) rfl)
theorem gi_X4_runAll : Cond.instanceMethod mX4_runAll.1 ∈ wsG := (wsG_of 565 (by decide +kernel) rfl)
theorem gv_X4_runAll : Cond.selects RX4 mX4_runAll.1 mX4_runAll.1 ∈ wsG := (wsG_of 566 (by decide +kernel) rfl)
theorem gi_X4_undo : Cond.instanceMethod mX4_undo.1 ∈ wsG := (wsG_of 282 (by decide +kernel) rfl)
theorem gv_X4_undo : Cond.selects RX4 mX4_undo.1 mX4_undo.1 ∈ wsG := (wsG_of 283 (by decide +kernel) rfl)
theorem gi_X4_sibling : Cond.instanceMethod mX4_sibling.1 ∈ wsG := (wsG_of 662 (by decide +kernel) rfl)
theorem gv_X4_sibling : Cond.selects RX4 mX4_sibling.1 mX4_sibling.1 ∈ wsG := (wsG_of 663 (by decide +kernel) rfl)
theorem gi_X4_vector : Cond.instanceMethod mX4_vector.1 ∈ wsG := (wsG_of 666 (by decide +kernel) rfl)
theorem gv_X4_vector : Cond.selects RX4 mX4_vector.1 mX4_vector.1 ∈ wsG := (wsG_of 667 (by decide +kernel) rfl)
theorem gi_X4_knows : Cond.instanceMethod mX4_knows.1 ∈ wsG := (wsG_of 670 (by decide +kernel) rfl)
theorem gv_X4_knows : Cond.selects RX4 mX4_knows.1 mX4_knows.1 ∈ wsG := (wsG_of 671 (by decide +kernel) rfl)
theorem gi_X4_key : Cond.instanceMethod mX4_key.1 ∈ wsG := (wsG_of 674 (by decide +kernel) rfl)
theorem gv_X4_key : Cond.selects RX4 mX4_key.1 mX4_key.1 ∈ wsG := (wsG_of 675 (by decide +kernel) rfl)
theorem gi_X4_count : Cond.instanceMethod mX4_count.1 ∈ wsG := (wsG_of 302 (by decide +kernel) rfl)
theorem gv_X4_count : Cond.selects RX4 mX4_count.1 mX4_count.1 ∈ wsG := (wsG_of 303 (by decide +kernel) rfl)
theorem gi_X4_ifWritten : Cond.instanceMethod mX4_ifWritten.1 ∈ wsG := (wsG_of 678 (by decide +kernel) rfl)
theorem gv_X4_ifWritten : Cond.selects RX4 mX4_ifWritten.1 mX4_ifWritten.1 ∈ wsG := (wsG_of 679 (by decide +kernel) rfl)
theorem gi_X4_ifPulled : Cond.instanceMethod mX4_ifPulled.1 ∈ wsG := (wsG_of 682 (by decide +kernel) rfl)
theorem gv_X4_ifPulled : Cond.selects RX4 mX4_ifPulled.1 mX4_ifPulled.1 ∈ wsG := (wsG_of 683 (by decide +kernel) rfl)
theorem gi_X4_whyNot : Cond.instanceMethod mX4_whyNot.1 ∈ wsG := (wsG_of 686 (by decide +kernel) rfl)
theorem gv_X4_whyNot : Cond.selects RX4 mX4_whyNot.1 mX4_whyNot.1 ∈ wsG := (wsG_of 687 (by decide +kernel) rfl)
theorem gi_X4_pullAll : Cond.instanceMethod mX4_pullAll.1 ∈ wsG := (wsG_of 690 (by decide +kernel) rfl)
theorem gv_X4_pullAll : Cond.selects RX4 mX4_pullAll.1 mX4_pullAll.1 ∈ wsG := (wsG_of 691 (by decide +kernel) rfl)
theorem gi_X4_init : Cond.instanceMethod mX4_init.1 ∈ wsG := (wsG_of 21 (by decide +kernel) rfl)
theorem gi_X4_agreement : Cond.instanceMethod mX4_agreement.1 ∈ wsG := (wsG_of 717 (by decide +kernel) rfl)
theorem gv_X4_agreement : Cond.selects RX4 mX4_agreement.1 mX4_agreement.1 ∈ wsG := (wsG_of 718 (by decide +kernel) rfl)
theorem gi_X4_firstError : Cond.instanceMethod mX4_firstError.1 ∈ wsG := (wsG_of 735 (by decide +kernel) rfl)
theorem gv_X4_firstError : Cond.selects RX4 mX4_firstError.1 mX4_firstError.1 ∈ wsG := (wsG_of 736 (by decide +kernel) rfl)
theorem gi_X4_clearBuffer : Cond.instanceMethod mX4_clearBuffer.1 ∈ wsG := (wsG_of 764 (by decide +kernel) rfl)
theorem gv_X4_clearBuffer : Cond.selects RX4 mX4_clearBuffer.1 mX4_clearBuffer.1 ∈ wsG := (wsG_of 765 (by decide +kernel) rfl)
theorem gi_X4_digest : Cond.instanceMethod mX4_digest.1 ∈ wsG := (wsG_of 338 (by decide +kernel) rfl)
theorem gv_X4_digest : Cond.selects RX4 mX4_digest.1 mX4_digest.1 ∈ wsG := (wsG_of 339 (by decide +kernel) rfl)
theorem cl_RX1_9 : Cond.classLink RX1 9 "SiblingJoins$Copy" ∈ wsG := (wsG_of 39 (by decide +kernel) rfl)
theorem cl_RX1_17 : Cond.classLink RX1 17 "[[I" ∈ wsG := (wsG_of 41 (by decide +kernel) rfl)
theorem cl_RX3_9 : Cond.classLink RX3 9 "SiblingJoins$KeyState" ∈ wsG := (wsG_of 32 (by decide +kernel) rfl)
theorem cl_RX4_7 : Cond.classLink RX4 7 "SiblingJoins$State" ∈ wsG := (wsG_of 26 (by decide +kernel) rfl)
theorem ld_RX4_185 : Cond.constantLong RX4 185 (2719 : Int64) ∈ wsG := (wsG_of 341 (by decide +kernel) rfl)
theorem ld_RX4_252 : Cond.constantDouble RX4 252 (4621256167635550208 : UInt64) ∈ wsG := (wsG_of 456 (by decide +kernel) rfl)
theorem ld_RX4_254 : Cond.constantLong RX4 254 (31 : Int64) ∈ wsG := (wsG_of 345 (by decide +kernel) rfl)
theorem ld_RX4_264 : Cond.constantLong RX4 264 (1023 : Int64) ∈ wsG := (wsG_of 460 (by decide +kernel) rfl)
theorem ld_RX4_266 : Cond.constantDouble RX4 266 (4611686018427387904 : UInt64) ∈ wsG := (wsG_of 461 (by decide +kernel) rfl)
theorem ld_RX4_268 : Cond.constantLong RX4 268 (4503599627370496 : Int64) ∈ wsG := (wsG_of 462 (by decide +kernel) rfl)
/-- the words of a throw: 'new X(text)' -/
def gNm : List String := ["java/lang/RuntimeException", "java/lang/Exception"]
def gTh (ik ic : Nat) (X : String) : Prop := Bundle.fit X = true ∧ Cond.classLink RX4 ik X ∈ wsG ∧ Cond.initialized X ∈ wsG ∧ (∀ w ∈ (vx_atS RX4 ic X gNm).filter goodWord, w ∈ wsG) ∧ (∀ w ∈ (vx_atS RX4 ic X gNm).filter (fun w => !goodWord w), w ∈ gNest) ∧ (∀ w ∈ Cond.classLink RX4 ik X :: Cond.initialized X :: vx_atS RX4 ic X gNm, vx_ot w = true)
theorem gth_o_t : ∀ w ∈ (vx_atS RX4 203 "java/lang/IndexOutOfBoundsException" gNm).filter goodWord, w ∈ lw_tbl := by decide +kernel
theorem gth_o : gTh 199 203 "java/lang/IndexOutOfBoundsException" := ⟨by decide +kernel, (wsG_of 171 (by decide +kernel) rfl), (wsG_of 9 (by decide +kernel) rfl), fun w h => List.mem_filter.mpr ⟨gth_o_t w h, (List.mem_filter.mp h).2⟩, by decide +kernel, by decide +kernel⟩
theorem gth_s_t : ∀ w ∈ (vx_atS RX4 72 "java/lang/IllegalStateException" gNm).filter goodWord, w ∈ lw_tbl := by decide +kernel
theorem gth_s : gTh 68 72 "java/lang/IllegalStateException" := ⟨by decide +kernel, (wsG_of 285 (by decide +kernel) rfl), (wsG_of 13 (by decide +kernel) rfl), fun w h => List.mem_filter.mpr ⟨gth_s_t w h, (List.mem_filter.mp h).2⟩, by decide +kernel, by decide +kernel⟩
theorem gth_a_t : ∀ w ∈ (vx_atS RX4 136 "java/lang/IllegalArgumentException" gNm).filter goodWord, w ∈ lw_tbl := by decide +kernel
theorem gth_a : gTh 132 136 "java/lang/IllegalArgumentException" := ⟨by decide +kernel, (wsG_of 308 (by decide +kernel) rfl), (wsG_of 12 (by decide +kernel) rfl), fun w h => List.mem_filter.mpr ⟨gth_a_t w h, (List.mem_filter.mp h).2⟩, by decide +kernel, by decide +kernel⟩
theorem gNest_use {E : gEnv} {F : gFr} {t : gMt} (C : gC E F t) : ∀ w ∈ gNest, w.before F.2.2.2.2.1 F.2.2.1 = true := by
  intro w hw
  have h1 := C.2.2.2.2.2.1.2.1 w hw
  simp only [gNest, List.mem_cons, List.not_mem_nil, or_false] at hw
  rcases hw with rfl | rfl | rfl | rfl | rfl | rfl | rfl | rfl | rfl | rfl | rfl | rfl | rfl | rfl | rfl | rfl <;> exact va_Nw.use rfl h1
theorem g_throw {E : gEnv} {F : gFr} {t : gMt} {n : Nat} {σ : Option Nat} {h : gH} {kc ks pc : Nat} {L : List (Nat × Value)} {st : List Value} {is ik ic i : Nat} {X text : String} {QR : gQt} {QX : String → gH → Prop} (C : gC E F t) (hl : E.1.stackTraces = false) (ho : t.1.cls = RX4) (th : gTh ik ic X) (hs : gStr[i]? = some (RX4, is, text))
    (d0 : decode (gCode t) pc = .ok (.new ik, 3)) (d3 : decode (gCode t) (pc + 3) = .ok (.dup, 1)) (d4 : decode (gCode t) (pc + 4) = .ok (.ldc is, 2)) (d6 : decode (gCode t) (pc + 6) = .ok (.invokespecial ic, 3)) (d9 : decode (gCode t) (pc + 9) = .ok (.athrow, 1))
    (hfr : 5 < gFrs t) (hlo : (st.map fun v => v.category).sum + 82 ≤ gLo t) (hk1 : kc + 1 ≤ gMc t) (hk2 : ks + 6 ≤ gMs t) (hx : QX X h) : G E F t (gQ E F t n QR QX) n σ h kc ks pc L st := by
  intro H locs ls a1 a3 a4 a5
  obtain ⟨t1, t2, t3, t4, t5, t6⟩ := th
  refine vx_throwS (A := gA E) C.1 C.2.1 hl (own := RX4) (cls := X) (text := text) (names := gNm) (ho ▸ C.2.2.2.1) t1 (by decide +kernel) (C.2.2.2.2.1 _ t2) (C.2.2.2.2.1 _ t3) (C.2.2.2.2.2.1.2.2.1 i _ hs) (vx_hat (fun w hw => C.2.2.2.2.1 _ (t4 w hw)) t5 (gNest_use C)) t6 C.2.2.2.2.2.1.2.2.2.1 C.2.2.2.2.2.1.2.2.2.2.1 a4 (a5.1.trans C.2.2.1.symm) d0 d3 d4 d6 d9 (fun x hx9 => (C.2.2.2.2.2.2.2.2.2.1 x hx9).elim) hfr hlo ?_ ?_ C.2.2.2.2.2.2.1 (fun t9 _ hz hk => ⟨⟨h, hx, ?_⟩, hz9 a4 hz hk⟩) a4.2.2 hk1 hk2
  · exact hk1
  · exact hk2
  · exact va_P.kept a3 (fun k q hq => hk _ ((a3 k q hq).lt))
  where hz9 {A : Nat → Prop} {s t9 : State} {H : Heap} {locs : List Loc} (a4 : va_S A s.heap H locs) (hz : H.size ≤ t9.heap.size) (hk : ∀ q : Nat, q < H.size → t9.heap[q]? = H[q]?) : va_F A s t9 := ⟨Nat.le_trans a4.1 hz, fun q h1 h2 => (hk q (Nat.lt_of_lt_of_le h1 a4.1)).trans (a4.2.1 q h1 h2)⟩
