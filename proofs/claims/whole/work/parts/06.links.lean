/-! the links of the code: fields, classes, calls; the throws -/
theorem fp_RX0_9 : gFp RX0 9 0 0 (.array .int) true := ⟨RX0, TX0, 4, rfl, by decide, gly_RX0, (wsG_of 50 (by decide +kernel) rfl), ⟨tyX0, tyX0_ok⟩, nmX0, rfl, (fun _ => rfl), by decide +kernel⟩
theorem fp_RX0_15 : gFp RX0 15 0 1 (.array .int) true := ⟨RX0, TX0, 4, rfl, by decide, gly_RX0, (wsG_of 53 (by decide +kernel) rfl), ⟨tyX0, tyX0_ok⟩, nmX0, rfl, (fun _ => rfl), by decide +kernel⟩
theorem fp_RX0_18 : gFp RX0 18 0 2 (.array .int) true := ⟨RX0, TX0, 4, rfl, by decide, gly_RX0, (wsG_of 55 (by decide +kernel) rfl), ⟨tyX0, tyX0_ok⟩, nmX0, rfl, (fun _ => rfl), by decide +kernel⟩
theorem fl_RX0_9 : gFl RX0 9 0 0 := ⟨RX0, TX0, 4, rfl, by decide, gly_RX0, (wsG_of 50 (by decide +kernel) rfl)⟩
theorem fl_RX0_15 : gFl RX0 15 0 1 := ⟨RX0, TX0, 4, rfl, by decide, gly_RX0, (wsG_of 53 (by decide +kernel) rfl)⟩
theorem fl_RX0_18 : gFl RX0 18 0 2 := ⟨RX0, TX0, 4, rfl, by decide, gly_RX0, (wsG_of 55 (by decide +kernel) rfl)⟩
theorem fl_RX0_27 : gFl RX0 27 0 3 := ⟨RX0, TX0, 4, rfl, by decide, gly_RX0, (wsG_of 58 (by decide +kernel) rfl)⟩
theorem fp_RX0_27 : gFp RX0 27 0 3 .int false := ⟨RX0, TX0, 4, rfl, by decide, gly_RX0, (wsG_of 58 (by decide +kernel) rfl), ⟨tyX0, tyX0_ok⟩, nmX0, rfl, (fun h => by cases h), by decide +kernel⟩
theorem fp_RX1_11 : gFp RX1 11 1 0 (.array (.object "SiblingJoins$Copy")) true := ⟨RX1, TX1, 3, rfl, by decide, gly_RX1, (wsG_of 71 (by decide +kernel) rfl), ⟨tyX1, tyX1_ok⟩, nmX1, rfl, (fun _ => rfl), by decide +kernel⟩
theorem fp_RX1_19 : gFp RX1 19 1 1 (.array (.array .int)) true := ⟨RX1, TX1, 3, rfl, by decide, gly_RX1, (wsG_of 74 (by decide +kernel) rfl), ⟨tyX1, tyX1_ok⟩, nmX1, rfl, (fun _ => rfl), by decide +kernel⟩
theorem fp_RX1_22 : gFp RX1 22 1 2 (.array .int) true := ⟨RX1, TX1, 3, rfl, by decide, gly_RX1, (wsG_of 76 (by decide +kernel) rfl), ⟨tyX1, tyX1_ok⟩, nmX1, rfl, (fun _ => rfl), by decide +kernel⟩
theorem fl_RX1_11 : gFl RX1 11 1 0 := ⟨RX1, TX1, 3, rfl, by decide, gly_RX1, (wsG_of 71 (by decide +kernel) rfl)⟩
theorem fl_RX1_19 : gFl RX1 19 1 1 := ⟨RX1, TX1, 3, rfl, by decide, gly_RX1, (wsG_of 74 (by decide +kernel) rfl)⟩
theorem fl_RX1_22 : gFl RX1 22 1 2 := ⟨RX1, TX1, 3, rfl, by decide, gly_RX1, (wsG_of 76 (by decide +kernel) rfl)⟩
theorem fl_RX1_37 : gFl RX1 37 0 0 := ⟨RX0, TX0, 4, rfl, by decide, gly_RX0, (wsG_of 51 (by decide +kernel) rfl)⟩
theorem fl_RX1_55 : gFl RX1 55 0 3 := ⟨RX0, TX0, 4, rfl, by decide, gly_RX0, (wsG_of 60 (by decide +kernel) rfl)⟩
theorem fl_RX1_78 : gFl RX1 78 0 1 := ⟨RX0, TX0, 4, rfl, by decide, gly_RX0, (wsG_of 54 (by decide +kernel) rfl)⟩
theorem fl_RX1_88 : gFl RX1 88 0 2 := ⟨RX0, TX0, 4, rfl, by decide, gly_RX0, (wsG_of 56 (by decide +kernel) rfl)⟩
theorem fp_RX2_7 : gFp RX2 7 2 0 .int false := ⟨RX2, TX2, 6, rfl, by decide, gly_RX2, (wsG_of 117 (by decide +kernel) rfl), ⟨tyX2, tyX2_ok⟩, nmX2, rfl, (fun h => by cases h), by decide +kernel⟩
theorem fl_RX2_7 : gFl RX2 7 2 0 := ⟨RX2, TX2, 6, rfl, by decide, gly_RX2, (wsG_of 117 (by decide +kernel) rfl)⟩
theorem fl_RX2_42 : gFl RX2 42 2 1 := ⟨RX2, TX2, 6, rfl, by decide, gly_RX2, (wsG_of 118 (by decide +kernel) rfl)⟩
theorem fp_RX2_42 : gFp RX2 42 2 1 .boolean false := ⟨RX2, TX2, 6, rfl, by decide, gly_RX2, (wsG_of 118 (by decide +kernel) rfl), ⟨tyX2, tyX2_ok⟩, nmX2, rfl, (fun h => by cases h), by decide +kernel⟩
theorem fp_RX2_50 : gFp RX2 50 2 2 .int false := ⟨RX2, TX2, 6, rfl, by decide, gly_RX2, (wsG_of 120 (by decide +kernel) rfl), ⟨tyX2, tyX2_ok⟩, nmX2, rfl, (fun h => by cases h), by decide +kernel⟩
theorem fp_RX2_53 : gFp RX2 53 2 3 .int false := ⟨RX2, TX2, 6, rfl, by decide, gly_RX2, (wsG_of 122 (by decide +kernel) rfl), ⟨tyX2, tyX2_ok⟩, nmX2, rfl, (fun h => by cases h), by decide +kernel⟩
theorem fp_RX2_56 : gFp RX2 56 2 4 .int false := ⟨RX2, TX2, 6, rfl, by decide, gly_RX2, (wsG_of 124 (by decide +kernel) rfl), ⟨tyX2, tyX2_ok⟩, nmX2, rfl, (fun h => by cases h), by decide +kernel⟩
theorem fp_RX2_59 : gFp RX2 59 2 5 .int false := ⟨RX2, TX2, 6, rfl, by decide, gly_RX2, (wsG_of 126 (by decide +kernel) rfl), ⟨tyX2, tyX2_ok⟩, nmX2, rfl, (fun h => by cases h), by decide +kernel⟩
theorem fl_RX2_59 : gFl RX2 59 2 5 := ⟨RX2, TX2, 6, rfl, by decide, gly_RX2, (wsG_of 126 (by decide +kernel) rfl)⟩
theorem fp_RX3_11 : gFp RX3 11 3 0 (.array (.object "SiblingJoins$KeyState")) true := ⟨RX3, TX3, 6, rfl, by decide, gly_RX3, (wsG_of 85 (by decide +kernel) rfl), ⟨tyX3, tyX3_ok⟩, nmX3, rfl, (fun _ => rfl), by decide +kernel⟩
theorem fl_RX3_11 : gFl RX3 11 3 0 := ⟨RX3, TX3, 6, rfl, by decide, gly_RX3, (wsG_of 85 (by decide +kernel) rfl)⟩
theorem fl_RX3_22 : gFl RX3 22 3 1 := ⟨RX3, TX3, 6, rfl, by decide, gly_RX3, (wsG_of 87 (by decide +kernel) rfl)⟩
theorem fp_RX3_22 : gFp RX3 22 3 1 .int false := ⟨RX3, TX3, 6, rfl, by decide, gly_RX3, (wsG_of 87 (by decide +kernel) rfl), ⟨tyX3, tyX3_ok⟩, nmX3, rfl, (fun h => by cases h), by decide +kernel⟩
theorem fl_RX3_26 : gFl RX3 26 3 2 := ⟨RX3, TX3, 6, rfl, by decide, gly_RX3, (wsG_of 89 (by decide +kernel) rfl)⟩
theorem fp_RX3_26 : gFp RX3 26 3 2 .int false := ⟨RX3, TX3, 6, rfl, by decide, gly_RX3, (wsG_of 89 (by decide +kernel) rfl), ⟨tyX3, tyX3_ok⟩, nmX3, rfl, (fun h => by cases h), by decide +kernel⟩
theorem fl_RX3_29 : gFl RX3 29 3 3 := ⟨RX3, TX3, 6, rfl, by decide, gly_RX3, (wsG_of 91 (by decide +kernel) rfl)⟩
theorem fp_RX3_29 : gFp RX3 29 3 3 .int false := ⟨RX3, TX3, 6, rfl, by decide, gly_RX3, (wsG_of 91 (by decide +kernel) rfl), ⟨tyX3, tyX3_ok⟩, nmX3, rfl, (fun h => by cases h), by decide +kernel⟩
theorem fl_RX3_32 : gFl RX3 32 3 4 := ⟨RX3, TX3, 6, rfl, by decide, gly_RX3, (wsG_of 93 (by decide +kernel) rfl)⟩
theorem fp_RX3_32 : gFp RX3 32 3 4 .int false := ⟨RX3, TX3, 6, rfl, by decide, gly_RX3, (wsG_of 93 (by decide +kernel) rfl), ⟨tyX3, tyX3_ok⟩, nmX3, rfl, (fun h => by cases h), by decide +kernel⟩
theorem fl_RX3_35 : gFl RX3 35 3 5 := ⟨RX3, TX3, 6, rfl, by decide, gly_RX3, (wsG_of 95 (by decide +kernel) rfl)⟩
theorem fp_RX3_35 : gFp RX3 35 3 5 .int false := ⟨RX3, TX3, 6, rfl, by decide, gly_RX3, (wsG_of 95 (by decide +kernel) rfl), ⟨tyX3, tyX3_ok⟩, nmX3, rfl, (fun h => by cases h), by decide +kernel⟩
theorem fl_RX3_49 : gFl RX3 49 1 0 := ⟨RX1, TX1, 3, rfl, by decide, gly_RX1, (wsG_of 73 (by decide +kernel) rfl)⟩
theorem fl_RX3_66 : gFl RX3 66 0 3 := ⟨RX0, TX0, 4, rfl, by decide, gly_RX0, (wsG_of 59 (by decide +kernel) rfl)⟩
theorem fp_RX4_10 : gFp RX4 10 4 0 (.object "SiblingJoins$State") true := ⟨RX4, TX4, 7, rfl, by decide, gly_RX4, (wsG_of 141 (by decide +kernel) rfl), ⟨tyX4, tyX4_ok⟩, nmX4, rfl, (fun _ => rfl), by decide +kernel⟩
theorem fp_RX4_16 : gFp RX4 16 4 1 (.object "SiblingJoins$State") true := ⟨RX4, TX4, 7, rfl, by decide, gly_RX4, (wsG_of 142 (by decide +kernel) rfl), ⟨tyX4, tyX4_ok⟩, nmX4, rfl, (fun _ => rfl), by decide +kernel⟩
theorem fp_RX4_19 : gFp RX4 19 4 2 (.array (.object "SiblingJoins$State")) true := ⟨RX4, TX4, 7, rfl, by decide, gly_RX4, (wsG_of 143 (by decide +kernel) rfl), ⟨tyX4, tyX4_ok⟩, nmX4, rfl, (fun _ => rfl), by decide +kernel⟩
theorem fp_RX4_23 : gFp RX4 23 4 4 (.array .int) true := ⟨RX4, TX4, 7, rfl, by decide, gly_RX4, (wsG_of 145 (by decide +kernel) rfl), ⟨tyX4, tyX4_ok⟩, nmX4, rfl, (fun _ => rfl), by decide +kernel⟩
theorem fp_RX4_30 : gFp RX4 30 4 6 (.object "SiblingJoins$Part") true := ⟨RX4, TX4, 7, rfl, by decide, gly_RX4, (wsG_of 147 (by decide +kernel) rfl), ⟨tyX4, tyX4_ok⟩, nmX4, rfl, (fun _ => rfl), by decide +kernel⟩
theorem fl_RX4_19 : gFl RX4 19 4 2 := ⟨RX4, TX4, 7, rfl, by decide, gly_RX4, (wsG_of 143 (by decide +kernel) rfl)⟩
theorem fl_RX4_10 : gFl RX4 10 4 0 := ⟨RX4, TX4, 7, rfl, by decide, gly_RX4, (wsG_of 141 (by decide +kernel) rfl)⟩
theorem fl_RX4_41 : gFl RX4 41 3 0 := ⟨RX3, TX3, 6, rfl, by decide, gly_RX3, (wsG_of 86 (by decide +kernel) rfl)⟩
theorem fl_RX4_51 : gFl RX4 51 1 0 := ⟨RX1, TX1, 3, rfl, by decide, gly_RX1, (wsG_of 72 (by decide +kernel) rfl)⟩
theorem fl_RX4_55 : gFl RX4 55 0 3 := ⟨RX0, TX0, 4, rfl, by decide, gly_RX0, (wsG_of 57 (by decide +kernel) rfl)⟩
theorem fl_RX4_91 : gFl RX4 91 1 2 := ⟨RX1, TX1, 3, rfl, by decide, gly_RX1, (wsG_of 77 (by decide +kernel) rfl)⟩
theorem fl_RX4_100 : gFl RX4 100 3 4 := ⟨RX3, TX3, 6, rfl, by decide, gly_RX3, (wsG_of 94 (by decide +kernel) rfl)⟩
theorem fp_RX4_100 : gFp RX4 100 3 4 .int false := ⟨RX3, TX3, 6, rfl, by decide, gly_RX3, (wsG_of 94 (by decide +kernel) rfl), ⟨tyX3, tyX3_ok⟩, nmX3, rfl, (fun h => by cases h), by decide +kernel⟩
theorem fl_RX4_118 : gFl RX4 118 3 5 := ⟨RX3, TX3, 6, rfl, by decide, gly_RX3, (wsG_of 96 (by decide +kernel) rfl)⟩
theorem fp_RX4_118 : gFp RX4 118 3 5 .int false := ⟨RX3, TX3, 6, rfl, by decide, gly_RX3, (wsG_of 96 (by decide +kernel) rfl), ⟨tyX3, tyX3_ok⟩, nmX3, rfl, (fun h => by cases h), by decide +kernel⟩
theorem fl_RX4_16 : gFl RX4 16 4 1 := ⟨RX4, TX4, 7, rfl, by decide, gly_RX4, (wsG_of 142 (by decide +kernel) rfl)⟩
theorem fl_RX4_129 : gFl RX4 129 3 3 := ⟨RX3, TX3, 6, rfl, by decide, gly_RX3, (wsG_of 92 (by decide +kernel) rfl)⟩
theorem fl_RX4_137 : gFl RX4 137 4 5 := ⟨RX4, TX4, 7, rfl, by decide, gly_RX4, (wsG_of 146 (by decide +kernel) rfl)⟩
theorem fl_RX4_23 : gFl RX4 23 4 4 := ⟨RX4, TX4, 7, rfl, by decide, gly_RX4, (wsG_of 145 (by decide +kernel) rfl)⟩
theorem fp_RX4_137 : gFp RX4 137 4 5 .int false := ⟨RX4, TX4, 7, rfl, by decide, gly_RX4, (wsG_of 146 (by decide +kernel) rfl), ⟨tyX4, tyX4_ok⟩, nmX4, rfl, (fun h => by cases h), by decide +kernel⟩
theorem fl_RX4_30 : gFl RX4 30 4 6 := ⟨RX4, TX4, 7, rfl, by decide, gly_RX4, (wsG_of 147 (by decide +kernel) rfl)⟩
theorem fl_RX4_154 : gFl RX4 154 4 3 := ⟨RX4, TX4, 7, rfl, by decide, gly_RX4, (wsG_of 144 (by decide +kernel) rfl)⟩
theorem fp_RX4_154 : gFp RX4 154 4 3 .int false := ⟨RX4, TX4, 7, rfl, by decide, gly_RX4, (wsG_of 144 (by decide +kernel) rfl), ⟨tyX4, tyX4_ok⟩, nmX4, rfl, (fun h => by cases h), by decide +kernel⟩
theorem fl_RX4_162 : gFl RX4 162 0 0 := ⟨RX0, TX0, 4, rfl, by decide, gly_RX0, (wsG_of 52 (by decide +kernel) rfl)⟩
theorem fl_RX4_165 : gFl RX4 165 1 1 := ⟨RX1, TX1, 3, rfl, by decide, gly_RX1, (wsG_of 75 (by decide +kernel) rfl)⟩
theorem fl_RX4_221 : gFl RX4 221 2 3 := ⟨RX2, TX2, 6, rfl, by decide, gly_RX2, (wsG_of 123 (by decide +kernel) rfl)⟩
theorem fl_RX4_224 : gFl RX4 224 2 1 := ⟨RX2, TX2, 6, rfl, by decide, gly_RX2, (wsG_of 119 (by decide +kernel) rfl)⟩
theorem fl_RX4_228 : gFl RX4 228 2 2 := ⟨RX2, TX2, 6, rfl, by decide, gly_RX2, (wsG_of 121 (by decide +kernel) rfl)⟩
theorem fl_RX4_231 : gFl RX4 231 2 4 := ⟨RX2, TX2, 6, rfl, by decide, gly_RX2, (wsG_of 125 (by decide +kernel) rfl)⟩
theorem fl_RX4_234 : gFl RX4 234 2 5 := ⟨RX2, TX2, 6, rfl, by decide, gly_RX2, (wsG_of 127 (by decide +kernel) rfl)⟩
theorem fl_RX4_243 : gFl RX4 243 3 1 := ⟨RX3, TX3, 6, rfl, by decide, gly_RX3, (wsG_of 88 (by decide +kernel) rfl)⟩
theorem fl_RX4_246 : gFl RX4 246 3 2 := ⟨RX3, TX3, 6, rfl, by decide, gly_RX3, (wsG_of 90 (by decide +kernel) rfl)⟩
theorem fp_RX5_7 : gFp RX5 7 5 0 (.array .int) true := ⟨RX5, TX5, 16, rfl, by decide, gly_RX5, (wsG_of 759 (by decide +kernel) rfl), ⟨tyX5, tyX5_ok⟩, nmX5, rfl, (fun _ => rfl), by decide +kernel⟩
theorem fp_RX5_13 : gFp RX5 13 5 1 (.array .int) true := ⟨RX5, TX5, 16, rfl, by decide, gly_RX5, (wsG_of 760 (by decide +kernel) rfl), ⟨tyX5, tyX5_ok⟩, nmX5, rfl, (fun _ => rfl), by decide +kernel⟩
theorem fp_RX5_16 : gFp RX5 16 5 2 (.array .int) true := ⟨RX5, TX5, 16, rfl, by decide, gly_RX5, (wsG_of 761 (by decide +kernel) rfl), ⟨tyX5, tyX5_ok⟩, nmX5, rfl, (fun _ => rfl), by decide +kernel⟩
theorem fp_RX5_19 : gFp RX5 19 5 4 (.array .int) true := ⟨RX5, TX5, 16, rfl, by decide, gly_RX5, (wsG_of 763 (by decide +kernel) rfl), ⟨tyX5, tyX5_ok⟩, nmX5, rfl, (fun _ => rfl), by decide +kernel⟩
theorem fp_RX5_22 : gFp RX5 22 5 7 (.array .int) true := ⟨RX5, TX5, 16, rfl, by decide, gly_RX5, (wsG_of 766 (by decide +kernel) rfl), ⟨tyX5, tyX5_ok⟩, nmX5, rfl, (fun _ => rfl), by decide +kernel⟩
theorem fp_RX5_25 : gFp RX5 25 5 13 (.array .int) true := ⟨RX5, TX5, 16, rfl, by decide, gly_RX5, (wsG_of 772 (by decide +kernel) rfl), ⟨tyX5, tyX5_ok⟩, nmX5, rfl, (fun _ => rfl), by decide +kernel⟩
theorem fp_RX5_28 : gFp RX5 28 5 3 .int false := ⟨RX5, TX5, 16, rfl, by decide, gly_RX5, (wsG_of 762 (by decide +kernel) rfl), ⟨tyX5, tyX5_ok⟩, nmX5, rfl, (fun h => by cases h), by decide +kernel⟩
theorem fl_RX5_32 : gFl RX5 32 5 6 := ⟨RX5, TX5, 16, rfl, by decide, gly_RX5, (wsG_of 765 (by decide +kernel) rfl)⟩
theorem fp_RX5_32 : gFp RX5 32 5 6 .int false := ⟨RX5, TX5, 16, rfl, by decide, gly_RX5, (wsG_of 765 (by decide +kernel) rfl), ⟨tyX5, tyX5_ok⟩, nmX5, rfl, (fun h => by cases h), by decide +kernel⟩
theorem fl_RX5_28 : gFl RX5 28 5 3 := ⟨RX5, TX5, 16, rfl, by decide, gly_RX5, (wsG_of 762 (by decide +kernel) rfl)⟩
theorem fl_RX5_16 : gFl RX5 16 5 2 := ⟨RX5, TX5, 16, rfl, by decide, gly_RX5, (wsG_of 761 (by decide +kernel) rfl)⟩
theorem fl_RX5_7 : gFl RX5 7 5 0 := ⟨RX5, TX5, 16, rfl, by decide, gly_RX5, (wsG_of 759 (by decide +kernel) rfl)⟩
theorem fl_RX5_112 : gFl RX5 112 5 8 := ⟨RX5, TX5, 16, rfl, by decide, gly_RX5, (wsG_of 767 (by decide +kernel) rfl)⟩
theorem fl_RX5_22 : gFl RX5 22 5 7 := ⟨RX5, TX5, 16, rfl, by decide, gly_RX5, (wsG_of 766 (by decide +kernel) rfl)⟩
theorem fp_RX5_112 : gFp RX5 112 5 8 .int false := ⟨RX5, TX5, 16, rfl, by decide, gly_RX5, (wsG_of 767 (by decide +kernel) rfl), ⟨tyX5, tyX5_ok⟩, nmX5, rfl, (fun h => by cases h), by decide +kernel⟩
theorem fp_RX5_115 : gFp RX5 115 5 9 .int false := ⟨RX5, TX5, 16, rfl, by decide, gly_RX5, (wsG_of 768 (by decide +kernel) rfl), ⟨tyX5, tyX5_ok⟩, nmX5, rfl, (fun h => by cases h), by decide +kernel⟩
theorem fp_RX5_118 : gFp RX5 118 5 10 .int false := ⟨RX5, TX5, 16, rfl, by decide, gly_RX5, (wsG_of 769 (by decide +kernel) rfl), ⟨tyX5, tyX5_ok⟩, nmX5, rfl, (fun h => by cases h), by decide +kernel⟩
theorem fl_RX5_115 : gFl RX5 115 5 9 := ⟨RX5, TX5, 16, rfl, by decide, gly_RX5, (wsG_of 768 (by decide +kernel) rfl)⟩
theorem fl_RX5_118 : gFl RX5 118 5 10 := ⟨RX5, TX5, 16, rfl, by decide, gly_RX5, (wsG_of 769 (by decide +kernel) rfl)⟩
theorem fl_RX5_13 : gFl RX5 13 5 1 := ⟨RX5, TX5, 16, rfl, by decide, gly_RX5, (wsG_of 760 (by decide +kernel) rfl)⟩
theorem fl_RX5_135 : gFl RX5 135 5 5 := ⟨RX5, TX5, 16, rfl, by decide, gly_RX5, (wsG_of 764 (by decide +kernel) rfl)⟩
theorem fl_RX5_19 : gFl RX5 19 5 4 := ⟨RX5, TX5, 16, rfl, by decide, gly_RX5, (wsG_of 763 (by decide +kernel) rfl)⟩
theorem fp_RX5_135 : gFp RX5 135 5 5 .int false := ⟨RX5, TX5, 16, rfl, by decide, gly_RX5, (wsG_of 764 (by decide +kernel) rfl), ⟨tyX5, tyX5_ok⟩, nmX5, rfl, (fun h => by cases h), by decide +kernel⟩
theorem fl_RX5_138 : gFl RX5 138 5 11 := ⟨RX5, TX5, 16, rfl, by decide, gly_RX5, (wsG_of 770 (by decide +kernel) rfl)⟩
theorem fp_RX5_141 : gFp RX5 141 5 12 .boolean false := ⟨RX5, TX5, 16, rfl, by decide, gly_RX5, (wsG_of 771 (by decide +kernel) rfl), ⟨tyX5, tyX5_ok⟩, nmX5, rfl, (fun h => by cases h), by decide +kernel⟩
theorem fp_RX5_138 : gFp RX5 138 5 11 .int false := ⟨RX5, TX5, 16, rfl, by decide, gly_RX5, (wsG_of 770 (by decide +kernel) rfl), ⟨tyX5, tyX5_ok⟩, nmX5, rfl, (fun h => by cases h), by decide +kernel⟩
theorem fl_RX5_25 : gFl RX5 25 5 13 := ⟨RX5, TX5, 16, rfl, by decide, gly_RX5, (wsG_of 772 (by decide +kernel) rfl)⟩
theorem fl_RX5_152 : gFl RX5 152 5 14 := ⟨RX5, TX5, 16, rfl, by decide, gly_RX5, (wsG_of 773 (by decide +kernel) rfl)⟩
theorem fp_RX5_152 : gFp RX5 152 5 14 .int false := ⟨RX5, TX5, 16, rfl, by decide, gly_RX5, (wsG_of 773 (by decide +kernel) rfl), ⟨tyX5, tyX5_ok⟩, nmX5, rfl, (fun h => by cases h), by decide +kernel⟩
theorem fl_RX5_141 : gFl RX5 141 5 12 := ⟨RX5, TX5, 16, rfl, by decide, gly_RX5, (wsG_of 771 (by decide +kernel) rfl)⟩
theorem fl_RX5_217 : gFl RX5 217 5 15 := ⟨RX5, TX5, 16, rfl, by decide, gly_RX5, (wsG_of 774 (by decide +kernel) rfl)⟩
theorem fp_RX5_217 : gFp RX5 217 5 15 .long false := ⟨RX5, TX5, 16, rfl, by decide, gly_RX5, (wsG_of 774 (by decide +kernel) rfl), ⟨tyX5, tyX5_ok⟩, nmX5, rfl, (fun h => by cases h), by decide +kernel⟩
theorem nw_RX1_9 : gNw RX1 9 0 4 [.null, .null, .null, .int 0] := ⟨RX0, TX0, tyX0, rfl, gly_RX0, tyX0_ok, (wsG_of 41 (by decide +kernel) rfl), gin_RX0, gii_RX0, fun j hj => by rcases (show j = 0 ∨ j = 1 ∨ j = 2 ∨ j = 3 by omega) with rfl | rfl | rfl | rfl <;> rfl⟩
theorem nw_RX3_9 : gNw RX3 9 1 3 [.null, .null, .null] := ⟨RX1, TX1, tyX1, rfl, gly_RX1, tyX1_ok, (wsG_of 34 (by decide +kernel) rfl), gin_RX1, gii_RX1, fun j hj => by rcases (show j = 0 ∨ j = 1 ∨ j = 2 by omega) with rfl | rfl | rfl <;> rfl⟩
theorem nw_RX4_7 : gNw RX4 7 3 6 [.null, .int 0, .int 0, .int 0, .int 0, .int 0] := ⟨RX3, TX3, tyX3, rfl, gly_RX3, tyX3_ok, (wsG_of 28 (by decide +kernel) rfl), gin_RX3, gii_RX3, fun j hj => by rcases (show j = 0 ∨ j = 1 ∨ j = 2 ∨ j = 3 ∨ j = 4 ∨ j = 5 by omega) with rfl | rfl | rfl | rfl | rfl | rfl <;> rfl⟩
theorem nw_RX4_27 : gNw RX4 27 2 6 [.int 0, .int 0, .int 0, .int 0, .int 0, .int 0] := ⟨RX2, TX2, tyX2, rfl, gly_RX2, tyX2_ok, (wsG_of 111 (by decide +kernel) rfl), gin_RX2, gii_RX2, fun j hj => by rcases (show j = 0 ∨ j = 1 ∨ j = 2 ∨ j = 3 ∨ j = 4 ∨ j = 5 by omega) with rfl | rfl | rfl | rfl | rfl | rfl <;> rfl⟩
theorem nw_RL_8 : gNw RL 8 4 7 [.null, .null, .null, .int 0, .null, .int 0, .null] := ⟨RX4, TX4, tyX4, rfl, gly_RX4, tyX4_ok, (wsG_of 20 (by decide +kernel) rfl), gin_RX4, gii_RX4, fun j hj => by rcases (show j = 0 ∨ j = 1 ∨ j = 2 ∨ j = 3 ∨ j = 4 ∨ j = 5 ∨ j = 6 by omega) with rfl | rfl | rfl | rfl | rfl | rfl | rfl <;> rfl⟩
theorem nw_RL_75 : gNw RL 75 5 16 [.null, .null, .null, .int 0, .null, .int 0, .int 0, .null, .int 0, .int 0, .int 0, .int 0, .int 0, .null, .int 0, .long 0] := ⟨RX5, TX5, tyX5, rfl, gly_RX5, tyX5_ok, (wsG_of 753 (by decide +kernel) rfl), gin_RX5, gii_RX5, fun j hj => by rcases (show j = 0 ∨ j = 1 ∨ j = 2 ∨ j = 3 ∨ j = 4 ∨ j = 5 ∨ j = 6 ∨ j = 7 ∨ j = 8 ∨ j = 9 ∨ j = 10 ∨ j = 11 ∨ j = 12 ∨ j = 13 ∨ j = 14 ∨ j = 15 by omega) with rfl | rfl | rfl | rfl | rfl | rfl | rfl | rfl | rfl | rfl | rfl | rfl | rfl | rfl | rfl | rfl <;> rfl⟩
theorem sp_RX0_3 : Cond.methodLink RX0 3 objectInit ∈ wsG := (wsG_of 49 (by decide +kernel) rfl)
theorem sp_RX0_21 : Cond.methodLink RX0 21 arraycopyName ∈ wsG := (wsG_of 501 (by decide +kernel) rfl)
theorem ln_RX0_31 : gLn RX0 31 mX4_writerOf 1 := ⟨⟨"SiblingJoins", by simp [gNest, mX4_writerOf]⟩, gii_RX4, gcd_X4_writerOf, by decide, by decide, by decide +kernel⟩
theorem gs_X4_writerOf : Cond.static mX4_writerOf.1 ∈ wsG := (wsG_of 340 (by decide +kernel) rfl)
theorem ln_RX0_35 : gLn RX0 35 mX4_covers 2 := ⟨⟨"SiblingJoins", by simp [gNest, mX4_covers]⟩, gii_RX4, gcd_X4_covers, by decide, by decide, by decide +kernel⟩
theorem gs_X4_covers : Cond.static mX4_covers.1 ∈ wsG := (wsG_of 358 (by decide +kernel) rfl)
theorem lk_RX0_39 : gLk RX0 39 mX0_has 1 := ⟨(wsG_of 385 (by decide +kernel) rfl), gii_RX0, gcd_X0_has, by decide, by decide, by decide +kernel⟩
theorem gi_X0_has : Cond.instanceMethod mX0_has.1 ∈ wsG := (wsG_of 312 (by decide +kernel) rfl)
theorem gv_X0_has : Cond.selects RX0 mX0_has.1 mX0_has.1 ∈ wsG := (wsG_of 313 (by decide +kernel) rfl)
theorem lk_RX0_43 : gLk RX0 43 mX0_hasDropped 1 := ⟨(wsG_of 381 (by decide +kernel) rfl), gii_RX0, gcd_X0_hasDropped, by decide, by decide, by decide +kernel⟩
theorem gi_X0_hasDropped : Cond.instanceMethod mX0_hasDropped.1 ∈ wsG := (wsG_of 382 (by decide +kernel) rfl)
theorem gv_X0_hasDropped : Cond.selects RX0 mX0_hasDropped.1 mX0_hasDropped.1 ∈ wsG := (wsG_of 383 (by decide +kernel) rfl)
theorem lk_RX0_46 : gLk RX0 46 mX0_isNew 1 := ⟨(wsG_of 390 (by decide +kernel) rfl), gii_RX0, gcd_X0_isNew, by decide, by decide, by decide +kernel⟩
theorem gi_X0_isNew : Cond.instanceMethod mX0_isNew.1 ∈ wsG := (wsG_of 391 (by decide +kernel) rfl)
theorem gv_X0_isNew : Cond.selects RX0 mX0_isNew.1 mX0_isNew.1 ∈ wsG := (wsG_of 392 (by decide +kernel) rfl)
theorem lk_RX0_49 : gLk RX0 49 mX0_remove 1 := ⟨(wsG_of 575 (by decide +kernel) rfl), gii_RX0, gcd_X0_remove, by decide, by decide, by decide +kernel⟩
theorem gi_X0_remove : Cond.instanceMethod mX0_remove.1 ∈ wsG := (wsG_of 576 (by decide +kernel) rfl)
theorem gv_X0_remove : Cond.selects RX0 mX0_remove.1 mX0_remove.1 ∈ wsG := (wsG_of 577 (by decide +kernel) rfl)
theorem lk_RX0_53 : gLk RX0 53 mX0_insert 2 := ⟨(wsG_of 609 (by decide +kernel) rfl), gii_RX0, gcd_X0_insert, by decide, by decide, by decide +kernel⟩
theorem gi_X0_insert : Cond.instanceMethod mX0_insert.1 ∈ wsG := (wsG_of 580 (by decide +kernel) rfl)
theorem gv_X0_insert : Cond.selects RX0 mX0_insert.1 mX0_insert.1 ∈ wsG := (wsG_of 581 (by decide +kernel) rfl)
theorem ln_RX0_57 : gLn RX0 57 mX4_mergeInto 2 := ⟨⟨"SiblingJoins", by simp [gNest, mX4_mergeInto]⟩, gii_RX4, gcd_X4_mergeInto, by decide, by decide, by decide +kernel⟩
theorem gs_X4_mergeInto : Cond.static mX4_mergeInto.1 ∈ wsG := (wsG_of 510 (by decide +kernel) rfl)
theorem sp_RX0_61 : Cond.methodLink RX0 61 Lib.Math.max.name ∈ wsG := (wsG_of 623 (by decide +kernel) rfl)
theorem sp_RX0_67 : Cond.methodLink RX0 67 Lib.Math.min.name ∈ wsG := (wsG_of 624 (by decide +kernel) rfl)
theorem sp_RX1_3 : Cond.methodLink RX1 3 objectInit ∈ wsG := (wsG_of 40 (by decide +kernel) rfl)
theorem ln_RX1_26 : gLn RX1 26 mX0_init 0 := ⟨⟨"SiblingJoins", by simp [gNest, mX0_init]⟩, gii_RX0, gcd_X0_init, by decide, by decide, by decide +kernel⟩
theorem gi_X0_init : Cond.instanceMethod mX0_init.1 ∈ wsG := (wsG_of 47 (by decide +kernel) rfl)
theorem lk_RX1_27 : gLk RX1 27 mX0_become 1 := ⟨(wsG_of 497 (by decide +kernel) rfl), gii_RX0, gcd_X0_become, by decide, by decide, by decide +kernel⟩
theorem gi_X0_become : Cond.instanceMethod mX0_become.1 ∈ wsG := (wsG_of 498 (by decide +kernel) rfl)
theorem gv_X0_become : Cond.selects RX0 mX0_become.1 mX0_become.1 ∈ wsG := (wsG_of 499 (by decide +kernel) rfl)
theorem sp_RX1_31 : Cond.methodLink RX1 31 arraycopyName ∈ wsG := (wsG_of 504 (by decide +kernel) rfl)
theorem ln_RX1_40 : gLn RX1 40 mX4_mergeInto 2 := ⟨⟨"SiblingJoins", by simp [gNest, mX4_mergeInto]⟩, gii_RX4, gcd_X4_mergeInto, by decide, by decide, by decide +kernel⟩
theorem lk_RX1_44 : gLk RX1 44 mX1_writeOutlook 3 := ⟨(wsG_of 545 (by decide +kernel) rfl), gii_RX1, gcd_X1_writeOutlook, by decide, by decide, by decide +kernel⟩
theorem gi_X1_writeOutlook : Cond.instanceMethod mX1_writeOutlook.1 ∈ wsG := (wsG_of 365 (by decide +kernel) rfl)
theorem gv_X1_writeOutlook : Cond.selects RX1 mX1_writeOutlook.1 mX1_writeOutlook.1 ∈ wsG := (wsG_of 366 (by decide +kernel) rfl)
theorem lk_RX1_48 : gLk RX1 48 mX1_pullOutlook 3 := ⟨(wsG_of 598 (by decide +kernel) rfl), gii_RX1, gcd_X1_pullOutlook, by decide, by decide, by decide +kernel⟩
theorem gi_X1_pullOutlook : Cond.instanceMethod mX1_pullOutlook.1 ∈ wsG := (wsG_of 374 (by decide +kernel) rfl)
theorem gv_X1_pullOutlook : Cond.selects RX1 mX1_pullOutlook.1 mX1_pullOutlook.1 ∈ wsG := (wsG_of 375 (by decide +kernel) rfl)
theorem lk_RX1_51 : gLk RX1 51 mX0_coveredBy 1 := ⟨(wsG_of 368 (by decide +kernel) rfl), gii_RX0, gcd_X0_coveredBy, by decide, by decide, by decide +kernel⟩
theorem gi_X0_coveredBy : Cond.instanceMethod mX0_coveredBy.1 ∈ wsG := (wsG_of 369 (by decide +kernel) rfl)
theorem gv_X0_coveredBy : Cond.selects RX0 mX0_coveredBy.1 mX0_coveredBy.1 ∈ wsG := (wsG_of 370 (by decide +kernel) rfl)
theorem lk_RX1_59 : gLk RX1 59 mX0_lostTo 1 := ⟨(wsG_of 377 (by decide +kernel) rfl), gii_RX0, gcd_X0_lostTo, by decide, by decide, by decide +kernel⟩
theorem gi_X0_lostTo : Cond.instanceMethod mX0_lostTo.1 ∈ wsG := (wsG_of 378 (by decide +kernel) rfl)
theorem gv_X0_lostTo : Cond.selects RX0 mX0_lostTo.1 mX0_lostTo.1 ∈ wsG := (wsG_of 379 (by decide +kernel) rfl)
theorem lk_RX1_63 : gLk RX1 63 mX0_gainedFrom 1 := ⟨(wsG_of 386 (by decide +kernel) rfl), gii_RX0, gcd_X0_gainedFrom, by decide, by decide, by decide +kernel⟩
theorem gi_X0_gainedFrom : Cond.instanceMethod mX0_gainedFrom.1 ∈ wsG := (wsG_of 387 (by decide +kernel) rfl)
theorem gv_X0_gainedFrom : Cond.selects RX0 mX0_gainedFrom.1 mX0_gainedFrom.1 ∈ wsG := (wsG_of 388 (by decide +kernel) rfl)
theorem lk_RX1_66 : gLk RX1 66 mX0_dropCoveredBy 1 := ⟨(wsG_of 571 (by decide +kernel) rfl), gii_RX0, gcd_X0_dropCoveredBy, by decide, by decide, by decide +kernel⟩
theorem gi_X0_dropCoveredBy : Cond.instanceMethod mX0_dropCoveredBy.1 ∈ wsG := (wsG_of 572 (by decide +kernel) rfl)
theorem gv_X0_dropCoveredBy : Cond.selects RX0 mX0_dropCoveredBy.1 mX0_dropCoveredBy.1 ∈ wsG := (wsG_of 573 (by decide +kernel) rfl)
theorem lk_RX1_70 : gLk RX1 70 mX0_insert 2 := ⟨(wsG_of 579 (by decide +kernel) rfl), gii_RX0, gcd_X0_insert, by decide, by decide, by decide +kernel⟩
theorem lk_RX1_74 : gLk RX1 74 mX0_hasOneOf 1 := ⟨(wsG_of 335 (by decide +kernel) rfl), gii_RX0, gcd_X0_hasOneOf, by decide, by decide, by decide +kernel⟩
theorem gi_X0_hasOneOf : Cond.instanceMethod mX0_hasOneOf.1 ∈ wsG := (wsG_of 336 (by decide +kernel) rfl)
theorem gv_X0_hasOneOf : Cond.selects RX0 mX0_hasOneOf.1 mX0_hasOneOf.1 ∈ wsG := (wsG_of 337 (by decide +kernel) rfl)
theorem ln_RX1_81 : gLn RX1 81 mX4_writerOf 1 := ⟨⟨"SiblingJoins", by simp [gNest, mX4_writerOf]⟩, gii_RX4, gcd_X4_writerOf, by decide, by decide, by decide +kernel⟩
theorem ln_RX1_85 : gLn RX1 85 mX4_numberOf 1 := ⟨⟨"SiblingJoins", by simp [gNest, mX4_numberOf]⟩, gii_RX4, gcd_X4_numberOf, by decide, by decide, by decide +kernel⟩
theorem gs_X4_numberOf : Cond.static mX4_numberOf.1 ∈ wsG := (wsG_of 351 (by decide +kernel) rfl)
theorem lk_RX1_91 : gLk RX1 91 mX1_knowers 1 := ⟨(wsG_of 353 (by decide +kernel) rfl), gii_RX1, gcd_X1_knowers, by decide, by decide, by decide +kernel⟩
theorem gi_X1_knowers : Cond.instanceMethod mX1_knowers.1 ∈ wsG := (wsG_of 354 (by decide +kernel) rfl)
theorem gv_X1_knowers : Cond.selects RX1 mX1_knowers.1 mX1_knowers.1 ∈ wsG := (wsG_of 355 (by decide +kernel) rfl)
theorem lk_RX1_94 : gLk RX1 94 mX1_holders 1 := ⟨(wsG_of 307 (by decide +kernel) rfl), gii_RX1, gcd_X1_holders, by decide, by decide, by decide +kernel⟩
theorem gi_X1_holders : Cond.instanceMethod mX1_holders.1 ∈ wsG := (wsG_of 308 (by decide +kernel) rfl)
theorem gv_X1_holders : Cond.selects RX1 mX1_holders.1 mX1_holders.1 ∈ wsG := (wsG_of 309 (by decide +kernel) rfl)
theorem ln_RX1_97 : gLn RX1 97 mX4_covers 2 := ⟨⟨"SiblingJoins", by simp [gNest, mX4_covers]⟩, gii_RX4, gcd_X4_covers, by decide, by decide, by decide +kernel⟩
theorem lk_RX1_101 : gLk RX1 101 mX0_has 1 := ⟨(wsG_of 311 (by decide +kernel) rfl), gii_RX0, gcd_X0_has, by decide, by decide, by decide +kernel⟩
theorem lk_RX1_104 : gLk RX1 104 mX1_unlikeSiblings 0 := ⟨(wsG_of 303 (by decide +kernel) rfl), gii_RX1, gcd_X1_unlikeSiblings, by decide, by decide, by decide +kernel⟩
theorem gi_X1_unlikeSiblings : Cond.instanceMethod mX1_unlikeSiblings.1 ∈ wsG := (wsG_of 304 (by decide +kernel) rfl)
theorem gv_X1_unlikeSiblings : Cond.selects RX1 mX1_unlikeSiblings.1 mX1_unlikeSiblings.1 ∈ wsG := (wsG_of 305 (by decide +kernel) rfl)
theorem lk_RX1_108 : gLk RX1 108 mX1_writesInAll 0 := ⟨(wsG_of 315 (by decide +kernel) rfl), gii_RX1, gcd_X1_writesInAll, by decide, by decide, by decide +kernel⟩
theorem gi_X1_writesInAll : Cond.instanceMethod mX1_writesInAll.1 ∈ wsG := (wsG_of 316 (by decide +kernel) rfl)
theorem gv_X1_writesInAll : Cond.selects RX1 mX1_writesInAll.1 mX1_writesInAll.1 ∈ wsG := (wsG_of 317 (by decide +kernel) rfl)
theorem lk_RX1_111 : gLk RX1 111 mX1_agreeingPairs 0 := ⟨(wsG_of 319 (by decide +kernel) rfl), gii_RX1, gcd_X1_agreeingPairs, by decide, by decide, by decide +kernel⟩
theorem gi_X1_agreeingPairs : Cond.instanceMethod mX1_agreeingPairs.1 ∈ wsG := (wsG_of 264 (by decide +kernel) rfl)
theorem gv_X1_agreeingPairs : Cond.selects RX1 mX1_agreeingPairs.1 mX1_agreeingPairs.1 ∈ wsG := (wsG_of 265 (by decide +kernel) rfl)
theorem lk_RX1_114 : gLk RX1 114 mX1_allSeeTheSame 0 := ⟨(wsG_of 320 (by decide +kernel) rfl), gii_RX1, gcd_X1_allSeeTheSame, by decide, by decide, by decide +kernel⟩
theorem gi_X1_allSeeTheSame : Cond.instanceMethod mX1_allSeeTheSame.1 ∈ wsG := (wsG_of 321 (by decide +kernel) rfl)
theorem gv_X1_allSeeTheSame : Cond.selects RX1 mX1_allSeeTheSame.1 mX1_allSeeTheSame.1 ∈ wsG := (wsG_of 322 (by decide +kernel) rfl)
theorem lk_RX1_118 : gLk RX1 118 mX1_forgettable 0 := ⟨(wsG_of 327 (by decide +kernel) rfl), gii_RX1, gcd_X1_forgettable, by decide, by decide, by decide +kernel⟩
theorem gi_X1_forgettable : Cond.instanceMethod mX1_forgettable.1 ∈ wsG := (wsG_of 328 (by decide +kernel) rfl)
theorem gv_X1_forgettable : Cond.selects RX1 mX1_forgettable.1 mX1_forgettable.1 ∈ wsG := (wsG_of 329 (by decide +kernel) rfl)
theorem lk_RX1_121 : gLk RX1 121 mX0_hasSameSiblings 1 := ⟨(wsG_of 267 (by decide +kernel) rfl), gii_RX0, gcd_X0_hasSameSiblings, by decide, by decide, by decide +kernel⟩
theorem gi_X0_hasSameSiblings : Cond.instanceMethod mX0_hasSameSiblings.1 ∈ wsG := (wsG_of 268 (by decide +kernel) rfl)
theorem gv_X0_hasSameSiblings : Cond.selects RX0 mX0_hasSameSiblings.1 mX0_hasSameSiblings.1 ∈ wsG := (wsG_of 269 (by decide +kernel) rfl)
theorem ln_RX1_125 : gLn RX1 125 mX4_sameNumbers 2 := ⟨⟨"SiblingJoins", by simp [gNest, mX4_sameNumbers]⟩, gii_RX4, gcd_X4_sameNumbers, by decide, by decide, by decide +kernel⟩
theorem gs_X4_sameNumbers : Cond.static mX4_sameNumbers.1 ∈ wsG := (wsG_of 325 (by decide +kernel) rfl)
theorem lk_RX1_129 : gLk RX1 129 mX1_hindrance 1 := ⟨(wsG_of 331 (by decide +kernel) rfl), gii_RX1, gcd_X1_hindrance, by decide, by decide, by decide +kernel⟩
theorem gi_X1_hindrance : Cond.instanceMethod mX1_hindrance.1 ∈ wsG := (wsG_of 332 (by decide +kernel) rfl)
theorem gv_X1_hindrance : Cond.selects RX1 mX1_hindrance.1 mX1_hindrance.1 ∈ wsG := (wsG_of 333 (by decide +kernel) rfl)
theorem sp_RX2_1 : Cond.methodLink RX2 1 objectInit ∈ wsG := (wsG_of 116 (by decide +kernel) rfl)
theorem lk_RX2_13 : gLk RX2 13 mX2_shape 0 := ⟨(wsG_of 191 (by decide +kernel) rfl), gii_RX2, gcd_X2_shape, by decide, by decide, by decide +kernel⟩
theorem gi_X2_shape : Cond.instanceMethod mX2_shape.1 ∈ wsG := (wsG_of 192 (by decide +kernel) rfl)
theorem gv_X2_shape : Cond.selects RX2 mX2_shape.1 mX2_shape.1 ∈ wsG := (wsG_of 193 (by decide +kernel) rfl)
theorem lk_RX2_17 : gLk RX2 17 mJ0_length_8abf5 0 := ⟨(wsG_of 197 (by decide +kernel) rfl), (wsG_of 15 (by decide +kernel) rfl), gcd_J0_length_8abf5, by decide, by decide, by decide +kernel⟩
theorem gi_J0_length_8abf5 : Cond.instanceMethod mJ0_length_8abf5.1 ∈ wsG := (wsG_of 198 (by decide +kernel) rfl)
theorem gv_J0_length_8abf5 : Cond.selects RJ0 mJ0_length_8abf5.1 mJ0_length_8abf5.1 ∈ wsG := (wsG_of 199 (by decide +kernel) rfl)
theorem lk_RX2_23 : gLk RX2 23 mX2_takesKind 1 := ⟨(wsG_of 183 (by decide +kernel) rfl), gii_RX2, gcd_X2_takesKind, by decide, by decide, by decide +kernel⟩
theorem gi_X2_takesKind : Cond.instanceMethod mX2_takesKind.1 ∈ wsG := (wsG_of 184 (by decide +kernel) rfl)
theorem gv_X2_takesKind : Cond.selects RX2 mX2_takesKind.1 mX2_takesKind.1 ∈ wsG := (wsG_of 185 (by decide +kernel) rfl)
theorem lk_RX2_27 : gLk RX2 27 mX2_isWhole 0 := ⟨(wsG_of 187 (by decide +kernel) rfl), gii_RX2, gcd_X2_isWhole, by decide, by decide, by decide +kernel⟩
theorem gi_X2_isWhole : Cond.instanceMethod mX2_isWhole.1 ∈ wsG := (wsG_of 188 (by decide +kernel) rfl)
theorem gv_X2_isWhole : Cond.selects RX2 mX2_isWhole.1 mX2_isWhole.1 ∈ wsG := (wsG_of 189 (by decide +kernel) rfl)
theorem lk_RX2_31 : gLk RX2 31 mX2_takesEnd 1 := ⟨(wsG_of 207 (by decide +kernel) rfl), gii_RX2, gcd_X2_takesEnd, by decide, by decide, by decide +kernel⟩
theorem gi_X2_takesEnd : Cond.instanceMethod mX2_takesEnd.1 ∈ wsG := (wsG_of 208 (by decide +kernel) rfl)
theorem gv_X2_takesEnd : Cond.selects RX2 mX2_takesEnd.1 mX2_takesEnd.1 ∈ wsG := (wsG_of 209 (by decide +kernel) rfl)
theorem lk_RX2_34 : gLk RX2 34 mJ0_charAt_5068e 1 := ⟨(wsG_of 212 (by decide +kernel) rfl), (wsG_of 15 (by decide +kernel) rfl), gcd_J0_charAt_5068e, by decide, by decide, by decide +kernel⟩
theorem gi_J0_charAt_5068e : Cond.instanceMethod mJ0_charAt_5068e.1 ∈ wsG := (wsG_of 213 (by decide +kernel) rfl)
theorem gv_J0_charAt_5068e : Cond.selects RJ0 mJ0_charAt_5068e.1 mJ0_charAt_5068e.1 ∈ wsG := (wsG_of 214 (by decide +kernel) rfl)
theorem lk_RX2_38 : gLk RX2 38 mX2_takesDigit 2 := ⟨(wsG_of 250 (by decide +kernel) rfl), gii_RX2, gcd_X2_takesDigit, by decide, by decide, by decide +kernel⟩
theorem gi_X2_takesDigit : Cond.instanceMethod mX2_takesDigit.1 ∈ wsG := (wsG_of 251 (by decide +kernel) rfl)
theorem gv_X2_takesDigit : Cond.selects RX2 mX2_takesDigit.1 mX2_takesDigit.1 ∈ wsG := (wsG_of 252 (by decide +kernel) rfl)
theorem lk_RX2_62 : gLk RX2 62 mX2_restart 0 := ⟨(wsG_of 211 (by decide +kernel) rfl), gii_RX2, gcd_X2_restart, by decide, by decide, by decide +kernel⟩
theorem gi_X2_restart : Cond.instanceMethod mX2_restart.1 ∈ wsG := (wsG_of 176 (by decide +kernel) rfl)
theorem gv_X2_restart : Cond.selects RX2 mX2_restart.1 mX2_restart.1 ∈ wsG := (wsG_of 177 (by decide +kernel) rfl)
theorem sp_RX3_3 : Cond.methodLink RX3 3 objectInit ∈ wsG := (wsG_of 33 (by decide +kernel) rfl)
theorem lk_RX3_17 : gLk RX3 17 mX1_init 0 := ⟨(wsG_of 37 (by decide +kernel) rfl), gii_RX1, gcd_X1_init, by decide, by decide, by decide +kernel⟩
theorem gi_X1_init : Cond.instanceMethod mX1_init.1 ∈ wsG := (wsG_of 38 (by decide +kernel) rfl)
theorem lk_RX3_18 : gLk RX3 18 mX1_become 1 := ⟨(wsG_of 493 (by decide +kernel) rfl), gii_RX1, gcd_X1_become, by decide, by decide, by decide +kernel⟩
theorem gi_X1_become : Cond.instanceMethod mX1_become.1 ∈ wsG := (wsG_of 494 (by decide +kernel) rfl)
theorem gv_X1_become : Cond.selects RX1 mX1_become.1 mX1_become.1 ∈ wsG := (wsG_of 495 (by decide +kernel) rfl)
theorem lk_RX3_38 : gLk RX3 38 mX1_writeOutlook 3 := ⟨(wsG_of 566 (by decide +kernel) rfl), gii_RX1, gcd_X1_writeOutlook, by decide, by decide, by decide +kernel⟩
theorem lk_RX3_42 : gLk RX3 42 mX1_put 3 := ⟨(wsG_of 567 (by decide +kernel) rfl), gii_RX1, gcd_X1_put, by decide, by decide, by decide +kernel⟩
theorem gi_X1_put : Cond.instanceMethod mX1_put.1 ∈ wsG := (wsG_of 568 (by decide +kernel) rfl)
theorem gv_X1_put : Cond.selects RX1 mX1_put.1 mX1_put.1 ∈ wsG := (wsG_of 569 (by decide +kernel) rfl)
theorem lk_RX3_46 : gLk RX3 46 mX1_pullOutlook 3 := ⟨(wsG_of 604 (by decide +kernel) rfl), gii_RX1, gcd_X1_pullOutlook, by decide, by decide, by decide +kernel⟩
theorem lk_RX3_53 : gLk RX3 53 mX0_takeFrom 1 := ⟨(wsG_of 605 (by decide +kernel) rfl), gii_RX0, gcd_X0_takeFrom, by decide, by decide, by decide +kernel⟩
theorem gi_X0_takeFrom : Cond.instanceMethod mX0_takeFrom.1 ∈ wsG := (wsG_of 606 (by decide +kernel) rfl)
theorem gv_X0_takeFrom : Cond.selects RX0 mX0_takeFrom.1 mX0_takeFrom.1 ∈ wsG := (wsG_of 607 (by decide +kernel) rfl)
theorem lk_RX3_59 : gLk RX3 59 mX1_mayPull 2 := ⟨(wsG_of 661 (by decide +kernel) rfl), gii_RX1, gcd_X1_mayPull, by decide, by decide, by decide +kernel⟩
theorem gi_X1_mayPull : Cond.instanceMethod mX1_mayPull.1 ∈ wsG := (wsG_of 595 (by decide +kernel) rfl)
theorem gv_X1_mayPull : Cond.selects RX1 mX1_mayPull.1 mX1_mayPull.1 ∈ wsG := (wsG_of 596 (by decide +kernel) rfl)
theorem lk_RX3_63 : gLk RX3 63 mX3_bring 3 := ⟨(wsG_of 662 (by decide +kernel) rfl), gii_RX3, gcd_X3_bring, by decide, by decide, by decide +kernel⟩
theorem gi_X3_bring : Cond.instanceMethod mX3_bring.1 ∈ wsG := (wsG_of 601 (by decide +kernel) rfl)
theorem gv_X3_bring : Cond.selects RX3 mX3_bring.1 mX3_bring.1 ∈ wsG := (wsG_of 602 (by decide +kernel) rfl)
theorem sp_RX3_69 : Cond.methodLink RX3 69 Lib.Math.max.name ∈ wsG := (wsG_of 289 (by decide +kernel) rfl)
theorem sp_RX4_1 : Cond.methodLink RX4 1 objectInit ∈ wsG := (wsG_of 25 (by decide +kernel) rfl)
theorem lk_RX4_9 : gLk RX4 9 mX3_init 0 := ⟨(wsG_of 30 (by decide +kernel) rfl), gii_RX3, gcd_X3_init, by decide, by decide, by decide +kernel⟩
theorem gi_X3_init : Cond.instanceMethod mX3_init.1 ∈ wsG := (wsG_of 31 (by decide +kernel) rfl)
theorem ln_RX4_29 : gLn RX4 29 mX2_init 0 := ⟨⟨"SiblingJoins", by simp [gNest, mX2_init]⟩, gii_RX2, gcd_X2_init, by decide, by decide, by decide +kernel⟩
theorem gi_X2_init : Cond.instanceMethod mX2_init.1 ∈ wsG := (wsG_of 114 (by decide +kernel) rfl)
theorem lk_RX4_34 : gLk RX4 34 mX4_checkWriterKeyStore 3 := ⟨(wsG_of 408 (by decide +kernel) rfl), gii_RX4, gcd_X4_checkWriterKeyStore, by decide, by decide, by decide +kernel⟩
theorem gs_X4_checkWriterKeyStore : Cond.static mX4_checkWriterKeyStore.1 ∈ wsG := (wsG_of 409 (by decide +kernel) rfl)
theorem lk_RX4_38 : gLk RX4 38 mX4_save 0 := ⟨(wsG_of 481 (by decide +kernel) rfl), gii_RX4, gcd_X4_save, by decide, by decide, by decide +kernel⟩
theorem gi_X4_save : Cond.instanceMethod mX4_save.1 ∈ wsG := (wsG_of 483 (by decide +kernel) rfl)
theorem gv_X4_save : Cond.selects RX4 mX4_save.1 mX4_save.1 ∈ wsG := (wsG_sel 4 (by decide +kernel) rfl)
theorem lk_RX4_45 : gLk RX4 45 mX1_learn 2 := ⟨(wsG_of 505 (by decide +kernel) rfl), gii_RX1, gcd_X1_learn, by decide, by decide, by decide +kernel⟩
theorem gi_X1_learn : Cond.instanceMethod mX1_learn.1 ∈ wsG := (wsG_of 506 (by decide +kernel) rfl)
theorem gv_X1_learn : Cond.selects RX1 mX1_learn.1 mX1_learn.1 ∈ wsG := (wsG_of 507 (by decide +kernel) rfl)
theorem lk_RX4_61 : gLk RX4 61 mX4_checkUpTo 2 := ⟨(wsG_of 522 (by decide +kernel) rfl), gii_RX4, gcd_X4_checkUpTo, by decide, by decide, by decide +kernel⟩
theorem gs_X4_checkUpTo : Cond.static mX4_checkUpTo.1 ∈ wsG := (wsG_of 523 (by decide +kernel) rfl)
theorem lk_RX4_64 : gLk RX4 64 mX1_mayWrite 2 := ⟨(wsG_of 541 (by decide +kernel) rfl), gii_RX1, gcd_X1_mayWrite, by decide, by decide, by decide +kernel⟩
theorem gi_X1_mayWrite : Cond.instanceMethod mX1_mayWrite.1 ∈ wsG := (wsG_of 542 (by decide +kernel) rfl)
theorem gv_X1_mayWrite : Cond.selects RX1 mX1_mayWrite.1 mX1_mayWrite.1 ∈ wsG := (wsG_of 543 (by decide +kernel) rfl)
theorem lk_RX4_75 : gLk RX4 75 mX3_replace 4 := ⟨(wsG_of 562 (by decide +kernel) rfl), gii_RX3, gcd_X3_replace, by decide, by decide, by decide +kernel⟩
theorem gi_X3_replace : Cond.instanceMethod mX3_replace.1 ∈ wsG := (wsG_of 563 (by decide +kernel) rfl)
theorem gv_X3_replace : Cond.selects RX3 mX3_replace.1 mX3_replace.1 ∈ wsG := (wsG_of 564 (by decide +kernel) rfl)
theorem lk_RX4_79 : gLk RX4 79 mX4_checkTwoStores 3 := ⟨(wsG_of 590 (by decide +kernel) rfl), gii_RX4, gcd_X4_checkTwoStores, by decide, by decide, by decide +kernel⟩
theorem gs_X4_checkTwoStores : Cond.static mX4_checkTwoStores.1 ∈ wsG := (wsG_of 591 (by decide +kernel) rfl)
theorem lk_RX4_82 : gLk RX4 82 mX1_mayPull 2 := ⟨(wsG_of 594 (by decide +kernel) rfl), gii_RX1, gcd_X1_mayPull, by decide, by decide, by decide +kernel⟩
theorem lk_RX4_87 : gLk RX4 87 mX3_bring 3 := ⟨(wsG_of 600 (by decide +kernel) rfl), gii_RX3, gcd_X3_bring, by decide, by decide, by decide +kernel⟩
theorem lk_RX4_96 : gLk RX4 96 mX0_valueBy 1 := ⟨(wsG_of 619 (by decide +kernel) rfl), gii_RX0, gcd_X0_valueBy, by decide, by decide, by decide +kernel⟩
theorem gi_X0_valueBy : Cond.instanceMethod mX0_valueBy.1 ∈ wsG := (wsG_of 620 (by decide +kernel) rfl)
theorem gv_X0_valueBy : Cond.selects RX0 mX0_valueBy.1 mX0_valueBy.1 ∈ wsG := (wsG_of 621 (by decide +kernel) rfl)
theorem lk_RX4_103 : gLk RX4 103 mX4_checkIndex 2 := ⟨(wsG_of 411 (by decide +kernel) rfl), gii_RX4, gcd_X4_checkIndex, by decide, by decide, by decide +kernel⟩
theorem gs_X4_checkIndex : Cond.static mX4_checkIndex.1 ∈ wsG := (wsG_of 412 (by decide +kernel) rfl)
theorem lk_RX4_106 : gLk RX4 106 mX1_unlearn 1 := ⟨(wsG_of 634 (by decide +kernel) rfl), gii_RX1, gcd_X1_unlearn, by decide, by decide, by decide +kernel⟩
theorem gi_X1_unlearn : Cond.instanceMethod mX1_unlearn.1 ∈ wsG := (wsG_of 635 (by decide +kernel) rfl)
theorem gv_X1_unlearn : Cond.selects RX1 mX1_unlearn.1 mX1_unlearn.1 ∈ wsG := (wsG_of 636 (by decide +kernel) rfl)
theorem lk_RX4_109 : gLk RX4 109 mX1_hindrance 1 := ⟨(wsG_of 363 (by decide +kernel) rfl), gii_RX1, gcd_X1_hindrance, by decide, by decide, by decide +kernel⟩
theorem lk_RX4_114 : gLk RX4 114 mX1_erase 1 := ⟨(wsG_of 646 (by decide +kernel) rfl), gii_RX1, gcd_X1_erase, by decide, by decide, by decide +kernel⟩
theorem gi_X1_erase : Cond.instanceMethod mX1_erase.1 ∈ wsG := (wsG_of 647 (by decide +kernel) rfl)
theorem gv_X1_erase : Cond.selects RX1 mX1_erase.1 mX1_erase.1 ∈ wsG := (wsG_of 648 (by decide +kernel) rfl)
theorem lk_RX4_121 : gLk RX4 121 mX3_become 1 := ⟨(wsG_of 489 (by decide +kernel) rfl), gii_RX3, gcd_X3_become, by decide, by decide, by decide +kernel⟩
theorem gi_X3_become : Cond.instanceMethod mX3_become.1 ∈ wsG := (wsG_of 490 (by decide +kernel) rfl)
theorem gv_X3_become : Cond.selects RX3 mX3_become.1 mX3_become.1 ∈ wsG := (wsG_of 491 (by decide +kernel) rfl)
theorem lk_RX4_125 : gLk RX4 125 mX3_bringAll 0 := ⟨(wsG_of 657 (by decide +kernel) rfl), gii_RX3, gcd_X3_bringAll, by decide, by decide, by decide +kernel⟩
theorem gi_X3_bringAll : Cond.instanceMethod mX3_bringAll.1 ∈ wsG := (wsG_of 658 (by decide +kernel) rfl)
theorem gv_X3_bringAll : Cond.selects RX3 mX3_bringAll.1 mX3_bringAll.1 ∈ wsG := (wsG_of 659 (by decide +kernel) rfl)
theorem lk_RX4_142 : gLk RX4 142 mX4_scanBuffer 0 := ⟨(wsG_of 171 (by decide +kernel) rfl), gii_RX4, gcd_X4_scanBuffer, by decide, by decide, by decide +kernel⟩
theorem gi_X4_scanBuffer : Cond.instanceMethod mX4_scanBuffer.1 ∈ wsG := (wsG_of 173 (by decide +kernel) rfl)
theorem gv_X4_scanBuffer : Cond.selects RX4 mX4_scanBuffer.1 mX4_scanBuffer.1 ∈ wsG := (wsG_sel 0 (by decide +kernel) rfl)
theorem lk_RX4_146 : gLk RX4 146 mX2_isWhole 0 := ⟨(wsG_of 679 (by decide +kernel) rfl), gii_RX2, gcd_X2_isWhole, by decide, by decide, by decide +kernel⟩
theorem lk_RX4_151 : gLk RX4 151 mX4_runParts 0 := ⟨(wsG_of 681 (by decide +kernel) rfl), gii_RX4, gcd_X4_runParts, by decide, by decide, by decide +kernel⟩
theorem gi_X4_runParts : Cond.instanceMethod mX4_runParts.1 ∈ wsG := (wsG_of 683 (by decide +kernel) rfl)
theorem gv_X4_runParts : Cond.selects RX4 mX4_runParts.1 mX4_runParts.1 ∈ wsG := (wsG_sel 6 (by decide +kernel) rfl)
theorem lk_RX4_159 : gLk RX4 159 mX1_siblingFact 3 := ⟨(wsG_of 345 (by decide +kernel) rfl), gii_RX1, gcd_X1_siblingFact, by decide, by decide, by decide +kernel⟩
theorem gi_X1_siblingFact : Cond.instanceMethod mX1_siblingFact.1 ∈ wsG := (wsG_of 346 (by decide +kernel) rfl)
theorem gv_X1_siblingFact : Cond.selects RX1 mX1_siblingFact.1 mX1_siblingFact.1 ∈ wsG := (wsG_of 347 (by decide +kernel) rfl)
theorem lk_RX4_169 : gLk RX4 169 mX1_keyFact 1 := ⟨(wsG_of 299 (by decide +kernel) rfl), gii_RX1, gcd_X1_keyFact, by decide, by decide, by decide +kernel⟩
theorem gi_X1_keyFact : Cond.instanceMethod mX1_keyFact.1 ∈ wsG := (wsG_of 300 (by decide +kernel) rfl)
theorem gv_X1_keyFact : Cond.selects RX1 mX1_keyFact.1 mX1_keyFact.1 ∈ wsG := (wsG_of 301 (by decide +kernel) rfl)
theorem lk_RX4_172 : gLk RX4 172 mX4_tally 1 := ⟨(wsG_of 277 (by decide +kernel) rfl), gii_RX4, gcd_X4_tally, by decide, by decide, by decide +kernel⟩
theorem gi_X4_tally : Cond.instanceMethod mX4_tally.1 ∈ wsG := (wsG_of 279 (by decide +kernel) rfl)
theorem gv_X4_tally : Cond.selects RX4 mX4_tally.1 mX4_tally.1 ∈ wsG := (wsG_sel 2 (by decide +kernel) rfl)
theorem lk_RX4_175 : gLk RX4 175 mX1_writeOutlook 3 := ⟨(wsG_of 364 (by decide +kernel) rfl), gii_RX1, gcd_X1_writeOutlook, by decide, by decide, by decide +kernel⟩
theorem lk_RX4_178 : gLk RX4 178 mX1_pullOutlook 3 := ⟨(wsG_of 373 (by decide +kernel) rfl), gii_RX1, gcd_X1_pullOutlook, by decide, by decide, by decide +kernel⟩
theorem lk_RX4_181 : gLk RX4 181 mX4_shareOfAgreement 0 := ⟨(wsG_of 259 (by decide +kernel) rfl), gii_RX4, gcd_X4_shareOfAgreement, by decide, by decide, by decide +kernel⟩
theorem gi_X4_shareOfAgreement : Cond.instanceMethod mX4_shareOfAgreement.1 ∈ wsG := (wsG_of 261 (by decide +kernel) rfl)
theorem gv_X4_shareOfAgreement : Cond.selects RX4 mX4_shareOfAgreement.1 mX4_shareOfAgreement.1 ∈ wsG := (wsG_sel 1 (by decide +kernel) rfl)
theorem lk_RX4_187 : gLk RX4 187 mX4_mix 2 := ⟨(wsG_of 292 (by decide +kernel) rfl), gii_RX4, gcd_X4_mix, by decide, by decide, by decide +kernel⟩
theorem gs_X4_mix : Cond.static mX4_mix.1 ∈ wsG := (wsG_of 293 (by decide +kernel) rfl)
theorem lk_RX4_191 : gLk RX4 191 mX4_mixKey 2 := ⟨(wsG_of 296 (by decide +kernel) rfl), gii_RX4, gcd_X4_mixKey, by decide, by decide, by decide +kernel⟩
theorem gs_X4_mixKey : Cond.static mX4_mixKey.1 ∈ wsG := (wsG_of 297 (by decide +kernel) rfl)
theorem lk_RX4_195 : gLk RX4 195 mX4_bitsOfShare 1 := ⟨(wsG_of 394 (by decide +kernel) rfl), gii_RX4, gcd_X4_bitsOfShare, by decide, by decide, by decide +kernel⟩
theorem gs_X4_bitsOfShare : Cond.static mX4_bitsOfShare.1 ∈ wsG := (wsG_of 395 (by decide +kernel) rfl)
theorem lk_RX4_208 : gLk RX4 208 mX4_dropOldest 0 := ⟨(wsG_of 485 (by decide +kernel) rfl), gii_RX4, gcd_X4_dropOldest, by decide, by decide, by decide +kernel⟩
theorem gi_X4_dropOldest : Cond.instanceMethod mX4_dropOldest.1 ∈ wsG := (wsG_of 487 (by decide +kernel) rfl)
theorem gv_X4_dropOldest : Cond.selects RX4 mX4_dropOldest.1 mX4_dropOldest.1 ∈ wsG := (wsG_sel 5 (by decide +kernel) rfl)
theorem lk_RX4_211 : gLk RX4 211 mX2_restart 0 := ⟨(wsG_of 175 (by decide +kernel) rfl), gii_RX2, gcd_X2_restart, by decide, by decide, by decide +kernel⟩
theorem lk_RX4_214 : gLk RX4 214 mX2_takes 1 := ⟨(wsG_of 179 (by decide +kernel) rfl), gii_RX2, gcd_X2_takes, by decide, by decide, by decide +kernel⟩
theorem gi_X2_takes : Cond.instanceMethod mX2_takes.1 ∈ wsG := (wsG_of 180 (by decide +kernel) rfl)
theorem gv_X2_takes : Cond.selects RX2 mX2_takes.1 mX2_takes.1 ∈ wsG := (wsG_of 181 (by decide +kernel) rfl)
theorem lk_RX4_218 : gLk RX4 218 mX4_runPart 0 := ⟨(wsG_of 685 (by decide +kernel) rfl), gii_RX4, gcd_X4_runPart, by decide, by decide, by decide +kernel⟩
theorem gi_X4_runPart : Cond.instanceMethod mX4_runPart.1 ∈ wsG := (wsG_of 687 (by decide +kernel) rfl)
theorem gv_X4_runPart : Cond.selects RX4 mX4_runPart.1 mX4_runPart.1 ∈ wsG := (wsG_sel 7 (by decide +kernel) rfl)
theorem lk_RX4_237 : gLk RX4 237 mX3_siblingsInAll 0 := ⟨(wsG_of 281 (by decide +kernel) rfl), gii_RX3, gcd_X3_siblingsInAll, by decide, by decide, by decide +kernel⟩
theorem gi_X3_siblingsInAll : Cond.instanceMethod mX3_siblingsInAll.1 ∈ wsG := (wsG_of 282 (by decide +kernel) rfl)
theorem gv_X3_siblingsInAll : Cond.selects RX3 mX3_siblingsInAll.1 mX3_siblingsInAll.1 ∈ wsG := (wsG_of 283 (by decide +kernel) rfl)
theorem lk_RX4_240 : gLk RX4 240 mX3_mostSiblings 0 := ⟨(wsG_of 285 (by decide +kernel) rfl), gii_RX3, gcd_X3_mostSiblings, by decide, by decide, by decide +kernel⟩
theorem gi_X3_mostSiblings : Cond.instanceMethod mX3_mostSiblings.1 ∈ wsG := (wsG_of 286 (by decide +kernel) rfl)
theorem gv_X3_mostSiblings : Cond.selects RX3 mX3_mostSiblings.1 mX3_mostSiblings.1 ∈ wsG := (wsG_of 287 (by decide +kernel) rfl)
theorem lk_RX4_249 : gLk RX4 249 mX1_agreeingPairs 0 := ⟨(wsG_of 263 (by decide +kernel) rfl), gii_RX1, gcd_X1_agreeingPairs, by decide, by decide, by decide +kernel⟩
theorem lk_RX4_256 : gLk RX4 256 mX4_mixStore 3 := ⟨(wsG_of 342 (by decide +kernel) rfl), gii_RX4, gcd_X4_mixStore, by decide, by decide, by decide +kernel⟩
theorem gs_X4_mixStore : Cond.static mX4_mixStore.1 ∈ wsG := (wsG_of 343 (by decide +kernel) rfl)
theorem lk_RX4_260 : gLk RX4 260 mX4_mixRow 2 := ⟨(wsG_of 360 (by decide +kernel) rfl), gii_RX4, gcd_X4_mixRow, by decide, by decide, by decide +kernel⟩
theorem gs_X4_mixRow : Cond.static mX4_mixRow.1 ∈ wsG := (wsG_of 361 (by decide +kernel) rfl)
theorem sp_RX4_270 : Cond.methodLink RX4 270 Lib.Math.max.name ∈ wsG := (wsG_of 512 (by decide +kernel) rfl)
theorem sp_RX5_1 : Cond.methodLink RX5 1 objectInit ∈ wsG := (wsG_of 758 (by decide +kernel) rfl)
theorem lk_RX5_35 : gLk RX5 35 mX5_in 3 := ⟨(wsG_of 830 (by decide +kernel) rfl), gii_RX5, gcd_X5_in, by decide, by decide, by decide +kernel⟩
theorem gs_X5_in : Cond.static mX5_in.1 ∈ wsG := (wsG_of 831 (by decide +kernel) rfl)
theorem lk_RX5_39 : gLk RX5 39 mX5_fails 1 := ⟨(wsG_of 816 (by decide +kernel) rfl), gii_RX5, gcd_X5_fails, by decide, by decide, by decide +kernel⟩
theorem gi_X5_fails : Cond.instanceMethod mX5_fails.1 ∈ wsG := (wsG_of 818 (by decide +kernel) rfl)
theorem gv_X5_fails : Cond.selects RX5 mX5_fails.1 mX5_fails.1 ∈ wsG := (wsG_sel 8 (by decide +kernel) rfl)
theorem lk_RX5_43 : gLk RX5 43 mX5_rowAt 2 := ⟨(wsG_of 857 (by decide +kernel) rfl), gii_RX5, gcd_X5_rowAt, by decide, by decide, by decide +kernel⟩
theorem gs_X5_rowAt : Cond.static mX5_rowAt.1 ∈ wsG := (wsG_of 858 (by decide +kernel) rfl)
theorem lk_RX5_47 : gLk RX5 47 mX5_siblings 2 := ⟨(wsG_of 853 (by decide +kernel) rfl), gii_RX5, gcd_X5_siblings, by decide, by decide, by decide +kernel⟩
theorem gi_X5_siblings : Cond.instanceMethod mX5_siblings.1 ∈ wsG := (wsG_of 855 (by decide +kernel) rfl)
theorem gv_X5_siblings : Cond.selects RX5 mX5_siblings.1 mX5_siblings.1 ∈ wsG := (wsG_sel 11 (by decide +kernel) rfl)
theorem lk_RX5_50 : gLk RX5 50 mX5_placeAt 3 := ⟨(wsG_of 872 (by decide +kernel) rfl), gii_RX5, gcd_X5_placeAt, by decide, by decide, by decide +kernel⟩
theorem gs_X5_placeAt : Cond.static mX5_placeAt.1 ∈ wsG := (wsG_of 873 (by decide +kernel) rfl)
theorem lk_RX5_54 : gLk RX5 54 mX5_knowsAt 2 := ⟨(wsG_of 843 (by decide +kernel) rfl), gii_RX5, gcd_X5_knowsAt, by decide, by decide, by decide +kernel⟩
theorem gs_X5_knowsAt : Cond.static mX5_knowsAt.1 ∈ wsG := (wsG_of 844 (by decide +kernel) rfl)
theorem lk_RX5_57 : gLk RX5 57 mX5_covers 2 := ⟨(wsG_of 875 (by decide +kernel) rfl), gii_RX5, gcd_X5_covers, by decide, by decide, by decide +kernel⟩
theorem gi_X5_covers : Cond.instanceMethod mX5_covers.1 ∈ wsG := (wsG_of 877 (by decide +kernel) rfl)
theorem gv_X5_covers : Cond.selects RX5 mX5_covers.1 mX5_covers.1 ∈ wsG := (wsG_sel 14 (by decide +kernel) rfl)
theorem lk_RX5_61 : gLk RX5 61 mX5_coveredBy 3 := ⟨(wsG_of 868 (by decide +kernel) rfl), gii_RX5, gcd_X5_coveredBy, by decide, by decide, by decide +kernel⟩
theorem gi_X5_coveredBy : Cond.instanceMethod mX5_coveredBy.1 ∈ wsG := (wsG_of 870 (by decide +kernel) rfl)
theorem gv_X5_coveredBy : Cond.selects RX5 mX5_coveredBy.1 mX5_coveredBy.1 ∈ wsG := (wsG_sel 13 (by decide +kernel) rfl)
theorem lk_RX5_64 : gLk RX5 64 mX5_countAt 2 := ⟨(wsG_of 879 (by decide +kernel) rfl), gii_RX5, gcd_X5_countAt, by decide, by decide, by decide +kernel⟩
theorem gs_X5_countAt : Cond.static mX5_countAt.1 ∈ wsG := (wsG_of 880 (by decide +kernel) rfl)
theorem lk_RX5_67 : gLk RX5 67 mX5_drops 3 := ⟨(wsG_of 886 (by decide +kernel) rfl), gii_RX5, gcd_X5_drops, by decide, by decide, by decide +kernel⟩
theorem gi_X5_drops : Cond.instanceMethod mX5_drops.1 ∈ wsG := (wsG_of 888 (by decide +kernel) rfl)
theorem gv_X5_drops : Cond.selects RX5 mX5_drops.1 mX5_drops.1 ∈ wsG := (wsG_sel 16 (by decide +kernel) rfl)
theorem lk_RX5_71 : gLk RX5 71 mX5_comes 5 := ⟨(wsG_of 890 (by decide +kernel) rfl), gii_RX5, gcd_X5_comes, by decide, by decide, by decide +kernel⟩
theorem gi_X5_comes : Cond.instanceMethod mX5_comes.1 ∈ wsG := (wsG_of 892 (by decide +kernel) rfl)
theorem gv_X5_comes : Cond.selects RX5 mX5_comes.1 mX5_comes.1 ∈ wsG := (wsG_sel 17 (by decide +kernel) rfl)
theorem lk_RX5_75 : gLk RX5 75 mX5_vectorAt 2 := ⟨(wsG_of 846 (by decide +kernel) rfl), gii_RX5, gcd_X5_vectorAt, by decide, by decide, by decide +kernel⟩
theorem gs_X5_vectorAt : Cond.static mX5_vectorAt.1 ∈ wsG := (wsG_of 847 (by decide +kernel) rfl)
theorem lk_RX5_78 : gLk RX5 78 mX5_merges 2 := ⟨(wsG_of 849 (by decide +kernel) rfl), gii_RX5, gcd_X5_merges, by decide, by decide, by decide +kernel⟩
theorem gi_X5_merges : Cond.instanceMethod mX5_merges.1 ∈ wsG := (wsG_of 851 (by decide +kernel) rfl)
theorem gv_X5_merges : Cond.selects RX5 mX5_merges.1 mX5_merges.1 ∈ wsG := (wsG_sel 10 (by decide +kernel) rfl)
theorem lk_RX5_82 : gLk RX5 82 mX5_isWriter 1 := ⟨(wsG_of 827 (by decide +kernel) rfl), gii_RX5, gcd_X5_isWriter, by decide, by decide, by decide +kernel⟩
theorem gs_X5_isWriter : Cond.static mX5_isWriter.1 ∈ wsG := (wsG_of 828 (by decide +kernel) rfl)
theorem lk_RX5_86 : gLk RX5 86 mX5_isKey 1 := ⟨(wsG_of 833 (by decide +kernel) rfl), gii_RX5, gcd_X5_isKey, by decide, by decide, by decide +kernel⟩
theorem gs_X5_isKey : Cond.static mX5_isKey.1 ∈ wsG := (wsG_of 834 (by decide +kernel) rfl)
theorem lk_RX5_89 : gLk RX5 89 mX5_isStore 1 := ⟨(wsG_of 836 (by decide +kernel) rfl), gii_RX5, gcd_X5_isStore, by decide, by decide, by decide +kernel⟩
theorem gs_X5_isStore : Cond.static mX5_isStore.1 ∈ wsG := (wsG_of 837 (by decide +kernel) rfl)
theorem lk_RX5_92 : gLk RX5 92 mX5_areThere 3 := ⟨(wsG_of 824 (by decide +kernel) rfl), gii_RX5, gcd_X5_areThere, by decide, by decide, by decide +kernel⟩
theorem gs_X5_areThere : Cond.static mX5_areThere.1 ∈ wsG := (wsG_of 825 (by decide +kernel) rfl)
theorem lk_RX5_95 : gLk RX5 95 mX5_saves 1 := ⟨(wsG_of 839 (by decide +kernel) rfl), gii_RX5, gcd_X5_saves, by decide, by decide, by decide +kernel⟩
theorem gi_X5_saves : Cond.instanceMethod mX5_saves.1 ∈ wsG := (wsG_of 841 (by decide +kernel) rfl)
theorem gv_X5_saves : Cond.selects RX5 mX5_saves.1 mX5_saves.1 ∈ wsG := (wsG_sel 9 (by decide +kernel) rfl)
theorem lk_RX5_99 : gLk RX5 99 mX5_mayWrite 3 := ⟨(wsG_of 864 (by decide +kernel) rfl), gii_RX5, gcd_X5_mayWrite, by decide, by decide, by decide +kernel⟩
theorem gi_X5_mayWrite : Cond.instanceMethod mX5_mayWrite.1 ∈ wsG := (wsG_of 866 (by decide +kernel) rfl)
theorem gv_X5_mayWrite : Cond.selects RX5 mX5_mayWrite.1 mX5_mayWrite.1 ∈ wsG := (wsG_sel 12 (by decide +kernel) rfl)
theorem lk_RX5_102 : gLk RX5 102 mX5_writes 4 := ⟨(wsG_of 882 (by decide +kernel) rfl), gii_RX5, gcd_X5_writes, by decide, by decide, by decide +kernel⟩
theorem gi_X5_writes : Cond.instanceMethod mX5_writes.1 ∈ wsG := (wsG_of 884 (by decide +kernel) rfl)
theorem gv_X5_writes : Cond.selects RX5 mX5_writes.1 mX5_writes.1 ∈ wsG := (wsG_sel 15 (by decide +kernel) rfl)
theorem lk_RX5_106 : gLk RX5 106 mX5_joined 3 := ⟨(wsG_of 898 (by decide +kernel) rfl), gii_RX5, gcd_X5_joined, by decide, by decide, by decide +kernel⟩
theorem gi_X5_joined : Cond.instanceMethod mX5_joined.1 ∈ wsG := (wsG_of 900 (by decide +kernel) rfl)
theorem gv_X5_joined : Cond.selects RX5 mX5_joined.1 mX5_joined.1 ∈ wsG := (wsG_sel 18 (by decide +kernel) rfl)
theorem lk_RX5_109 : gLk RX5 109 mX5_why 2 := ⟨(wsG_of 910 (by decide +kernel) rfl), gii_RX5, gcd_X5_why, by decide, by decide, by decide +kernel⟩
theorem gi_X5_why : Cond.instanceMethod mX5_why.1 ∈ wsG := (wsG_of 912 (by decide +kernel) rfl)
theorem gv_X5_why : Cond.selects RX5 mX5_why.1 mX5_why.1 ∈ wsG := (wsG_sel 19 (by decide +kernel) rfl)
theorem lk_RX5_121 : gLk RX5 121 mX5_has 4 := ⟨(wsG_of 926 (by decide +kernel) rfl), gii_RX5, gcd_X5_has, by decide, by decide, by decide +kernel⟩
theorem gi_X5_has : Cond.instanceMethod mX5_has.1 ∈ wsG := (wsG_of 928 (by decide +kernel) rfl)
theorem gv_X5_has : Cond.selects RX5 mX5_has.1 mX5_has.1 ∈ wsG := (wsG_sel 21 (by decide +kernel) rfl)
theorem lk_RX5_125 : gLk RX5 125 mX5_adds 1 := ⟨(wsG_of 930 (by decide +kernel) rfl), gii_RX5, gcd_X5_adds, by decide, by decide, by decide +kernel⟩
theorem gi_X5_adds : Cond.instanceMethod mX5_adds.1 ∈ wsG := (wsG_of 932 (by decide +kernel) rfl)
theorem gv_X5_adds : Cond.selects RX5 mX5_adds.1 mX5_adds.1 ∈ wsG := (wsG_sel 22 (by decide +kernel) rfl)
theorem lk_RX5_129 : gLk RX5 129 mX5_tries 3 := ⟨(wsG_of 922 (by decide +kernel) rfl), gii_RX5, gcd_X5_tries, by decide, by decide, by decide +kernel⟩
theorem gi_X5_tries : Cond.instanceMethod mX5_tries.1 ∈ wsG := (wsG_of 924 (by decide +kernel) rfl)
theorem gv_X5_tries : Cond.selects RX5 mX5_tries.1 mX5_tries.1 ∈ wsG := (wsG_sel 20 (by decide +kernel) rfl)
theorem lk_RX5_132 : gLk RX5 132 mX5_pulls 3 := ⟨(wsG_of 934 (by decide +kernel) rfl), gii_RX5, gcd_X5_pulls, by decide, by decide, by decide +kernel⟩
theorem gi_X5_pulls : Cond.instanceMethod mX5_pulls.1 ∈ wsG := (wsG_of 936 (by decide +kernel) rfl)
theorem gv_X5_pulls : Cond.selects RX5 mX5_pulls.1 mX5_pulls.1 ∈ wsG := (wsG_sel 23 (by decide +kernel) rfl)
theorem lk_RX5_145 : gLk RX5 145 mX5_isAt 2 := ⟨(wsG_of 966 (by decide +kernel) rfl), gii_RX5, gcd_X5_isAt, by decide, by decide, by decide +kernel⟩
theorem gi_X5_isAt : Cond.instanceMethod mX5_isAt.1 ∈ wsG := (wsG_of 968 (by decide +kernel) rfl)
theorem gv_X5_isAt : Cond.selects RX5 mX5_isAt.1 mX5_isAt.1 ∈ wsG := (wsG_sel 27 (by decide +kernel) rfl)
theorem lk_RX5_148 : gLk RX5 148 mX5_stops 0 := ⟨(wsG_of 970 (by decide +kernel) rfl), gii_RX5, gcd_X5_stops, by decide, by decide, by decide +kernel⟩
theorem gi_X5_stops : Cond.instanceMethod mX5_stops.1 ∈ wsG := (wsG_of 972 (by decide +kernel) rfl)
theorem gv_X5_stops : Cond.selects RX5 mX5_stops.1 mX5_stops.1 ∈ wsG := (wsG_sel 28 (by decide +kernel) rfl)
theorem lk_RX5_155 : gLk RX5 155 mX5_takes 1 := ⟨(wsG_of 962 (by decide +kernel) rfl), gii_RX5, gcd_X5_takes, by decide, by decide, by decide +kernel⟩
theorem gi_X5_takes : Cond.instanceMethod mX5_takes.1 ∈ wsG := (wsG_of 964 (by decide +kernel) rfl)
theorem gv_X5_takes : Cond.selects RX5 mX5_takes.1 mX5_takes.1 ∈ wsG := (wsG_sel 26 (by decide +kernel) rfl)
theorem lk_RX5_158 : gLk RX5 158 mX5_takesPart 2 := ⟨(wsG_of 974 (by decide +kernel) rfl), gii_RX5, gcd_X5_takesPart, by decide, by decide, by decide +kernel⟩
theorem gi_X5_takesPart : Cond.instanceMethod mX5_takesPart.1 ∈ wsG := (wsG_of 976 (by decide +kernel) rfl)
theorem gv_X5_takesPart : Cond.selects RX5 mX5_takesPart.1 mX5_takesPart.1 ∈ wsG := (wsG_sel 29 (by decide +kernel) rfl)
theorem lk_RX5_161 : gLk RX5 161 mX5_takesValue 0 := ⟨(wsG_of 978 (by decide +kernel) rfl), gii_RX5, gcd_X5_takesValue, by decide, by decide, by decide +kernel⟩
theorem gi_X5_takesValue : Cond.instanceMethod mX5_takesValue.1 ∈ wsG := (wsG_of 980 (by decide +kernel) rfl)
theorem gv_X5_takesValue : Cond.selects RX5 mX5_takesValue.1 mX5_takesValue.1 ∈ wsG := (wsG_sel 30 (by decide +kernel) rfl)
theorem lk_RX5_164 : gLk RX5 164 mX5_takesOne 0 := ⟨(wsG_of 958 (by decide +kernel) rfl), gii_RX5, gcd_X5_takesOne, by decide, by decide, by decide +kernel⟩
theorem gi_X5_takesOne : Cond.instanceMethod mX5_takesOne.1 ∈ wsG := (wsG_of 960 (by decide +kernel) rfl)
theorem gv_X5_takesOne : Cond.selects RX5 mX5_takesOne.1 mX5_takesOne.1 ∈ wsG := (wsG_sel 25 (by decide +kernel) rfl)
theorem lk_RX5_167 : gLk RX5 167 mX5_isText 0 := ⟨(wsG_of 954 (by decide +kernel) rfl), gii_RX5, gcd_X5_isText, by decide, by decide, by decide +kernel⟩
theorem gi_X5_isText : Cond.instanceMethod mX5_isText.1 ∈ wsG := (wsG_of 956 (by decide +kernel) rfl)
theorem gv_X5_isText : Cond.selects RX5 mX5_isText.1 mX5_isText.1 ∈ wsG := (wsG_sel 24 (by decide +kernel) rfl)
theorem lk_RX5_170 : gLk RX5 170 mX5_does 1 := ⟨(wsG_of 986 (by decide +kernel) rfl), gii_RX5, gcd_X5_does, by decide, by decide, by decide +kernel⟩
theorem gi_X5_does : Cond.instanceMethod mX5_does.1 ∈ wsG := (wsG_of 988 (by decide +kernel) rfl)
theorem gv_X5_does : Cond.selects RX5 mX5_does.1 mX5_does.1 ∈ wsG := (wsG_sel 31 (by decide +kernel) rfl)
theorem lk_RX5_173 : gLk RX5 173 mX5_coverers 2 := ⟨(wsG_of 998 (by decide +kernel) rfl), gii_RX5, gcd_X5_coverers, by decide, by decide, by decide +kernel⟩
theorem gi_X5_coverers : Cond.instanceMethod mX5_coverers.1 ∈ wsG := (wsG_of 1000 (by decide +kernel) rfl)
theorem gv_X5_coverers : Cond.selects RX5 mX5_coverers.1 mX5_coverers.1 ∈ wsG := (wsG_sel 33 (by decide +kernel) rfl)
theorem lk_RX5_176 : gLk RX5 176 mX5_holders 2 := ⟨(wsG_of 1002 (by decide +kernel) rfl), gii_RX5, gcd_X5_holders, by decide, by decide, by decide +kernel⟩
theorem gi_X5_holders : Cond.instanceMethod mX5_holders.1 ∈ wsG := (wsG_of 1004 (by decide +kernel) rfl)
theorem gv_X5_holders : Cond.selects RX5 mX5_holders.1 mX5_holders.1 ∈ wsG := (wsG_sel 34 (by decide +kernel) rfl)
theorem lk_RX5_179 : gLk RX5 179 mX5_ofSibling 4 := ⟨(wsG_of 994 (by decide +kernel) rfl), gii_RX5, gcd_X5_ofSibling, by decide, by decide, by decide +kernel⟩
theorem gi_X5_ofSibling : Cond.instanceMethod mX5_ofSibling.1 ∈ wsG := (wsG_of 996 (by decide +kernel) rfl)
theorem gv_X5_ofSibling : Cond.selects RX5 mX5_ofSibling.1 mX5_ofSibling.1 ∈ wsG := (wsG_sel 32 (by decide +kernel) rfl)
theorem lk_RX5_182 : gLk RX5 182 mX5_unlike 1 := ⟨(wsG_of 1022 (by decide +kernel) rfl), gii_RX5, gcd_X5_unlike, by decide, by decide, by decide +kernel⟩
theorem gi_X5_unlike : Cond.instanceMethod mX5_unlike.1 ∈ wsG := (wsG_of 1024 (by decide +kernel) rfl)
theorem gv_X5_unlike : Cond.selects RX5 mX5_unlike.1 mX5_unlike.1 ∈ wsG := (wsG_sel 36 (by decide +kernel) rfl)
theorem lk_RX5_185 : gLk RX5 185 mX5_counts 1 := ⟨(wsG_of 1026 (by decide +kernel) rfl), gii_RX5, gcd_X5_counts, by decide, by decide, by decide +kernel⟩
theorem gi_X5_counts : Cond.instanceMethod mX5_counts.1 ∈ wsG := (wsG_of 1028 (by decide +kernel) rfl)
theorem gv_X5_counts : Cond.selects RX5 mX5_counts.1 mX5_counts.1 ∈ wsG := (wsG_sel 37 (by decide +kernel) rfl)
theorem lk_RX5_188 : gLk RX5 188 mX5_areAlike 3 := ⟨(wsG_of 1030 (by decide +kernel) rfl), gii_RX5, gcd_X5_areAlike, by decide, by decide, by decide +kernel⟩
theorem gi_X5_areAlike : Cond.instanceMethod mX5_areAlike.1 ∈ wsG := (wsG_of 1032 (by decide +kernel) rfl)
theorem gv_X5_areAlike : Cond.selects RX5 mX5_areAlike.1 mX5_areAlike.1 ∈ wsG := (wsG_sel 38 (by decide +kernel) rfl)
theorem lk_RX5_191 : gLk RX5 191 mX5_areVectorsAlike 1 := ⟨(wsG_of 1034 (by decide +kernel) rfl), gii_RX5, gcd_X5_areVectorsAlike, by decide, by decide, by decide +kernel⟩
theorem gi_X5_areVectorsAlike : Cond.instanceMethod mX5_areVectorsAlike.1 ∈ wsG := (wsG_of 1036 (by decide +kernel) rfl)
theorem gv_X5_areVectorsAlike : Cond.selects RX5 mX5_areVectorsAlike.1 mX5_areVectorsAlike.1 ∈ wsG := (wsG_sel 39 (by decide +kernel) rfl)
theorem lk_RX5_194 : gLk RX5 194 mX5_forgettable 1 := ⟨(wsG_of 1038 (by decide +kernel) rfl), gii_RX5, gcd_X5_forgettable, by decide, by decide, by decide +kernel⟩
theorem gi_X5_forgettable : Cond.instanceMethod mX5_forgettable.1 ∈ wsG := (wsG_of 1040 (by decide +kernel) rfl)
theorem gv_X5_forgettable : Cond.selects RX5 mX5_forgettable.1 mX5_forgettable.1 ∈ wsG := (wsG_sel 40 (by decide +kernel) rfl)
theorem lk_RX5_197 : gLk RX5 197 mX5_ofKey 2 := ⟨(wsG_of 1018 (by decide +kernel) rfl), gii_RX5, gcd_X5_ofKey, by decide, by decide, by decide +kernel⟩
theorem gi_X5_ofKey : Cond.instanceMethod mX5_ofKey.1 ∈ wsG := (wsG_of 1020 (by decide +kernel) rfl)
theorem gv_X5_ofKey : Cond.selects RX5 mX5_ofKey.1 mX5_ofKey.1 ∈ wsG := (wsG_sel 35 (by decide +kernel) rfl)
theorem lk_RX5_200 : gLk RX5 200 mX5_counted 1 := ⟨(wsG_of 1046 (by decide +kernel) rfl), gii_RX5, gcd_X5_counted, by decide, by decide, by decide +kernel⟩
theorem gi_X5_counted : Cond.instanceMethod mX5_counted.1 ∈ wsG := (wsG_of 1048 (by decide +kernel) rfl)
theorem gv_X5_counted : Cond.selects RX5 mX5_counted.1 mX5_counted.1 ∈ wsG := (wsG_sel 41 (by decide +kernel) rfl)
theorem lk_RX5_203 : gLk RX5 203 mX5_written 4 := ⟨(wsG_of 1054 (by decide +kernel) rfl), gii_RX5, gcd_X5_written, by decide, by decide, by decide +kernel⟩
theorem gi_X5_written : Cond.instanceMethod mX5_written.1 ∈ wsG := (wsG_of 1056 (by decide +kernel) rfl)
theorem gv_X5_written : Cond.selects RX5 mX5_written.1 mX5_written.1 ∈ wsG := (wsG_sel 42 (by decide +kernel) rfl)
theorem lk_RX5_206 : gLk RX5 206 mX5_pulled 4 := ⟨(wsG_of 1062 (by decide +kernel) rfl), gii_RX5, gcd_X5_pulled, by decide, by decide, by decide +kernel⟩
theorem gi_X5_pulled : Cond.instanceMethod mX5_pulled.1 ∈ wsG := (wsG_of 1064 (by decide +kernel) rfl)
theorem gv_X5_pulled : Cond.selects RX5 mX5_pulled.1 mX5_pulled.1 ∈ wsG := (wsG_sel 43 (by decide +kernel) rfl)
theorem lk_RX5_211 : gLk RX5 211 mX5_agrees 0 := ⟨(wsG_of 1070 (by decide +kernel) rfl), gii_RX5, gcd_X5_agrees, by decide, by decide, by decide +kernel⟩
theorem gi_X5_agrees : Cond.instanceMethod mX5_agrees.1 ∈ wsG := (wsG_of 1072 (by decide +kernel) rfl)
theorem gv_X5_agrees : Cond.selects RX5 mX5_agrees.1 mX5_agrees.1 ∈ wsG := (wsG_sel 44 (by decide +kernel) rfl)
theorem lk_RX5_221 : gLk RX5 221 mX5_mixes 1 := ⟨(wsG_of 1080 (by decide +kernel) rfl), gii_RX5, gcd_X5_mixes, by decide, by decide, by decide +kernel⟩
theorem gi_X5_mixes : Cond.instanceMethod mX5_mixes.1 ∈ wsG := (wsG_of 1082 (by decide +kernel) rfl)
theorem gv_X5_mixes : Cond.selects RX5 mX5_mixes.1 mX5_mixes.1 ∈ wsG := (wsG_sel 45 (by decide +kernel) rfl)
theorem lk_RX5_227 : gLk RX5 227 mX5_mixesKey 1 := ⟨(wsG_of 1085 (by decide +kernel) rfl), gii_RX5, gcd_X5_mixesKey, by decide, by decide, by decide +kernel⟩
theorem gi_X5_mixesKey : Cond.instanceMethod mX5_mixesKey.1 ∈ wsG := (wsG_of 1087 (by decide +kernel) rfl)
theorem gv_X5_mixesKey : Cond.selects RX5 mX5_mixesKey.1 mX5_mixesKey.1 ∈ wsG := (wsG_sel 46 (by decide +kernel) rfl)
theorem lk_RX5_230 : gLk RX5 230 mJxe99ae_doubleToLongBits_ccdee 1 := ⟨(wsG_of 1089 (by decide +kernel) rfl), (wsG_of 19 (by decide +kernel) rfl), gcd_Jxe99ae_doubleToLongBits_ccdee, by decide, by decide, by decide +kernel⟩
theorem gs_Jxe99ae_doubleToLongBits_ccdee : Cond.static mJxe99ae_doubleToLongBits_ccdee.1 ∈ wsG := (wsG_of 1090 (by decide +kernel) rfl)
theorem lk_RL_7 : gLk RL 7 mX4_read 3 := ⟨(wsG_of 404 (by decide +kernel) rfl), gii_RX4, gcd_X4_read, by decide, by decide, by decide +kernel⟩
theorem gi_X4_read : Cond.instanceMethod mX4_read.1 ∈ wsG := (wsG_of 405 (by decide +kernel) rfl)
theorem gv_X4_read : Cond.selects RX4 mX4_read.1 mX4_read.1 ∈ wsG := (wsG_of 406 (by decide +kernel) rfl)
theorem lk_RL_15 : gLk RL 15 mX4_write 4 := ⟨(wsG_of 518 (by decide +kernel) rfl), gii_RX4, gcd_X4_write, by decide, by decide, by decide +kernel⟩
theorem gi_X4_write : Cond.instanceMethod mX4_write.1 ∈ wsG := (wsG_of 519 (by decide +kernel) rfl)
theorem gv_X4_write : Cond.selects RX4 mX4_write.1 mX4_write.1 ∈ wsG := (wsG_of 520 (by decide +kernel) rfl)
theorem lk_RL_23 : gLk RL 23 mX4_pull 3 := ⟨(wsG_of 586 (by decide +kernel) rfl), gii_RX4, gcd_X4_pull, by decide, by decide, by decide +kernel⟩
theorem gi_X4_pull : Cond.instanceMethod mX4_pull.1 ∈ wsG := (wsG_of 587 (by decide +kernel) rfl)
theorem gv_X4_pull : Cond.selects RX4 mX4_pull.1 mX4_pull.1 ∈ wsG := (wsG_of 588 (by decide +kernel) rfl)
theorem lk_RL_26 : gLk RL 26 mX4_join 4 := ⟨(wsG_of 614 (by decide +kernel) rfl), gii_RX4, gcd_X4_join, by decide, by decide, by decide +kernel⟩
theorem gi_X4_join : Cond.instanceMethod mX4_join.1 ∈ wsG := (wsG_of 615 (by decide +kernel) rfl)
theorem gv_X4_join : Cond.selects RX4 mX4_join.1 mX4_join.1 ∈ wsG := (wsG_of 616 (by decide +kernel) rfl)
theorem lk_RL_29 : gLk RL 29 mX4_lose 2 := ⟨(wsG_of 630 (by decide +kernel) rfl), gii_RX4, gcd_X4_lose, by decide, by decide, by decide +kernel⟩
theorem gi_X4_lose : Cond.instanceMethod mX4_lose.1 ∈ wsG := (wsG_of 631 (by decide +kernel) rfl)
theorem gv_X4_lose : Cond.selects RX4 mX4_lose.1 mX4_lose.1 ∈ wsG := (wsG_of 632 (by decide +kernel) rfl)
theorem lk_RL_33 : gLk RL 33 mX4_forget 2 := ⟨(wsG_of 641 (by decide +kernel) rfl), gii_RX4, gcd_X4_forget, by decide, by decide, by decide +kernel⟩
theorem gi_X4_forget : Cond.instanceMethod mX4_forget.1 ∈ wsG := (wsG_of 642 (by decide +kernel) rfl)
theorem gv_X4_forget : Cond.selects RX4 mX4_forget.1 mX4_forget.1 ∈ wsG := (wsG_of 643 (by decide +kernel) rfl)
theorem lk_RL_36 : gLk RL 36 mX4_pullAll 0 := ⟨(wsG_of 653 (by decide +kernel) rfl), gii_RX4, gcd_X4_pullAll, by decide, by decide, by decide +kernel⟩
theorem gi_X4_pullAll : Cond.instanceMethod mX4_pullAll.1 ∈ wsG := (wsG_of 654 (by decide +kernel) rfl)
theorem gv_X4_pullAll : Cond.selects RX4 mX4_pullAll.1 mX4_pullAll.1 ∈ wsG := (wsG_of 655 (by decide +kernel) rfl)
theorem lk_RL_40 : gLk RL 40 mX4_append 1 := ⟨(wsG_of 666 (by decide +kernel) rfl), gii_RX4, gcd_X4_append, by decide, by decide, by decide +kernel⟩
theorem gi_X4_append : Cond.instanceMethod mX4_append.1 ∈ wsG := (wsG_of 667 (by decide +kernel) rfl)
theorem gv_X4_append : Cond.selects RX4 mX4_append.1 mX4_append.1 ∈ wsG := (wsG_of 668 (by decide +kernel) rfl)
theorem lk_RL_44 : gLk RL 44 mX4_runAll 0 := ⟨(wsG_of 675 (by decide +kernel) rfl), gii_RX4, gcd_X4_runAll, by decide, by decide, by decide +kernel⟩
theorem gi_X4_runAll : Cond.instanceMethod mX4_runAll.1 ∈ wsG := (wsG_of 676 (by decide +kernel) rfl)
theorem gv_X4_runAll : Cond.selects RX4 mX4_runAll.1 mX4_runAll.1 ∈ wsG := (wsG_of 677 (by decide +kernel) rfl)
theorem lk_RL_47 : gLk RL 47 mX4_undo 0 := ⟨(wsG_of 692 (by decide +kernel) rfl), gii_RX4, gcd_X4_undo, by decide, by decide, by decide +kernel⟩
theorem gi_X4_undo : Cond.instanceMethod mX4_undo.1 ∈ wsG := (wsG_of 693 (by decide +kernel) rfl)
theorem gv_X4_undo : Cond.selects RX4 mX4_undo.1 mX4_undo.1 ∈ wsG := (wsG_of 694 (by decide +kernel) rfl)
theorem lk_RL_50 : gLk RL 50 mX4_sibling 4 := ⟨(wsG_of 700 (by decide +kernel) rfl), gii_RX4, gcd_X4_sibling, by decide, by decide, by decide +kernel⟩
theorem gi_X4_sibling : Cond.instanceMethod mX4_sibling.1 ∈ wsG := (wsG_of 701 (by decide +kernel) rfl)
theorem gv_X4_sibling : Cond.selects RX4 mX4_sibling.1 mX4_sibling.1 ∈ wsG := (wsG_of 702 (by decide +kernel) rfl)
theorem lk_RL_53 : gLk RL 53 mX4_vector 3 := ⟨(wsG_of 707 (by decide +kernel) rfl), gii_RX4, gcd_X4_vector, by decide, by decide, by decide +kernel⟩
theorem gi_X4_vector : Cond.instanceMethod mX4_vector.1 ∈ wsG := (wsG_of 708 (by decide +kernel) rfl)
theorem gv_X4_vector : Cond.selects RX4 mX4_vector.1 mX4_vector.1 ∈ wsG := (wsG_of 709 (by decide +kernel) rfl)
theorem lk_RL_56 : gLk RL 56 mX4_knows 3 := ⟨(wsG_of 714 (by decide +kernel) rfl), gii_RX4, gcd_X4_knows, by decide, by decide, by decide +kernel⟩
theorem gi_X4_knows : Cond.instanceMethod mX4_knows.1 ∈ wsG := (wsG_of 715 (by decide +kernel) rfl)
theorem gv_X4_knows : Cond.selects RX4 mX4_knows.1 mX4_knows.1 ∈ wsG := (wsG_of 716 (by decide +kernel) rfl)
theorem lk_RL_59 : gLk RL 59 mX4_key 2 := ⟨(wsG_of 721 (by decide +kernel) rfl), gii_RX4, gcd_X4_key, by decide, by decide, by decide +kernel⟩
theorem gi_X4_key : Cond.instanceMethod mX4_key.1 ∈ wsG := (wsG_of 722 (by decide +kernel) rfl)
theorem gv_X4_key : Cond.selects RX4 mX4_key.1 mX4_key.1 ∈ wsG := (wsG_of 723 (by decide +kernel) rfl)
theorem lk_RL_62 : gLk RL 62 mX4_count 1 := ⟨(wsG_of 728 (by decide +kernel) rfl), gii_RX4, gcd_X4_count, by decide, by decide, by decide +kernel⟩
theorem gi_X4_count : Cond.instanceMethod mX4_count.1 ∈ wsG := (wsG_of 729 (by decide +kernel) rfl)
theorem gv_X4_count : Cond.selects RX4 mX4_count.1 mX4_count.1 ∈ wsG := (wsG_of 730 (by decide +kernel) rfl)
theorem lk_RL_65 : gLk RL 65 mX4_ifWritten 4 := ⟨(wsG_of 735 (by decide +kernel) rfl), gii_RX4, gcd_X4_ifWritten, by decide, by decide, by decide +kernel⟩
theorem gi_X4_ifWritten : Cond.instanceMethod mX4_ifWritten.1 ∈ wsG := (wsG_of 736 (by decide +kernel) rfl)
theorem gv_X4_ifWritten : Cond.selects RX4 mX4_ifWritten.1 mX4_ifWritten.1 ∈ wsG := (wsG_of 737 (by decide +kernel) rfl)
theorem lk_RL_68 : gLk RL 68 mX4_ifPulled 4 := ⟨(wsG_of 742 (by decide +kernel) rfl), gii_RX4, gcd_X4_ifPulled, by decide, by decide, by decide +kernel⟩
theorem gi_X4_ifPulled : Cond.instanceMethod mX4_ifPulled.1 ∈ wsG := (wsG_of 743 (by decide +kernel) rfl)
theorem gv_X4_ifPulled : Cond.selects RX4 mX4_ifPulled.1 mX4_ifPulled.1 ∈ wsG := (wsG_of 744 (by decide +kernel) rfl)
theorem lk_RL_71 : gLk RL 71 mX4_whyNot 2 := ⟨(wsG_of 749 (by decide +kernel) rfl), gii_RX4, gcd_X4_whyNot, by decide, by decide, by decide +kernel⟩
theorem gi_X4_whyNot : Cond.instanceMethod mX4_whyNot.1 ∈ wsG := (wsG_of 750 (by decide +kernel) rfl)
theorem gv_X4_whyNot : Cond.selects RX4 mX4_whyNot.1 mX4_whyNot.1 ∈ wsG := (wsG_of 751 (by decide +kernel) rfl)
theorem lk_RL_74 : gLk RL 74 mX4_init 0 := ⟨(wsG_of 22 (by decide +kernel) rfl), gii_RX4, gcd_X4_init, by decide, by decide, by decide +kernel⟩
theorem gi_X4_init : Cond.instanceMethod mX4_init.1 ∈ wsG := (wsG_of 23 (by decide +kernel) rfl)
theorem lk_RL_77 : gLk RL 77 mX5_init 0 := ⟨(wsG_of 755 (by decide +kernel) rfl), gii_RX5, gcd_X5_init, by decide, by decide, by decide +kernel⟩
theorem gi_X5_init : Cond.instanceMethod mX5_init.1 ∈ wsG := (wsG_of 756 (by decide +kernel) rfl)
theorem gs_L_read : Cond.static mL_read.1 ∈ wsG := (wsG_of 401 (by decide +kernel) rfl)
theorem lk_RL_83 : gLk RL 83 mX5_read 3 := ⟨(wsG_of 820 (by decide +kernel) rfl), gii_RX5, gcd_X5_read, by decide, by decide, by decide +kernel⟩
theorem gi_X5_read : Cond.instanceMethod mX5_read.1 ∈ wsG := (wsG_of 821 (by decide +kernel) rfl)
theorem gv_X5_read : Cond.selects RX5 mX5_read.1 mX5_read.1 ∈ wsG := (wsG_of 822 (by decide +kernel) rfl)
theorem lk_RL_84 : gLk RL 84 mX5_thrown 0 := ⟨(wsG_of 808 (by decide +kernel) rfl), gii_RX5, gcd_X5_thrown, by decide, by decide, by decide +kernel⟩
theorem gi_X5_thrown : Cond.instanceMethod mX5_thrown.1 ∈ wsG := (wsG_of 809 (by decide +kernel) rfl)
theorem gv_X5_thrown : Cond.selects RX5 mX5_thrown.1 mX5_thrown.1 ∈ wsG := (wsG_of 810 (by decide +kernel) rfl)
theorem gs_L_write : Cond.static mL_write.1 ∈ wsG := (wsG_of 514 (by decide +kernel) rfl)
theorem lk_RL_90 : gLk RL 90 mX5_write 4 := ⟨(wsG_of 860 (by decide +kernel) rfl), gii_RX5, gcd_X5_write, by decide, by decide, by decide +kernel⟩
theorem gi_X5_write : Cond.instanceMethod mX5_write.1 ∈ wsG := (wsG_of 861 (by decide +kernel) rfl)
theorem gv_X5_write : Cond.selects RX5 mX5_write.1 mX5_write.1 ∈ wsG := (wsG_of 862 (by decide +kernel) rfl)
theorem gs_L_pull : Cond.static mL_pull.1 ∈ wsG := (wsG_of 584 (by decide +kernel) rfl)
theorem lk_RL_93 : gLk RL 93 mX5_pull 3 := ⟨(wsG_of 918 (by decide +kernel) rfl), gii_RX5, gcd_X5_pull, by decide, by decide, by decide +kernel⟩
theorem gi_X5_pull : Cond.instanceMethod mX5_pull.1 ∈ wsG := (wsG_of 919 (by decide +kernel) rfl)
theorem gv_X5_pull : Cond.selects RX5 mX5_pull.1 mX5_pull.1 ∈ wsG := (wsG_of 920 (by decide +kernel) rfl)
theorem gs_L_join : Cond.static mL_join.1 ∈ wsG := (wsG_of 612 (by decide +kernel) rfl)
theorem lk_RL_96 : gLk RL 96 mX5_join 4 := ⟨(wsG_of 894 (by decide +kernel) rfl), gii_RX5, gcd_X5_join, by decide, by decide, by decide +kernel⟩
theorem gi_X5_join : Cond.instanceMethod mX5_join.1 ∈ wsG := (wsG_of 895 (by decide +kernel) rfl)
theorem gv_X5_join : Cond.selects RX5 mX5_join.1 mX5_join.1 ∈ wsG := (wsG_of 896 (by decide +kernel) rfl)
theorem gs_L_lose : Cond.static mL_lose.1 ∈ wsG := (wsG_of 628 (by decide +kernel) rfl)
theorem lk_RL_100 : gLk RL 100 mX5_lose 2 := ⟨(wsG_of 902 (by decide +kernel) rfl), gii_RX5, gcd_X5_lose, by decide, by decide, by decide +kernel⟩
theorem gi_X5_lose : Cond.instanceMethod mX5_lose.1 ∈ wsG := (wsG_of 903 (by decide +kernel) rfl)
theorem gv_X5_lose : Cond.selects RX5 mX5_lose.1 mX5_lose.1 ∈ wsG := (wsG_of 904 (by decide +kernel) rfl)
theorem gs_L_forget : Cond.static mL_forget.1 ∈ wsG := (wsG_of 639 (by decide +kernel) rfl)
theorem lk_RL_103 : gLk RL 103 mX5_forget 2 := ⟨(wsG_of 914 (by decide +kernel) rfl), gii_RX5, gcd_X5_forget, by decide, by decide, by decide +kernel⟩
theorem gi_X5_forget : Cond.instanceMethod mX5_forget.1 ∈ wsG := (wsG_of 915 (by decide +kernel) rfl)
theorem gv_X5_forget : Cond.selects RX5 mX5_forget.1 mX5_forget.1 ∈ wsG := (wsG_of 916 (by decide +kernel) rfl)
theorem gs_L_pullAll : Cond.static mL_pullAll.1 ∈ wsG := (wsG_of 651 (by decide +kernel) rfl)
theorem lk_RL_107 : gLk RL 107 mX5_pullAll 0 := ⟨(wsG_of 938 (by decide +kernel) rfl), gii_RX5, gcd_X5_pullAll, by decide, by decide, by decide +kernel⟩
theorem gi_X5_pullAll : Cond.instanceMethod mX5_pullAll.1 ∈ wsG := (wsG_of 939 (by decide +kernel) rfl)
theorem gv_X5_pullAll : Cond.selects RX5 mX5_pullAll.1 mX5_pullAll.1 ∈ wsG := (wsG_of 940 (by decide +kernel) rfl)
theorem gs_L_append : Cond.static mL_append.1 ∈ wsG := (wsG_of 664 (by decide +kernel) rfl)
theorem lk_RL_111 : gLk RL 111 mX5_append 1 := ⟨(wsG_of 942 (by decide +kernel) rfl), gii_RX5, gcd_X5_append, by decide, by decide, by decide +kernel⟩
theorem gi_X5_append : Cond.instanceMethod mX5_append.1 ∈ wsG := (wsG_of 943 (by decide +kernel) rfl)
theorem gv_X5_append : Cond.selects RX5 mX5_append.1 mX5_append.1 ∈ wsG := (wsG_of 944 (by decide +kernel) rfl)
theorem lk_RL_112 : gLk RL 112 mX4_clearBuffer 0 := ⟨(wsG_of 163 (by decide +kernel) rfl), gii_RX4, gcd_X4_clearBuffer, by decide, by decide, by decide +kernel⟩
theorem gi_X4_clearBuffer : Cond.instanceMethod mX4_clearBuffer.1 ∈ wsG := (wsG_of 164 (by decide +kernel) rfl)
theorem gv_X4_clearBuffer : Cond.selects RX4 mX4_clearBuffer.1 mX4_clearBuffer.1 ∈ wsG := (wsG_of 165 (by decide +kernel) rfl)
theorem lk_RL_115 : gLk RL 115 mX5_clearBuffer 0 := ⟨(wsG_of 946 (by decide +kernel) rfl), gii_RX5, gcd_X5_clearBuffer, by decide, by decide, by decide +kernel⟩
theorem gi_X5_clearBuffer : Cond.instanceMethod mX5_clearBuffer.1 ∈ wsG := (wsG_of 947 (by decide +kernel) rfl)
theorem gv_X5_clearBuffer : Cond.selects RX5 mX5_clearBuffer.1 mX5_clearBuffer.1 ∈ wsG := (wsG_of 948 (by decide +kernel) rfl)
theorem lk_RL_116 : gLk RL 116 mX4_firstError 0 := ⟨(wsG_of 167 (by decide +kernel) rfl), gii_RX4, gcd_X4_firstError, by decide, by decide, by decide +kernel⟩
theorem gi_X4_firstError : Cond.instanceMethod mX4_firstError.1 ∈ wsG := (wsG_of 168 (by decide +kernel) rfl)
theorem gv_X4_firstError : Cond.selects RX4 mX4_firstError.1 mX4_firstError.1 ∈ wsG := (wsG_of 169 (by decide +kernel) rfl)
theorem lk_RL_119 : gLk RL 119 mX5_firstError 0 := ⟨(wsG_of 950 (by decide +kernel) rfl), gii_RX5, gcd_X5_firstError, by decide, by decide, by decide +kernel⟩
theorem gi_X5_firstError : Cond.instanceMethod mX5_firstError.1 ∈ wsG := (wsG_of 951 (by decide +kernel) rfl)
theorem gv_X5_firstError : Cond.selects RX5 mX5_firstError.1 mX5_firstError.1 ∈ wsG := (wsG_of 952 (by decide +kernel) rfl)
theorem gs_L_runAll : Cond.static mL_runAll.1 ∈ wsG := (wsG_of 673 (by decide +kernel) rfl)
theorem lk_RL_122 : gLk RL 122 mX5_runAll 0 := ⟨(wsG_of 982 (by decide +kernel) rfl), gii_RX5, gcd_X5_runAll, by decide, by decide, by decide +kernel⟩
theorem gi_X5_runAll : Cond.instanceMethod mX5_runAll.1 ∈ wsG := (wsG_of 983 (by decide +kernel) rfl)
theorem gv_X5_runAll : Cond.selects RX5 mX5_runAll.1 mX5_runAll.1 ∈ wsG := (wsG_of 984 (by decide +kernel) rfl)
theorem gs_L_undo : Cond.static mL_undo.1 ∈ wsG := (wsG_of 690 (by decide +kernel) rfl)
theorem lk_RL_125 : gLk RL 125 mX5_undo 0 := ⟨(wsG_of 812 (by decide +kernel) rfl), gii_RX5, gcd_X5_undo, by decide, by decide, by decide +kernel⟩
theorem gi_X5_undo : Cond.instanceMethod mX5_undo.1 ∈ wsG := (wsG_of 813 (by decide +kernel) rfl)
theorem gv_X5_undo : Cond.selects RX5 mX5_undo.1 mX5_undo.1 ∈ wsG := (wsG_of 814 (by decide +kernel) rfl)
theorem gs_L_sibling : Cond.static mL_sibling.1 ∈ wsG := (wsG_of 698 (by decide +kernel) rfl)
theorem lk_RL_128 : gLk RL 128 mX5_sibling 4 := ⟨(wsG_of 990 (by decide +kernel) rfl), gii_RX5, gcd_X5_sibling, by decide, by decide, by decide +kernel⟩
theorem gi_X5_sibling : Cond.instanceMethod mX5_sibling.1 ∈ wsG := (wsG_of 991 (by decide +kernel) rfl)
theorem gv_X5_sibling : Cond.selects RX5 mX5_sibling.1 mX5_sibling.1 ∈ wsG := (wsG_of 992 (by decide +kernel) rfl)
theorem gs_L_vector : Cond.static mL_vector.1 ∈ wsG := (wsG_of 705 (by decide +kernel) rfl)
theorem lk_RL_131 : gLk RL 131 mX5_vector 3 := ⟨(wsG_of 1006 (by decide +kernel) rfl), gii_RX5, gcd_X5_vector, by decide, by decide, by decide +kernel⟩
theorem gi_X5_vector : Cond.instanceMethod mX5_vector.1 ∈ wsG := (wsG_of 1007 (by decide +kernel) rfl)
theorem gv_X5_vector : Cond.selects RX5 mX5_vector.1 mX5_vector.1 ∈ wsG := (wsG_of 1008 (by decide +kernel) rfl)
theorem gs_L_knows : Cond.static mL_knows.1 ∈ wsG := (wsG_of 712 (by decide +kernel) rfl)
theorem lk_RL_134 : gLk RL 134 mX5_knows 3 := ⟨(wsG_of 1010 (by decide +kernel) rfl), gii_RX5, gcd_X5_knows, by decide, by decide, by decide +kernel⟩
theorem gi_X5_knows : Cond.instanceMethod mX5_knows.1 ∈ wsG := (wsG_of 1011 (by decide +kernel) rfl)
theorem gv_X5_knows : Cond.selects RX5 mX5_knows.1 mX5_knows.1 ∈ wsG := (wsG_of 1012 (by decide +kernel) rfl)
theorem gs_L_key : Cond.static mL_key.1 ∈ wsG := (wsG_of 719 (by decide +kernel) rfl)
theorem lk_RL_137 : gLk RL 137 mX5_key 2 := ⟨(wsG_of 1014 (by decide +kernel) rfl), gii_RX5, gcd_X5_key, by decide, by decide, by decide +kernel⟩
theorem gi_X5_key : Cond.instanceMethod mX5_key.1 ∈ wsG := (wsG_of 1015 (by decide +kernel) rfl)
theorem gv_X5_key : Cond.selects RX5 mX5_key.1 mX5_key.1 ∈ wsG := (wsG_of 1016 (by decide +kernel) rfl)
theorem gs_L_count : Cond.static mL_count.1 ∈ wsG := (wsG_of 726 (by decide +kernel) rfl)
theorem lk_RL_140 : gLk RL 140 mX5_count 1 := ⟨(wsG_of 1042 (by decide +kernel) rfl), gii_RX5, gcd_X5_count, by decide, by decide, by decide +kernel⟩
theorem gi_X5_count : Cond.instanceMethod mX5_count.1 ∈ wsG := (wsG_of 1043 (by decide +kernel) rfl)
theorem gv_X5_count : Cond.selects RX5 mX5_count.1 mX5_count.1 ∈ wsG := (wsG_of 1044 (by decide +kernel) rfl)
theorem gs_L_ifWritten : Cond.static mL_ifWritten.1 ∈ wsG := (wsG_of 733 (by decide +kernel) rfl)
theorem lk_RL_143 : gLk RL 143 mX5_ifWritten 4 := ⟨(wsG_of 1050 (by decide +kernel) rfl), gii_RX5, gcd_X5_ifWritten, by decide, by decide, by decide +kernel⟩
theorem gi_X5_ifWritten : Cond.instanceMethod mX5_ifWritten.1 ∈ wsG := (wsG_of 1051 (by decide +kernel) rfl)
theorem gv_X5_ifWritten : Cond.selects RX5 mX5_ifWritten.1 mX5_ifWritten.1 ∈ wsG := (wsG_of 1052 (by decide +kernel) rfl)
theorem gs_L_ifPulled : Cond.static mL_ifPulled.1 ∈ wsG := (wsG_of 740 (by decide +kernel) rfl)
theorem lk_RL_146 : gLk RL 146 mX5_ifPulled 4 := ⟨(wsG_of 1058 (by decide +kernel) rfl), gii_RX5, gcd_X5_ifPulled, by decide, by decide, by decide +kernel⟩
theorem gi_X5_ifPulled : Cond.instanceMethod mX5_ifPulled.1 ∈ wsG := (wsG_of 1059 (by decide +kernel) rfl)
theorem gv_X5_ifPulled : Cond.selects RX5 mX5_ifPulled.1 mX5_ifPulled.1 ∈ wsG := (wsG_of 1060 (by decide +kernel) rfl)
theorem gs_L_whyNot : Cond.static mL_whyNot.1 ∈ wsG := (wsG_of 747 (by decide +kernel) rfl)
theorem lk_RL_149 : gLk RL 149 mX5_whyNot 2 := ⟨(wsG_of 906 (by decide +kernel) rfl), gii_RX5, gcd_X5_whyNot, by decide, by decide, by decide +kernel⟩
theorem gi_X5_whyNot : Cond.instanceMethod mX5_whyNot.1 ∈ wsG := (wsG_of 907 (by decide +kernel) rfl)
theorem gv_X5_whyNot : Cond.selects RX5 mX5_whyNot.1 mX5_whyNot.1 ∈ wsG := (wsG_of 908 (by decide +kernel) rfl)
theorem lk_RL_150 : gLk RL 150 mX4_agreement 0 := ⟨(wsG_of 255 (by decide +kernel) rfl), gii_RX4, gcd_X4_agreement, by decide, by decide, by decide +kernel⟩
theorem gi_X4_agreement : Cond.instanceMethod mX4_agreement.1 ∈ wsG := (wsG_of 256 (by decide +kernel) rfl)
theorem gv_X4_agreement : Cond.selects RX4 mX4_agreement.1 mX4_agreement.1 ∈ wsG := (wsG_of 257 (by decide +kernel) rfl)
theorem lk_RL_154 : gLk RL 154 mX5_agreement 0 := ⟨(wsG_of 1066 (by decide +kernel) rfl), gii_RX5, gcd_X5_agreement, by decide, by decide, by decide +kernel⟩
theorem gi_X5_agreement : Cond.instanceMethod mX5_agreement.1 ∈ wsG := (wsG_of 1067 (by decide +kernel) rfl)
theorem gv_X5_agreement : Cond.selects RX5 mX5_agreement.1 mX5_agreement.1 ∈ wsG := (wsG_of 1068 (by decide +kernel) rfl)
theorem lk_RL_155 : gLk RL 155 mX4_digest 0 := ⟨(wsG_of 272 (by decide +kernel) rfl), gii_RX4, gcd_X4_digest, by decide, by decide, by decide +kernel⟩
theorem gi_X4_digest : Cond.instanceMethod mX4_digest.1 ∈ wsG := (wsG_of 273 (by decide +kernel) rfl)
theorem gv_X4_digest : Cond.selects RX4 mX4_digest.1 mX4_digest.1 ∈ wsG := (wsG_of 274 (by decide +kernel) rfl)
theorem lk_RL_159 : gLk RL 159 mX5_digest 0 := ⟨(wsG_of 1075 (by decide +kernel) rfl), gii_RX5, gcd_X5_digest, by decide, by decide, by decide +kernel⟩
theorem gi_X5_digest : Cond.instanceMethod mX5_digest.1 ∈ wsG := (wsG_of 1076 (by decide +kernel) rfl)
theorem gv_X5_digest : Cond.selects RX5 mX5_digest.1 mX5_digest.1 ∈ wsG := (wsG_of 1077 (by decide +kernel) rfl)
theorem cl_RX1_9 : Cond.classLink RX1 9 "SiblingJoins$Copy" ∈ wsG := (wsG_of 41 (by decide +kernel) rfl)
theorem cl_RX1_17 : Cond.classLink RX1 17 "[[I" ∈ wsG := (wsG_of 43 (by decide +kernel) rfl)
theorem cl_RX3_9 : Cond.classLink RX3 9 "SiblingJoins$KeyState" ∈ wsG := (wsG_of 34 (by decide +kernel) rfl)
theorem cl_RX4_7 : Cond.classLink RX4 7 "SiblingJoins$State" ∈ wsG := (wsG_of 28 (by decide +kernel) rfl)
theorem ld_RX4_185 : Cond.constantLong RX4 185 (2719 : Int64) ∈ wsG := (wsG_of 276 (by decide +kernel) rfl)
theorem ld_RX4_252 : Cond.constantDouble RX4 252 (4621256167635550208 : UInt64) ∈ wsG := (wsG_of 271 (by decide +kernel) rfl)
theorem ld_RX4_254 : Cond.constantLong RX4 254 (31 : Int64) ∈ wsG := (wsG_of 295 (by decide +kernel) rfl)
theorem ld_RX4_264 : Cond.constantLong RX4 264 (1023 : Int64) ∈ wsG := (wsG_of 397 (by decide +kernel) rfl)
theorem ld_RX4_266 : Cond.constantDouble RX4 266 (4611686018427387904 : UInt64) ∈ wsG := (wsG_of 398 (by decide +kernel) rfl)
theorem ld_RX4_268 : Cond.constantLong RX4 268 (4503599627370496 : Int64) ∈ wsG := (wsG_of 399 (by decide +kernel) rfl)
theorem ld_RX5_209 : Cond.constantDouble RX5 209 (4621256167635550208 : UInt64) ∈ wsG := (wsG_of 1074 (by decide +kernel) rfl)
theorem ld_RX5_215 : Cond.constantLong RX5 215 (31 : Int64) ∈ wsG := (wsG_of 1084 (by decide +kernel) rfl)
theorem ld_RX5_225 : Cond.constantLong RX5 225 (2719 : Int64) ∈ wsG := (wsG_of 1079 (by decide +kernel) rfl)
/-- the words of a throw: 'new X(text)' -/
def gNm : List String := ["java/lang/RuntimeException", "java/lang/Exception"]
def gTh (ik ic : Nat) (X : String) : Prop := Bundle.fit X = true ∧ Cond.classLink RX4 ik X ∈ wsG ∧ Cond.initialized X ∈ wsG ∧ (∀ w ∈ (vx_atS RX4 ic X gNm).filter goodWord, w ∈ wsG) ∧ (∀ w ∈ (vx_atS RX4 ic X gNm).filter (fun w => !goodWord w), w ∈ gNest) ∧ (∀ w ∈ Cond.classLink RX4 ik X :: Cond.initialized X :: vx_atS RX4 ic X gNm, vx_ot w = true)
theorem gth_o_t : ∀ w ∈ (vx_atS RX4 203 "java/lang/IndexOutOfBoundsException" gNm).filter goodWord, w ∈ lw_tbl := by decide +kernel
theorem gth_o : gTh 199 203 "java/lang/IndexOutOfBoundsException" := ⟨by decide +kernel, (wsG_of 414 (by decide +kernel) rfl), (wsG_of 10 (by decide +kernel) rfl), fun w h => List.mem_filter.mpr ⟨gth_o_t w h, (List.mem_filter.mp h).2⟩, by decide +kernel, by decide +kernel⟩
theorem gth_s_t : ∀ w ∈ (vx_atS RX4 72 "java/lang/IllegalStateException" gNm).filter goodWord, w ∈ lw_tbl := by decide +kernel
theorem gth_s : gTh 68 72 "java/lang/IllegalStateException" := ⟨by decide +kernel, (wsG_of 546 (by decide +kernel) rfl), (wsG_of 14 (by decide +kernel) rfl), fun w h => List.mem_filter.mpr ⟨gth_s_t w h, (List.mem_filter.mp h).2⟩, by decide +kernel, by decide +kernel⟩
theorem gth_a_t : ∀ w ∈ (vx_atS RX4 136 "java/lang/IllegalArgumentException" gNm).filter goodWord, w ∈ lw_tbl := by decide +kernel
theorem gth_a : gTh 132 136 "java/lang/IllegalArgumentException" := ⟨by decide +kernel, (wsG_of 525 (by decide +kernel) rfl), (wsG_of 13 (by decide +kernel) rfl), fun w h => List.mem_filter.mpr ⟨gth_a_t w h, (List.mem_filter.mp h).2⟩, by decide +kernel, by decide +kernel⟩
theorem gNest_use {E : gEnv} {F : gFr} {t : gMt} (C : gC E F t) : ∀ w ∈ gNest, w.before F.2.2.2.2.1 F.2.2.1 = true := by
  intro w hw
  have h1 := C.2.2.2.2.2.1.2.1 w hw
  simp only [gNest, List.mem_cons, List.not_mem_nil, or_false] at hw
  rcases hw with rfl | rfl | rfl | rfl | rfl | rfl | rfl | rfl | rfl | rfl | rfl | rfl | rfl | rfl | rfl | rfl <;> exact va_Nw.use rfl h1
theorem g_throw {E : gEnv} {F : gFr} {t : gMt} {n : Nat} {σ : Option Nat} {h : gH} {kc ks pc : Nat} {L : List (Nat × Value)} {st : List Value} {is ik ic i : Nat} {X text : String} {QR : gQt} {QX : String → gH → Prop} (C : gC E F t) (hl : E.1.stackTraces = false) (ho : t.1.cls = RX4) (th : gTh ik ic X) (hs : gStr[i]? = some (RX4, is, text))
    (d0 : decode (gCode t) pc = .ok (.new ik, 3)) (d3 : decode (gCode t) (pc + 3) = .ok (.dup, 1)) (d4 : decode (gCode t) (pc + 4) = .ok (.ldc is, 2)) (d6 : decode (gCode t) (pc + 6) = .ok (.invokespecial ic, 3)) (d9 : decode (gCode t) (pc + 9) = .ok (.athrow, 1))
    (hfr : 5 < gFrs t) (hlo : (st.map fun v => v.category).sum + 82 ≤ gLo t) (hk1 : kc + 1 ≤ gMc t) (hk2 : ks + 6 ≤ gMs t) (hx : QX X h) : G E F t (gQ E F t n QR QX) n σ h kc ks pc L st := by
  intro H locs ls a1 a3 a4 a5
  obtain ⟨t1, t2, t3, t4, t5, t6⟩ := th
  refine vx_throwS (A := gA E) C.1 C.2.1 hl (own := RX4) (cls := X) (text := text) (names := gNm) (ho ▸ C.2.2.2.1) t1 (by decide +kernel) (C.2.2.2.2.1 _ t2) (C.2.2.2.2.1 _ t3) (C.2.2.2.2.2.1.2.2.1 i _ hs) (vx_hat (fun w hw => C.2.2.2.2.1 _ (t4 w hw)) t5 (gNest_use C)) t6 C.2.2.2.2.2.1.2.2.2.1 C.2.2.2.2.2.1.2.2.2.2.1 a4 (a5.1.trans C.2.2.1.symm) d0 d3 d4 d6 d9 (fun x hx9 => (C.2.2.2.2.2.2.2.2.2.1 x hx9).elim) hfr hlo ?_ ?_ C.2.2.2.2.2.2.1 (fun t9 _ hz hk => ⟨⟨h, hx, ?_⟩, hz9 a4 hz hk⟩) a4.2.2 hk1 hk2
  · exact hk1
  · exact hk2
  · exact va_P.kept a3 (fun k q hq => hk _ ((a3 k q hq).lt))
  where hz9 {A : Nat → Prop} {s t9 : State} {H : Heap} {locs : List Loc} (a4 : va_S A s.heap H locs) (hz : H.size ≤ t9.heap.size) (hk : ∀ q : Nat, q < H.size → t9.heap[q]? = H[q]?) : va_F A s t9 := ⟨Nat.le_trans a4.1 hz, fun q h1 h2 => (hk q (Nat.lt_of_lt_of_le h1 a4.1)).trans (a4.2.1 q h1 h2)⟩
