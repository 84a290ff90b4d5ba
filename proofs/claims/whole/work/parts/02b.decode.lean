theorem dX5_init_0 : decode cX5_init 0 = .ok (.aload_n 0, 1) := by decide +kernel
theorem dX5_init_1 : decode cX5_init 1 = .ok (.invokespecial 1, 3) := by decide +kernel
theorem dX5_init_4 : decode cX5_init 4 = .ok (.aload_n 0, 1) := by decide +kernel
theorem dX5_init_5 : decode cX5_init 5 = .ok (.sipush 311, 3) := by decide +kernel
theorem dX5_init_8 : decode cX5_init 8 = .ok (.newarray .int, 2) := by decide +kernel
theorem dX5_init_10 : decode cX5_init 10 = .ok (.putfield 7, 3) := by decide +kernel
theorem dX5_init_13 : decode cX5_init 13 = .ok (.aload_n 0, 1) := by decide +kernel
theorem dX5_init_14 : decode cX5_init 14 = .ok (.sipush 311, 3) := by decide +kernel
theorem dX5_init_17 : decode cX5_init 17 = .ok (.newarray .int, 2) := by decide +kernel
theorem dX5_init_19 : decode cX5_init 19 = .ok (.putfield 13, 3) := by decide +kernel
theorem dX5_init_22 : decode cX5_init 22 = .ok (.aload_n 0, 1) := by decide +kernel
theorem dX5_init_23 : decode cX5_init 23 = .ok (.sipush 1866, 3) := by decide +kernel
theorem dX5_init_26 : decode cX5_init 26 = .ok (.newarray .int, 2) := by decide +kernel
theorem dX5_init_28 : decode cX5_init 28 = .ok (.putfield 16, 3) := by decide +kernel
theorem dX5_init_31 : decode cX5_init 31 = .ok (.aload_n 0, 1) := by decide +kernel
theorem dX5_init_32 : decode cX5_init 32 = .ok (.bipush 60, 2) := by decide +kernel
theorem dX5_init_34 : decode cX5_init 34 = .ok (.newarray .int, 2) := by decide +kernel
theorem dX5_init_36 : decode cX5_init 36 = .ok (.putfield 19, 3) := by decide +kernel
theorem dX5_init_39 : decode cX5_init 39 = .ok (.aload_n 0, 1) := by decide +kernel
theorem dX5_init_40 : decode cX5_init 40 = .ok (.bipush 36, 2) := by decide +kernel
theorem dX5_init_42 : decode cX5_init 42 = .ok (.newarray .int, 2) := by decide +kernel
theorem dX5_init_44 : decode cX5_init 44 = .ok (.putfield 22, 3) := by decide +kernel
theorem dX5_init_47 : decode cX5_init 47 = .ok (.aload_n 0, 1) := by decide +kernel
theorem dX5_init_48 : decode cX5_init 48 = .ok (.bipush 60, 2) := by decide +kernel
theorem dX5_init_50 : decode cX5_init 50 = .ok (.newarray .int, 2) := by decide +kernel
theorem dX5_init_52 : decode cX5_init 52 = .ok (.putfield 25, 3) := by decide +kernel
theorem dX5_init_55 : decode cX5_init 55 = .ok (.aload_n 0, 1) := by decide +kernel
theorem dX5_init_56 : decode cX5_init 56 = .ok (.iconst 0, 1) := by decide +kernel
theorem dX5_init_57 : decode cX5_init 57 = .ok (.putfield 28, 3) := by decide +kernel
theorem dX5_init_60 : decode cX5_init 60 = .ok (.return_, 1) := by decide +kernel
theorem dX5_thrown_0 : decode cX5_thrown 0 = .ok (.aload_n 0, 1) := by decide +kernel
theorem dX5_thrown_1 : decode cX5_thrown 1 = .ok (.getfield 32, 3) := by decide +kernel
theorem dX5_thrown_4 : decode cX5_thrown 4 = .ok (.ireturn, 1) := by decide +kernel
theorem dX5_fails_0 : decode cX5_fails 0 = .ok (.aload_n 0, 1) := by decide +kernel
theorem dX5_fails_1 : decode cX5_fails 1 = .ok (.iload_n 1, 1) := by decide +kernel
theorem dX5_fails_2 : decode cX5_fails 2 = .ok (.putfield 32, 3) := by decide +kernel
theorem dX5_fails_5 : decode cX5_fails 5 = .ok (.iconst 0, 1) := by decide +kernel
theorem dX5_fails_6 : decode cX5_fails 6 = .ok (.ireturn, 1) := by decide +kernel
theorem dX5_in_0 : decode cX5_in 0 = .ok (.iload_n 0, 1) := by decide +kernel
theorem dX5_in_1 : decode cX5_in 1 = .ok (.iload_n 1, 1) := by decide +kernel
theorem dX5_in_2 : decode cX5_in 2 = .ok (.if_icmp .lt 12, 3) := by decide +kernel
theorem dX5_in_5 : decode cX5_in 5 = .ok (.iload_n 0, 1) := by decide +kernel
theorem dX5_in_6 : decode cX5_in 6 = .ok (.iload_n 2, 1) := by decide +kernel
theorem dX5_in_7 : decode cX5_in 7 = .ok (.if_icmp .gt 7, 3) := by decide +kernel
theorem dX5_in_10 : decode cX5_in 10 = .ok (.iconst 1, 1) := by decide +kernel
theorem dX5_in_11 : decode cX5_in 11 = .ok (.goto 4, 3) := by decide +kernel
theorem dX5_in_14 : decode cX5_in 14 = .ok (.iconst 0, 1) := by decide +kernel
theorem dX5_in_15 : decode cX5_in 15 = .ok (.ireturn, 1) := by decide +kernel
theorem dX5_isWriter_0 : decode cX5_isWriter 0 = .ok (.iload_n 0, 1) := by decide +kernel
theorem dX5_isWriter_1 : decode cX5_isWriter 1 = .ok (.iconst 0, 1) := by decide +kernel
theorem dX5_isWriter_2 : decode cX5_isWriter 2 = .ok (.iconst 4, 1) := by decide +kernel
theorem dX5_isWriter_3 : decode cX5_isWriter 3 = .ok (.invokestatic 35, 3) := by decide +kernel
theorem dX5_isWriter_6 : decode cX5_isWriter 6 = .ok (.ireturn, 1) := by decide +kernel
theorem dX5_isStore_0 : decode cX5_isStore 0 = .ok (.iload_n 0, 1) := by decide +kernel
theorem dX5_isStore_1 : decode cX5_isStore 1 = .ok (.iconst 0, 1) := by decide +kernel
theorem dX5_isStore_2 : decode cX5_isStore 2 = .ok (.iconst 2, 1) := by decide +kernel
theorem dX5_isStore_3 : decode cX5_isStore 3 = .ok (.invokestatic 35, 3) := by decide +kernel
theorem dX5_isStore_6 : decode cX5_isStore 6 = .ok (.ireturn, 1) := by decide +kernel
theorem dX5_isKey_0 : decode cX5_isKey 0 = .ok (.iload_n 0, 1) := by decide +kernel
theorem dX5_isKey_1 : decode cX5_isKey 1 = .ok (.iconst 0, 1) := by decide +kernel
theorem dX5_isKey_2 : decode cX5_isKey 2 = .ok (.iconst 2, 1) := by decide +kernel
theorem dX5_isKey_3 : decode cX5_isKey 3 = .ok (.invokestatic 35, 3) := by decide +kernel
theorem dX5_isKey_6 : decode cX5_isKey 6 = .ok (.ireturn, 1) := by decide +kernel
theorem dX5_saves_0 : decode cX5_saves 0 = .ok (.aload_n 0, 1) := by decide +kernel
theorem dX5_saves_1 : decode cX5_saves 1 = .ok (.getfield 28, 3) := by decide +kernel
theorem dX5_saves_4 : decode cX5_saves 4 = .ok (.bipush 6, 2) := by decide +kernel
theorem dX5_saves_6 : decode cX5_saves 6 = .ok (.if_icmp .ne 44, 3) := by decide +kernel
theorem dX5_saves_9 : decode cX5_saves 9 = .ok (.iconst 0, 1) := by decide +kernel
theorem dX5_saves_10 : decode cX5_saves 10 = .ok (.istore_n 2, 1) := by decide +kernel
theorem dX5_saves_11 : decode cX5_saves 11 = .ok (.iload_n 2, 1) := by decide +kernel
theorem dX5_saves_12 : decode cX5_saves 12 = .ok (.sipush 1555, 3) := by decide +kernel
theorem dX5_saves_15 : decode cX5_saves 15 = .ok (.if_icmp .ge 25, 3) := by decide +kernel
theorem dX5_saves_18 : decode cX5_saves 18 = .ok (.aload_n 0, 1) := by decide +kernel
theorem dX5_saves_19 : decode cX5_saves 19 = .ok (.getfield 16, 3) := by decide +kernel
theorem dX5_saves_22 : decode cX5_saves 22 = .ok (.iload_n 2, 1) := by decide +kernel
theorem dX5_saves_23 : decode cX5_saves 23 = .ok (.aload_n 0, 1) := by decide +kernel
theorem dX5_saves_24 : decode cX5_saves 24 = .ok (.getfield 16, 3) := by decide +kernel
theorem dX5_saves_27 : decode cX5_saves 27 = .ok (.iload_n 2, 1) := by decide +kernel
theorem dX5_saves_28 : decode cX5_saves 28 = .ok (.sipush 311, 3) := by decide +kernel
theorem dX5_saves_31 : decode cX5_saves 31 = .ok (.iadd, 1) := by decide +kernel
theorem dX5_saves_32 : decode cX5_saves 32 = .ok (.iaload, 1) := by decide +kernel
theorem dX5_saves_33 : decode cX5_saves 33 = .ok (.iastore, 1) := by decide +kernel
theorem dX5_saves_34 : decode cX5_saves 34 = .ok (.iinc 2 1, 3) := by decide +kernel
theorem dX5_saves_37 : decode cX5_saves 37 = .ok (.goto (-26), 3) := by decide +kernel
theorem dX5_saves_40 : decode cX5_saves 40 = .ok (.aload_n 0, 1) := by decide +kernel
theorem dX5_saves_41 : decode cX5_saves 41 = .ok (.dup, 1) := by decide +kernel
theorem dX5_saves_42 : decode cX5_saves 42 = .ok (.getfield 28, 3) := by decide +kernel
theorem dX5_saves_45 : decode cX5_saves 45 = .ok (.iconst 1, 1) := by decide +kernel
theorem dX5_saves_46 : decode cX5_saves 46 = .ok (.isub, 1) := by decide +kernel
theorem dX5_saves_47 : decode cX5_saves 47 = .ok (.putfield 28, 3) := by decide +kernel
theorem dX5_saves_50 : decode cX5_saves 50 = .ok (.iconst 0, 1) := by decide +kernel
theorem dX5_saves_51 : decode cX5_saves 51 = .ok (.istore_n 2, 1) := by decide +kernel
theorem dX5_saves_52 : decode cX5_saves 52 = .ok (.iload_n 2, 1) := by decide +kernel
theorem dX5_saves_53 : decode cX5_saves 53 = .ok (.sipush 311, 3) := by decide +kernel
theorem dX5_saves_56 : decode cX5_saves 56 = .ok (.if_icmp .ge 27, 3) := by decide +kernel
theorem dX5_saves_59 : decode cX5_saves 59 = .ok (.aload_n 0, 1) := by decide +kernel
theorem dX5_saves_60 : decode cX5_saves 60 = .ok (.getfield 16, 3) := by decide +kernel
theorem dX5_saves_63 : decode cX5_saves 63 = .ok (.sipush 311, 3) := by decide +kernel
theorem dX5_saves_66 : decode cX5_saves 66 = .ok (.aload_n 0, 1) := by decide +kernel
theorem dX5_saves_67 : decode cX5_saves 67 = .ok (.getfield 28, 3) := by decide +kernel
theorem dX5_saves_70 : decode cX5_saves 70 = .ok (.imul, 1) := by decide +kernel
theorem dX5_saves_71 : decode cX5_saves 71 = .ok (.iload_n 2, 1) := by decide +kernel
theorem dX5_saves_72 : decode cX5_saves 72 = .ok (.iadd, 1) := by decide +kernel
theorem dX5_saves_73 : decode cX5_saves 73 = .ok (.aload_n 1, 1) := by decide +kernel
theorem dX5_saves_74 : decode cX5_saves 74 = .ok (.iload_n 2, 1) := by decide +kernel
theorem dX5_saves_75 : decode cX5_saves 75 = .ok (.iaload, 1) := by decide +kernel
theorem dX5_saves_76 : decode cX5_saves 76 = .ok (.iastore, 1) := by decide +kernel
theorem dX5_saves_77 : decode cX5_saves 77 = .ok (.iinc 2 1, 3) := by decide +kernel
theorem dX5_saves_80 : decode cX5_saves 80 = .ok (.goto (-28), 3) := by decide +kernel
theorem dX5_saves_83 : decode cX5_saves 83 = .ok (.aload_n 0, 1) := by decide +kernel
theorem dX5_saves_84 : decode cX5_saves 84 = .ok (.dup, 1) := by decide +kernel
theorem dX5_saves_85 : decode cX5_saves 85 = .ok (.getfield 28, 3) := by decide +kernel
theorem dX5_saves_88 : decode cX5_saves 88 = .ok (.iconst 1, 1) := by decide +kernel
theorem dX5_saves_89 : decode cX5_saves 89 = .ok (.iadd, 1) := by decide +kernel
theorem dX5_saves_90 : decode cX5_saves 90 = .ok (.putfield 28, 3) := by decide +kernel
theorem dX5_saves_93 : decode cX5_saves 93 = .ok (.return_, 1) := by decide +kernel
theorem dX5_undo_0 : decode cX5_undo 0 = .ok (.aload_n 0, 1) := by decide +kernel
theorem dX5_undo_1 : decode cX5_undo 1 = .ok (.iconst 0, 1) := by decide +kernel
theorem dX5_undo_2 : decode cX5_undo 2 = .ok (.putfield 32, 3) := by decide +kernel
theorem dX5_undo_5 : decode cX5_undo 5 = .ok (.aload_n 0, 1) := by decide +kernel
theorem dX5_undo_6 : decode cX5_undo 6 = .ok (.getfield 28, 3) := by decide +kernel
theorem dX5_undo_9 : decode cX5_undo 9 = .ok (.ifCond .ne 9, 3) := by decide +kernel
theorem dX5_undo_12 : decode cX5_undo 12 = .ok (.aload_n 0, 1) := by decide +kernel
theorem dX5_undo_13 : decode cX5_undo 13 = .ok (.iconst 1, 1) := by decide +kernel
theorem dX5_undo_14 : decode cX5_undo 14 = .ok (.invokevirtual 39, 3) := by decide +kernel
theorem dX5_undo_17 : decode cX5_undo 17 = .ok (.ireturn, 1) := by decide +kernel
theorem dX5_undo_18 : decode cX5_undo 18 = .ok (.aload_n 0, 1) := by decide +kernel
theorem dX5_undo_19 : decode cX5_undo 19 = .ok (.dup, 1) := by decide +kernel
theorem dX5_undo_20 : decode cX5_undo 20 = .ok (.getfield 28, 3) := by decide +kernel
theorem dX5_undo_23 : decode cX5_undo 23 = .ok (.iconst 1, 1) := by decide +kernel
theorem dX5_undo_24 : decode cX5_undo 24 = .ok (.isub, 1) := by decide +kernel
theorem dX5_undo_25 : decode cX5_undo 25 = .ok (.putfield 28, 3) := by decide +kernel
theorem dX5_undo_28 : decode cX5_undo 28 = .ok (.iconst 0, 1) := by decide +kernel
theorem dX5_undo_29 : decode cX5_undo 29 = .ok (.istore_n 1, 1) := by decide +kernel
theorem dX5_undo_30 : decode cX5_undo 30 = .ok (.iload_n 1, 1) := by decide +kernel
theorem dX5_undo_31 : decode cX5_undo 31 = .ok (.sipush 311, 3) := by decide +kernel
theorem dX5_undo_34 : decode cX5_undo 34 = .ok (.if_icmp .ge 30, 3) := by decide +kernel
theorem dX5_undo_37 : decode cX5_undo 37 = .ok (.aload_n 0, 1) := by decide +kernel
theorem dX5_undo_38 : decode cX5_undo 38 = .ok (.getfield 7, 3) := by decide +kernel
theorem dX5_undo_41 : decode cX5_undo 41 = .ok (.iload_n 1, 1) := by decide +kernel
theorem dX5_undo_42 : decode cX5_undo 42 = .ok (.aload_n 0, 1) := by decide +kernel
theorem dX5_undo_43 : decode cX5_undo 43 = .ok (.getfield 16, 3) := by decide +kernel
theorem dX5_undo_46 : decode cX5_undo 46 = .ok (.sipush 311, 3) := by decide +kernel
theorem dX5_undo_49 : decode cX5_undo 49 = .ok (.aload_n 0, 1) := by decide +kernel
theorem dX5_undo_50 : decode cX5_undo 50 = .ok (.getfield 28, 3) := by decide +kernel
theorem dX5_undo_53 : decode cX5_undo 53 = .ok (.imul, 1) := by decide +kernel
theorem dX5_undo_54 : decode cX5_undo 54 = .ok (.iload_n 1, 1) := by decide +kernel
theorem dX5_undo_55 : decode cX5_undo 55 = .ok (.iadd, 1) := by decide +kernel
theorem dX5_undo_56 : decode cX5_undo 56 = .ok (.iaload, 1) := by decide +kernel
theorem dX5_undo_57 : decode cX5_undo 57 = .ok (.iastore, 1) := by decide +kernel
theorem dX5_undo_58 : decode cX5_undo 58 = .ok (.iinc 1 1, 3) := by decide +kernel
theorem dX5_undo_61 : decode cX5_undo 61 = .ok (.goto (-31), 3) := by decide +kernel
theorem dX5_undo_64 : decode cX5_undo 64 = .ok (.aload_n 0, 1) := by decide +kernel
theorem dX5_undo_65 : decode cX5_undo 65 = .ok (.getfield 28, 3) := by decide +kernel
theorem dX5_undo_68 : decode cX5_undo 68 = .ok (.ireturn, 1) := by decide +kernel
theorem dX5_countAt_0 : decode cX5_countAt 0 = .ok (.iconst 0, 1) := by decide +kernel
theorem dX5_countAt_1 : decode cX5_countAt 1 = .ok (.iconst 5, 1) := by decide +kernel
theorem dX5_countAt_2 : decode cX5_countAt 2 = .ok (.iload_n 0, 1) := by decide +kernel
theorem dX5_countAt_3 : decode cX5_countAt 3 = .ok (.imul, 1) := by decide +kernel
theorem dX5_countAt_4 : decode cX5_countAt 4 = .ok (.iadd, 1) := by decide +kernel
theorem dX5_countAt_5 : decode cX5_countAt 5 = .ok (.iload_n 1, 1) := by decide +kernel
theorem dX5_countAt_6 : decode cX5_countAt 6 = .ok (.iadd, 1) := by decide +kernel
theorem dX5_countAt_7 : decode cX5_countAt 7 = .ok (.ireturn, 1) := by decide +kernel
theorem dX5_knowsAt_0 : decode cX5_knowsAt 0 = .ok (.bipush 15, 2) := by decide +kernel
theorem dX5_knowsAt_2 : decode cX5_knowsAt 2 = .ok (.bipush 25, 2) := by decide +kernel
theorem dX5_knowsAt_4 : decode cX5_knowsAt 4 = .ok (.iload_n 0, 1) := by decide +kernel
theorem dX5_knowsAt_5 : decode cX5_knowsAt 5 = .ok (.imul, 1) := by decide +kernel
theorem dX5_knowsAt_6 : decode cX5_knowsAt 6 = .ok (.iadd, 1) := by decide +kernel
theorem dX5_knowsAt_7 : decode cX5_knowsAt 7 = .ok (.iconst 5, 1) := by decide +kernel
theorem dX5_knowsAt_8 : decode cX5_knowsAt 8 = .ok (.iload_n 1, 1) := by decide +kernel
theorem dX5_knowsAt_9 : decode cX5_knowsAt 9 = .ok (.imul, 1) := by decide +kernel
theorem dX5_knowsAt_10 : decode cX5_knowsAt 10 = .ok (.iadd, 1) := by decide +kernel
theorem dX5_knowsAt_11 : decode cX5_knowsAt 11 = .ok (.ireturn, 1) := by decide +kernel
theorem dX5_vectorAt_0 : decode cX5_vectorAt 0 = .ok (.bipush 90, 2) := by decide +kernel
theorem dX5_vectorAt_2 : decode cX5_vectorAt 2 = .ok (.bipush 15, 2) := by decide +kernel
theorem dX5_vectorAt_4 : decode cX5_vectorAt 4 = .ok (.iload_n 0, 1) := by decide +kernel
theorem dX5_vectorAt_5 : decode cX5_vectorAt 5 = .ok (.imul, 1) := by decide +kernel
theorem dX5_vectorAt_6 : decode cX5_vectorAt 6 = .ok (.iadd, 1) := by decide +kernel
theorem dX5_vectorAt_7 : decode cX5_vectorAt 7 = .ok (.iconst 5, 1) := by decide +kernel
theorem dX5_vectorAt_8 : decode cX5_vectorAt 8 = .ok (.iload_n 1, 1) := by decide +kernel
theorem dX5_vectorAt_9 : decode cX5_vectorAt 9 = .ok (.imul, 1) := by decide +kernel
theorem dX5_vectorAt_10 : decode cX5_vectorAt 10 = .ok (.iadd, 1) := by decide +kernel
theorem dX5_vectorAt_11 : decode cX5_vectorAt 11 = .ok (.ireturn, 1) := by decide +kernel
theorem dX5_rowAt_0 : decode cX5_rowAt 0 = .ok (.sipush 135, 3) := by decide +kernel
theorem dX5_rowAt_3 : decode cX5_rowAt 3 = .ok (.bipush 19, 2) := by decide +kernel
theorem dX5_rowAt_5 : decode cX5_rowAt 5 = .ok (.iconst 3, 1) := by decide +kernel
theorem dX5_rowAt_6 : decode cX5_rowAt 6 = .ok (.iload_n 0, 1) := by decide +kernel
theorem dX5_rowAt_7 : decode cX5_rowAt 7 = .ok (.imul, 1) := by decide +kernel
theorem dX5_rowAt_8 : decode cX5_rowAt 8 = .ok (.iload_n 1, 1) := by decide +kernel
theorem dX5_rowAt_9 : decode cX5_rowAt 9 = .ok (.iadd, 1) := by decide +kernel
theorem dX5_rowAt_10 : decode cX5_rowAt 10 = .ok (.imul, 1) := by decide +kernel
theorem dX5_rowAt_11 : decode cX5_rowAt 11 = .ok (.iadd, 1) := by decide +kernel
theorem dX5_rowAt_12 : decode cX5_rowAt 12 = .ok (.ireturn, 1) := by decide +kernel
theorem dX5_placeAt_0 : decode cX5_placeAt 0 = .ok (.iload_n 0, 1) := by decide +kernel
theorem dX5_placeAt_1 : decode cX5_placeAt 1 = .ok (.iload_n 1, 1) := by decide +kernel
theorem dX5_placeAt_2 : decode cX5_placeAt 2 = .ok (.invokestatic 43, 3) := by decide +kernel
theorem dX5_placeAt_5 : decode cX5_placeAt 5 = .ok (.iconst 1, 1) := by decide +kernel
theorem dX5_placeAt_6 : decode cX5_placeAt 6 = .ok (.iadd, 1) := by decide +kernel
theorem dX5_placeAt_7 : decode cX5_placeAt 7 = .ok (.iconst 3, 1) := by decide +kernel
theorem dX5_placeAt_8 : decode cX5_placeAt 8 = .ok (.iload_n 2, 1) := by decide +kernel
theorem dX5_placeAt_9 : decode cX5_placeAt 9 = .ok (.imul, 1) := by decide +kernel
theorem dX5_placeAt_10 : decode cX5_placeAt 10 = .ok (.iadd, 1) := by decide +kernel
theorem dX5_placeAt_11 : decode cX5_placeAt 11 = .ok (.ireturn, 1) := by decide +kernel
theorem dX5_siblings_0 : decode cX5_siblings 0 = .ok (.aload_n 0, 1) := by decide +kernel
theorem dX5_siblings_1 : decode cX5_siblings 1 = .ok (.getfield 7, 3) := by decide +kernel
theorem dX5_siblings_4 : decode cX5_siblings 4 = .ok (.iload_n 1, 1) := by decide +kernel
theorem dX5_siblings_5 : decode cX5_siblings 5 = .ok (.iload_n 2, 1) := by decide +kernel
theorem dX5_siblings_6 : decode cX5_siblings 6 = .ok (.invokestatic 43, 3) := by decide +kernel
theorem dX5_siblings_9 : decode cX5_siblings 9 = .ok (.iaload, 1) := by decide +kernel
theorem dX5_siblings_10 : decode cX5_siblings 10 = .ok (.ireturn, 1) := by decide +kernel
theorem dX5_merges_0 : decode cX5_merges 0 = .ok (.iconst 0, 1) := by decide +kernel
theorem dX5_merges_1 : decode cX5_merges 1 = .ok (.istore_n 3, 1) := by decide +kernel
theorem dX5_merges_2 : decode cX5_merges 2 = .ok (.iload_n 3, 1) := by decide +kernel
theorem dX5_merges_3 : decode cX5_merges 3 = .ok (.iconst 5, 1) := by decide +kernel
theorem dX5_merges_4 : decode cX5_merges 4 = .ok (.if_icmp .ge 55, 3) := by decide +kernel
theorem dX5_merges_7 : decode cX5_merges 7 = .ok (.aload_n 0, 1) := by decide +kernel
theorem dX5_merges_8 : decode cX5_merges 8 = .ok (.getfield 7, 3) := by decide +kernel
theorem dX5_merges_11 : decode cX5_merges 11 = .ok (.iload_n 1, 1) := by decide +kernel
theorem dX5_merges_12 : decode cX5_merges 12 = .ok (.iload_n 3, 1) := by decide +kernel
theorem dX5_merges_13 : decode cX5_merges 13 = .ok (.iadd, 1) := by decide +kernel
theorem dX5_merges_14 : decode cX5_merges 14 = .ok (.aload_n 0, 1) := by decide +kernel
theorem dX5_merges_15 : decode cX5_merges 15 = .ok (.getfield 7, 3) := by decide +kernel
theorem dX5_merges_18 : decode cX5_merges 18 = .ok (.iload_n 2, 1) := by decide +kernel
theorem dX5_merges_19 : decode cX5_merges 19 = .ok (.iload_n 3, 1) := by decide +kernel
theorem dX5_merges_20 : decode cX5_merges 20 = .ok (.iadd, 1) := by decide +kernel
theorem dX5_merges_21 : decode cX5_merges 21 = .ok (.iaload, 1) := by decide +kernel
theorem dX5_merges_22 : decode cX5_merges 22 = .ok (.aload_n 0, 1) := by decide +kernel
theorem dX5_merges_23 : decode cX5_merges 23 = .ok (.getfield 7, 3) := by decide +kernel
theorem dX5_merges_26 : decode cX5_merges 26 = .ok (.iload_n 1, 1) := by decide +kernel
theorem dX5_merges_27 : decode cX5_merges 27 = .ok (.iload_n 3, 1) := by decide +kernel
theorem dX5_merges_28 : decode cX5_merges 28 = .ok (.iadd, 1) := by decide +kernel
theorem dX5_merges_29 : decode cX5_merges 29 = .ok (.iaload, 1) := by decide +kernel
theorem dX5_merges_30 : decode cX5_merges 30 = .ok (.if_icmp .le 14, 3) := by decide +kernel
theorem dX5_merges_33 : decode cX5_merges 33 = .ok (.aload_n 0, 1) := by decide +kernel
theorem dX5_merges_34 : decode cX5_merges 34 = .ok (.getfield 7, 3) := by decide +kernel
theorem dX5_merges_37 : decode cX5_merges 37 = .ok (.iload_n 2, 1) := by decide +kernel
theorem dX5_merges_38 : decode cX5_merges 38 = .ok (.iload_n 3, 1) := by decide +kernel
theorem dX5_merges_39 : decode cX5_merges 39 = .ok (.iadd, 1) := by decide +kernel
theorem dX5_merges_40 : decode cX5_merges 40 = .ok (.iaload, 1) := by decide +kernel
theorem dX5_merges_41 : decode cX5_merges 41 = .ok (.goto 11, 3) := by decide +kernel
theorem dX5_merges_44 : decode cX5_merges 44 = .ok (.aload_n 0, 1) := by decide +kernel
theorem dX5_merges_45 : decode cX5_merges 45 = .ok (.getfield 7, 3) := by decide +kernel
theorem dX5_merges_48 : decode cX5_merges 48 = .ok (.iload_n 1, 1) := by decide +kernel
theorem dX5_merges_49 : decode cX5_merges 49 = .ok (.iload_n 3, 1) := by decide +kernel
theorem dX5_merges_50 : decode cX5_merges 50 = .ok (.iadd, 1) := by decide +kernel
theorem dX5_merges_51 : decode cX5_merges 51 = .ok (.iaload, 1) := by decide +kernel
theorem dX5_merges_52 : decode cX5_merges 52 = .ok (.iastore, 1) := by decide +kernel
theorem dX5_merges_53 : decode cX5_merges 53 = .ok (.iinc 3 1, 3) := by decide +kernel
theorem dX5_merges_56 : decode cX5_merges 56 = .ok (.goto (-54), 3) := by decide +kernel
theorem dX5_merges_59 : decode cX5_merges 59 = .ok (.return_, 1) := by decide +kernel
theorem dX5_covers_0 : decode cX5_covers 0 = .ok (.aload_n 0, 1) := by decide +kernel
theorem dX5_covers_1 : decode cX5_covers 1 = .ok (.getfield 7, 3) := by decide +kernel
theorem dX5_covers_4 : decode cX5_covers 4 = .ok (.iload_n 1, 1) := by decide +kernel
theorem dX5_covers_5 : decode cX5_covers 5 = .ok (.aload_n 0, 1) := by decide +kernel
theorem dX5_covers_6 : decode cX5_covers 6 = .ok (.getfield 7, 3) := by decide +kernel
theorem dX5_covers_9 : decode cX5_covers 9 = .ok (.iload_n 2, 1) := by decide +kernel
theorem dX5_covers_10 : decode cX5_covers 10 = .ok (.iconst 0, 1) := by decide +kernel
theorem dX5_covers_11 : decode cX5_covers 11 = .ok (.iadd, 1) := by decide +kernel
theorem dX5_covers_12 : decode cX5_covers 12 = .ok (.iaload, 1) := by decide +kernel
theorem dX5_covers_13 : decode cX5_covers 13 = .ok (.iadd, 1) := by decide +kernel
theorem dX5_covers_14 : decode cX5_covers 14 = .ok (.iaload, 1) := by decide +kernel
theorem dX5_covers_15 : decode cX5_covers 15 = .ok (.aload_n 0, 1) := by decide +kernel
theorem dX5_covers_16 : decode cX5_covers 16 = .ok (.getfield 7, 3) := by decide +kernel
theorem dX5_covers_19 : decode cX5_covers 19 = .ok (.iload_n 2, 1) := by decide +kernel
theorem dX5_covers_20 : decode cX5_covers 20 = .ok (.iconst 1, 1) := by decide +kernel
theorem dX5_covers_21 : decode cX5_covers 21 = .ok (.iadd, 1) := by decide +kernel
theorem dX5_covers_22 : decode cX5_covers 22 = .ok (.iaload, 1) := by decide +kernel
theorem dX5_covers_23 : decode cX5_covers 23 = .ok (.if_icmp .lt 7, 3) := by decide +kernel
theorem dX5_covers_26 : decode cX5_covers 26 = .ok (.iconst 1, 1) := by decide +kernel
theorem dX5_covers_27 : decode cX5_covers 27 = .ok (.goto 4, 3) := by decide +kernel
theorem dX5_covers_30 : decode cX5_covers 30 = .ok (.iconst 0, 1) := by decide +kernel
theorem dX5_covers_31 : decode cX5_covers 31 = .ok (.ireturn, 1) := by decide +kernel
theorem dX5_has_0 : decode cX5_has 0 = .ok (.iconst 0, 1) := by decide +kernel
theorem dX5_has_1 : decode cX5_has 1 = .ok (.istore 5, 2) := by decide +kernel
theorem dX5_has_3 : decode cX5_has 3 = .ok (.iconst 0, 1) := by decide +kernel
theorem dX5_has_4 : decode cX5_has 4 = .ok (.istore 6, 2) := by decide +kernel
theorem dX5_has_6 : decode cX5_has 6 = .ok (.iload 6, 2) := by decide +kernel
theorem dX5_has_8 : decode cX5_has 8 = .ok (.aload_n 0, 1) := by decide +kernel
theorem dX5_has_9 : decode cX5_has 9 = .ok (.iload_n 1, 1) := by decide +kernel
theorem dX5_has_10 : decode cX5_has 10 = .ok (.iload_n 2, 1) := by decide +kernel
theorem dX5_has_11 : decode cX5_has 11 = .ok (.invokevirtual 47, 3) := by decide +kernel
theorem dX5_has_14 : decode cX5_has 14 = .ok (.if_icmp .ge 57, 3) := by decide +kernel
theorem dX5_has_17 : decode cX5_has 17 = .ok (.iload_n 1, 1) := by decide +kernel
theorem dX5_has_18 : decode cX5_has 18 = .ok (.iload_n 2, 1) := by decide +kernel
theorem dX5_has_19 : decode cX5_has 19 = .ok (.iload 6, 2) := by decide +kernel
theorem dX5_has_21 : decode cX5_has 21 = .ok (.invokestatic 50, 3) := by decide +kernel
theorem dX5_has_24 : decode cX5_has 24 = .ok (.istore 7, 2) := by decide +kernel
theorem dX5_has_26 : decode cX5_has 26 = .ok (.iload 5, 2) := by decide +kernel
theorem dX5_has_28 : decode cX5_has 28 = .ok (.ifCond .ne 30, 3) := by decide +kernel
theorem dX5_has_31 : decode cX5_has 31 = .ok (.aload_n 0, 1) := by decide +kernel
theorem dX5_has_32 : decode cX5_has 32 = .ok (.getfield 7, 3) := by decide +kernel
theorem dX5_has_35 : decode cX5_has 35 = .ok (.iload 7, 2) := by decide +kernel
theorem dX5_has_37 : decode cX5_has 37 = .ok (.iconst 0, 1) := by decide +kernel
theorem dX5_has_38 : decode cX5_has 38 = .ok (.iadd, 1) := by decide +kernel
theorem dX5_has_39 : decode cX5_has 39 = .ok (.iaload, 1) := by decide +kernel
theorem dX5_has_40 : decode cX5_has 40 = .ok (.iload_n 3, 1) := by decide +kernel
theorem dX5_has_41 : decode cX5_has 41 = .ok (.if_icmp .ne 21, 3) := by decide +kernel
theorem dX5_has_44 : decode cX5_has 44 = .ok (.aload_n 0, 1) := by decide +kernel
theorem dX5_has_45 : decode cX5_has 45 = .ok (.getfield 7, 3) := by decide +kernel
theorem dX5_has_48 : decode cX5_has 48 = .ok (.iload 7, 2) := by decide +kernel
theorem dX5_has_50 : decode cX5_has 50 = .ok (.iconst 1, 1) := by decide +kernel
theorem dX5_has_51 : decode cX5_has 51 = .ok (.iadd, 1) := by decide +kernel
theorem dX5_has_52 : decode cX5_has 52 = .ok (.iaload, 1) := by decide +kernel
theorem dX5_has_53 : decode cX5_has 53 = .ok (.iload 4, 2) := by decide +kernel
theorem dX5_has_55 : decode cX5_has 55 = .ok (.if_icmp .ne 7, 3) := by decide +kernel
theorem dX5_has_58 : decode cX5_has 58 = .ok (.iconst 1, 1) := by decide +kernel
theorem dX5_has_59 : decode cX5_has 59 = .ok (.goto 4, 3) := by decide +kernel
theorem dX5_has_62 : decode cX5_has 62 = .ok (.iconst 0, 1) := by decide +kernel
theorem dX5_has_63 : decode cX5_has 63 = .ok (.istore 5, 2) := by decide +kernel
theorem dX5_has_65 : decode cX5_has 65 = .ok (.iinc 6 1, 3) := by decide +kernel
theorem dX5_has_68 : decode cX5_has 68 = .ok (.goto (-62), 3) := by decide +kernel
theorem dX5_has_71 : decode cX5_has 71 = .ok (.iload 5, 2) := by decide +kernel
theorem dX5_has_73 : decode cX5_has 73 = .ok (.ireturn, 1) := by decide +kernel
theorem dX5_coveredBy_0 : decode cX5_coveredBy 0 = .ok (.iconst 0, 1) := by decide +kernel
theorem dX5_coveredBy_1 : decode cX5_coveredBy 1 = .ok (.istore 4, 2) := by decide +kernel
theorem dX5_coveredBy_3 : decode cX5_coveredBy 3 = .ok (.iconst 0, 1) := by decide +kernel
theorem dX5_coveredBy_4 : decode cX5_coveredBy 4 = .ok (.istore 5, 2) := by decide +kernel
theorem dX5_coveredBy_6 : decode cX5_coveredBy 6 = .ok (.iload 5, 2) := by decide +kernel
theorem dX5_coveredBy_8 : decode cX5_coveredBy 8 = .ok (.aload_n 0, 1) := by decide +kernel
theorem dX5_coveredBy_9 : decode cX5_coveredBy 9 = .ok (.iload_n 2, 1) := by decide +kernel
theorem dX5_coveredBy_10 : decode cX5_coveredBy 10 = .ok (.iload_n 3, 1) := by decide +kernel
theorem dX5_coveredBy_11 : decode cX5_coveredBy 11 = .ok (.invokevirtual 47, 3) := by decide +kernel
theorem dX5_coveredBy_14 : decode cX5_coveredBy 14 = .ok (.if_icmp .ge 38, 3) := by decide +kernel
theorem dX5_coveredBy_17 : decode cX5_coveredBy 17 = .ok (.iload 4, 2) := by decide +kernel
theorem dX5_coveredBy_19 : decode cX5_coveredBy 19 = .ok (.aload_n 0, 1) := by decide +kernel
theorem dX5_coveredBy_20 : decode cX5_coveredBy 20 = .ok (.iload_n 2, 1) := by decide +kernel
theorem dX5_coveredBy_21 : decode cX5_coveredBy 21 = .ok (.iload_n 1, 1) := by decide +kernel
theorem dX5_coveredBy_22 : decode cX5_coveredBy 22 = .ok (.invokestatic 54, 3) := by decide +kernel
theorem dX5_coveredBy_25 : decode cX5_coveredBy 25 = .ok (.iload_n 2, 1) := by decide +kernel
theorem dX5_coveredBy_26 : decode cX5_coveredBy 26 = .ok (.iload_n 3, 1) := by decide +kernel
theorem dX5_coveredBy_27 : decode cX5_coveredBy 27 = .ok (.iload 5, 2) := by decide +kernel
theorem dX5_coveredBy_29 : decode cX5_coveredBy 29 = .ok (.invokestatic 50, 3) := by decide +kernel
theorem dX5_coveredBy_32 : decode cX5_coveredBy 32 = .ok (.invokevirtual 57, 3) := by decide +kernel
theorem dX5_coveredBy_35 : decode cX5_coveredBy 35 = .ok (.ifCond .eq 7, 3) := by decide +kernel
theorem dX5_coveredBy_38 : decode cX5_coveredBy 38 = .ok (.iconst 1, 1) := by decide +kernel
theorem dX5_coveredBy_39 : decode cX5_coveredBy 39 = .ok (.goto 4, 3) := by decide +kernel
theorem dX5_coveredBy_42 : decode cX5_coveredBy 42 = .ok (.iconst 0, 1) := by decide +kernel
theorem dX5_coveredBy_43 : decode cX5_coveredBy 43 = .ok (.iadd, 1) := by decide +kernel
theorem dX5_coveredBy_44 : decode cX5_coveredBy 44 = .ok (.istore 4, 2) := by decide +kernel
theorem dX5_coveredBy_46 : decode cX5_coveredBy 46 = .ok (.iinc 5 1, 3) := by decide +kernel
theorem dX5_coveredBy_49 : decode cX5_coveredBy 49 = .ok (.goto (-43), 3) := by decide +kernel
theorem dX5_coveredBy_52 : decode cX5_coveredBy 52 = .ok (.iload 4, 2) := by decide +kernel
theorem dX5_coveredBy_54 : decode cX5_coveredBy 54 = .ok (.ireturn, 1) := by decide +kernel
theorem dX5_drops_0 : decode cX5_drops 0 = .ok (.iconst 0, 1) := by decide +kernel
theorem dX5_drops_1 : decode cX5_drops 1 = .ok (.istore 4, 2) := by decide +kernel
theorem dX5_drops_3 : decode cX5_drops 3 = .ok (.aload_n 0, 1) := by decide +kernel
theorem dX5_drops_4 : decode cX5_drops 4 = .ok (.iload_n 2, 1) := by decide +kernel
theorem dX5_drops_5 : decode cX5_drops 5 = .ok (.iload_n 3, 1) := by decide +kernel
theorem dX5_drops_6 : decode cX5_drops 6 = .ok (.invokevirtual 47, 3) := by decide +kernel
theorem dX5_drops_9 : decode cX5_drops 9 = .ok (.istore 5, 2) := by decide +kernel
theorem dX5_drops_11 : decode cX5_drops 11 = .ok (.iconst 0, 1) := by decide +kernel
theorem dX5_drops_12 : decode cX5_drops 12 = .ok (.istore 6, 2) := by decide +kernel
theorem dX5_drops_14 : decode cX5_drops 14 = .ok (.iload 6, 2) := by decide +kernel
theorem dX5_drops_16 : decode cX5_drops 16 = .ok (.iload 5, 2) := by decide +kernel
theorem dX5_drops_18 : decode cX5_drops 18 = .ok (.if_icmp .ge 79, 3) := by decide +kernel
theorem dX5_drops_21 : decode cX5_drops 21 = .ok (.iload_n 2, 1) := by decide +kernel
theorem dX5_drops_22 : decode cX5_drops 22 = .ok (.iload_n 3, 1) := by decide +kernel
theorem dX5_drops_23 : decode cX5_drops 23 = .ok (.iload 6, 2) := by decide +kernel
theorem dX5_drops_25 : decode cX5_drops 25 = .ok (.invokestatic 50, 3) := by decide +kernel
theorem dX5_drops_28 : decode cX5_drops 28 = .ok (.istore 7, 2) := by decide +kernel
theorem dX5_drops_30 : decode cX5_drops 30 = .ok (.aload_n 0, 1) := by decide +kernel
theorem dX5_drops_31 : decode cX5_drops 31 = .ok (.iload_n 2, 1) := by decide +kernel
theorem dX5_drops_32 : decode cX5_drops 32 = .ok (.iload_n 1, 1) := by decide +kernel
theorem dX5_drops_33 : decode cX5_drops 33 = .ok (.invokestatic 54, 3) := by decide +kernel
theorem dX5_drops_36 : decode cX5_drops 36 = .ok (.iload 7, 2) := by decide +kernel
theorem dX5_drops_38 : decode cX5_drops 38 = .ok (.invokevirtual 57, 3) := by decide +kernel
theorem dX5_drops_41 : decode cX5_drops 41 = .ok (.ifCond .ne 50, 3) := by decide +kernel
theorem dX5_drops_44 : decode cX5_drops 44 = .ok (.iload_n 2, 1) := by decide +kernel
theorem dX5_drops_45 : decode cX5_drops 45 = .ok (.iload_n 3, 1) := by decide +kernel
theorem dX5_drops_46 : decode cX5_drops 46 = .ok (.iload 4, 2) := by decide +kernel
theorem dX5_drops_48 : decode cX5_drops 48 = .ok (.invokestatic 50, 3) := by decide +kernel
theorem dX5_drops_51 : decode cX5_drops 51 = .ok (.istore 8, 2) := by decide +kernel
theorem dX5_drops_53 : decode cX5_drops 53 = .ok (.iconst 0, 1) := by decide +kernel
theorem dX5_drops_54 : decode cX5_drops 54 = .ok (.istore 9, 2) := by decide +kernel
theorem dX5_drops_56 : decode cX5_drops 56 = .ok (.iload 9, 2) := by decide +kernel
theorem dX5_drops_58 : decode cX5_drops 58 = .ok (.iconst 3, 1) := by decide +kernel
theorem dX5_drops_59 : decode cX5_drops 59 = .ok (.if_icmp .ge 29, 3) := by decide +kernel
theorem dX5_drops_62 : decode cX5_drops 62 = .ok (.aload_n 0, 1) := by decide +kernel
theorem dX5_drops_63 : decode cX5_drops 63 = .ok (.getfield 7, 3) := by decide +kernel
theorem dX5_drops_66 : decode cX5_drops 66 = .ok (.iload 8, 2) := by decide +kernel
theorem dX5_drops_68 : decode cX5_drops 68 = .ok (.iload 9, 2) := by decide +kernel
theorem dX5_drops_70 : decode cX5_drops 70 = .ok (.iadd, 1) := by decide +kernel
theorem dX5_drops_71 : decode cX5_drops 71 = .ok (.aload_n 0, 1) := by decide +kernel
theorem dX5_drops_72 : decode cX5_drops 72 = .ok (.getfield 7, 3) := by decide +kernel
theorem dX5_drops_75 : decode cX5_drops 75 = .ok (.iload 7, 2) := by decide +kernel
theorem dX5_drops_77 : decode cX5_drops 77 = .ok (.iload 9, 2) := by decide +kernel
theorem dX5_drops_79 : decode cX5_drops 79 = .ok (.iadd, 1) := by decide +kernel
theorem dX5_drops_80 : decode cX5_drops 80 = .ok (.iaload, 1) := by decide +kernel
theorem dX5_drops_81 : decode cX5_drops 81 = .ok (.iastore, 1) := by decide +kernel
theorem dX5_drops_82 : decode cX5_drops 82 = .ok (.iinc 9 1, 3) := by decide +kernel
theorem dX5_drops_85 : decode cX5_drops 85 = .ok (.goto (-29), 3) := by decide +kernel
theorem dX5_drops_88 : decode cX5_drops 88 = .ok (.iinc 4 1, 3) := by decide +kernel
theorem dX5_drops_91 : decode cX5_drops 91 = .ok (.iinc 6 1, 3) := by decide +kernel
theorem dX5_drops_94 : decode cX5_drops 94 = .ok (.goto (-80), 3) := by decide +kernel
theorem dX5_drops_97 : decode cX5_drops 97 = .ok (.aload_n 0, 1) := by decide +kernel
theorem dX5_drops_98 : decode cX5_drops 98 = .ok (.getfield 7, 3) := by decide +kernel
theorem dX5_drops_101 : decode cX5_drops 101 = .ok (.iload_n 2, 1) := by decide +kernel
theorem dX5_drops_102 : decode cX5_drops 102 = .ok (.iload_n 3, 1) := by decide +kernel
theorem dX5_drops_103 : decode cX5_drops 103 = .ok (.invokestatic 43, 3) := by decide +kernel
theorem dX5_drops_106 : decode cX5_drops 106 = .ok (.iload 4, 2) := by decide +kernel
theorem dX5_drops_108 : decode cX5_drops 108 = .ok (.iastore, 1) := by decide +kernel
theorem dX5_drops_109 : decode cX5_drops 109 = .ok (.return_, 1) := by decide +kernel
theorem dX5_comes_0 : decode cX5_comes 0 = .ok (.aload_n 0, 1) := by decide +kernel
theorem dX5_comes_1 : decode cX5_comes 1 = .ok (.iload_n 1, 1) := by decide +kernel
theorem dX5_comes_2 : decode cX5_comes 2 = .ok (.iload_n 2, 1) := by decide +kernel
theorem dX5_comes_3 : decode cX5_comes 3 = .ok (.invokevirtual 47, 3) := by decide +kernel
theorem dX5_comes_6 : decode cX5_comes 6 = .ok (.istore 6, 2) := by decide +kernel
theorem dX5_comes_8 : decode cX5_comes 8 = .ok (.iload 6, 2) := by decide +kernel
theorem dX5_comes_10 : decode cX5_comes 10 = .ok (.ifCond .le 117, 3) := by decide +kernel
theorem dX5_comes_13 : decode cX5_comes 13 = .ok (.aload_n 0, 1) := by decide +kernel
theorem dX5_comes_14 : decode cX5_comes 14 = .ok (.getfield 7, 3) := by decide +kernel
theorem dX5_comes_17 : decode cX5_comes 17 = .ok (.iload_n 1, 1) := by decide +kernel
theorem dX5_comes_18 : decode cX5_comes 18 = .ok (.iload_n 2, 1) := by decide +kernel
theorem dX5_comes_19 : decode cX5_comes 19 = .ok (.iload 6, 2) := by decide +kernel
theorem dX5_comes_21 : decode cX5_comes 21 = .ok (.iconst 1, 1) := by decide +kernel
theorem dX5_comes_22 : decode cX5_comes 22 = .ok (.isub, 1) := by decide +kernel
theorem dX5_comes_23 : decode cX5_comes 23 = .ok (.invokestatic 50, 3) := by decide +kernel
theorem dX5_comes_26 : decode cX5_comes 26 = .ok (.iconst 0, 1) := by decide +kernel
theorem dX5_comes_27 : decode cX5_comes 27 = .ok (.iadd, 1) := by decide +kernel
theorem dX5_comes_28 : decode cX5_comes 28 = .ok (.iaload, 1) := by decide +kernel
theorem dX5_comes_29 : decode cX5_comes 29 = .ok (.iload_n 3, 1) := by decide +kernel
theorem dX5_comes_30 : decode cX5_comes 30 = .ok (.if_icmp .gt 44, 3) := by decide +kernel
theorem dX5_comes_33 : decode cX5_comes 33 = .ok (.aload_n 0, 1) := by decide +kernel
theorem dX5_comes_34 : decode cX5_comes 34 = .ok (.getfield 7, 3) := by decide +kernel
theorem dX5_comes_37 : decode cX5_comes 37 = .ok (.iload_n 1, 1) := by decide +kernel
theorem dX5_comes_38 : decode cX5_comes 38 = .ok (.iload_n 2, 1) := by decide +kernel
theorem dX5_comes_39 : decode cX5_comes 39 = .ok (.iload 6, 2) := by decide +kernel
theorem dX5_comes_41 : decode cX5_comes 41 = .ok (.iconst 1, 1) := by decide +kernel
theorem dX5_comes_42 : decode cX5_comes 42 = .ok (.isub, 1) := by decide +kernel
theorem dX5_comes_43 : decode cX5_comes 43 = .ok (.invokestatic 50, 3) := by decide +kernel
theorem dX5_comes_46 : decode cX5_comes 46 = .ok (.iconst 0, 1) := by decide +kernel
theorem dX5_comes_47 : decode cX5_comes 47 = .ok (.iadd, 1) := by decide +kernel
theorem dX5_comes_48 : decode cX5_comes 48 = .ok (.iaload, 1) := by decide +kernel
theorem dX5_comes_49 : decode cX5_comes 49 = .ok (.iload_n 3, 1) := by decide +kernel
theorem dX5_comes_50 : decode cX5_comes 50 = .ok (.if_icmp .ne 77, 3) := by decide +kernel
theorem dX5_comes_53 : decode cX5_comes 53 = .ok (.aload_n 0, 1) := by decide +kernel
theorem dX5_comes_54 : decode cX5_comes 54 = .ok (.getfield 7, 3) := by decide +kernel
theorem dX5_comes_57 : decode cX5_comes 57 = .ok (.iload_n 1, 1) := by decide +kernel
theorem dX5_comes_58 : decode cX5_comes 58 = .ok (.iload_n 2, 1) := by decide +kernel
theorem dX5_comes_59 : decode cX5_comes 59 = .ok (.iload 6, 2) := by decide +kernel
theorem dX5_comes_61 : decode cX5_comes 61 = .ok (.iconst 1, 1) := by decide +kernel
theorem dX5_comes_62 : decode cX5_comes 62 = .ok (.isub, 1) := by decide +kernel
theorem dX5_comes_63 : decode cX5_comes 63 = .ok (.invokestatic 50, 3) := by decide +kernel
theorem dX5_comes_66 : decode cX5_comes 66 = .ok (.iconst 1, 1) := by decide +kernel
theorem dX5_comes_67 : decode cX5_comes 67 = .ok (.iadd, 1) := by decide +kernel
theorem dX5_comes_68 : decode cX5_comes 68 = .ok (.iaload, 1) := by decide +kernel
theorem dX5_comes_69 : decode cX5_comes 69 = .ok (.iload 4, 2) := by decide +kernel
theorem dX5_comes_71 : decode cX5_comes 71 = .ok (.if_icmp .le 56, 3) := by decide +kernel
theorem dX5_comes_74 : decode cX5_comes 74 = .ok (.iconst 0, 1) := by decide +kernel
theorem dX5_comes_75 : decode cX5_comes 75 = .ok (.istore 7, 2) := by decide +kernel
theorem dX5_comes_77 : decode cX5_comes 77 = .ok (.iload 7, 2) := by decide +kernel
theorem dX5_comes_79 : decode cX5_comes 79 = .ok (.iconst 3, 1) := by decide +kernel
theorem dX5_comes_80 : decode cX5_comes 80 = .ok (.if_icmp .ge 41, 3) := by decide +kernel
theorem dX5_comes_83 : decode cX5_comes 83 = .ok (.aload_n 0, 1) := by decide +kernel
theorem dX5_comes_84 : decode cX5_comes 84 = .ok (.getfield 7, 3) := by decide +kernel
theorem dX5_comes_87 : decode cX5_comes 87 = .ok (.iload_n 1, 1) := by decide +kernel
theorem dX5_comes_88 : decode cX5_comes 88 = .ok (.iload_n 2, 1) := by decide +kernel
theorem dX5_comes_89 : decode cX5_comes 89 = .ok (.iload 6, 2) := by decide +kernel
theorem dX5_comes_91 : decode cX5_comes 91 = .ok (.invokestatic 50, 3) := by decide +kernel
theorem dX5_comes_94 : decode cX5_comes 94 = .ok (.iload 7, 2) := by decide +kernel
theorem dX5_comes_96 : decode cX5_comes 96 = .ok (.iadd, 1) := by decide +kernel
theorem dX5_comes_97 : decode cX5_comes 97 = .ok (.aload_n 0, 1) := by decide +kernel
theorem dX5_comes_98 : decode cX5_comes 98 = .ok (.getfield 7, 3) := by decide +kernel
theorem dX5_comes_101 : decode cX5_comes 101 = .ok (.iload_n 1, 1) := by decide +kernel
theorem dX5_comes_102 : decode cX5_comes 102 = .ok (.iload_n 2, 1) := by decide +kernel
theorem dX5_comes_103 : decode cX5_comes 103 = .ok (.iload 6, 2) := by decide +kernel
theorem dX5_comes_105 : decode cX5_comes 105 = .ok (.iconst 1, 1) := by decide +kernel
theorem dX5_comes_106 : decode cX5_comes 106 = .ok (.isub, 1) := by decide +kernel
theorem dX5_comes_107 : decode cX5_comes 107 = .ok (.invokestatic 50, 3) := by decide +kernel
theorem dX5_comes_110 : decode cX5_comes 110 = .ok (.iload 7, 2) := by decide +kernel
theorem dX5_comes_112 : decode cX5_comes 112 = .ok (.iadd, 1) := by decide +kernel
theorem dX5_comes_113 : decode cX5_comes 113 = .ok (.iaload, 1) := by decide +kernel
theorem dX5_comes_114 : decode cX5_comes 114 = .ok (.iastore, 1) := by decide +kernel
theorem dX5_comes_115 : decode cX5_comes 115 = .ok (.iinc 7 1, 3) := by decide +kernel
theorem dX5_comes_118 : decode cX5_comes 118 = .ok (.goto (-41), 3) := by decide +kernel
theorem dX5_comes_121 : decode cX5_comes 121 = .ok (.iinc 6 (-1), 3) := by decide +kernel
theorem dX5_comes_124 : decode cX5_comes 124 = .ok (.goto (-116), 3) := by decide +kernel
theorem dX5_comes_127 : decode cX5_comes 127 = .ok (.iload_n 1, 1) := by decide +kernel
theorem dX5_comes_128 : decode cX5_comes 128 = .ok (.iload_n 2, 1) := by decide +kernel
theorem dX5_comes_129 : decode cX5_comes 129 = .ok (.iload 6, 2) := by decide +kernel
theorem dX5_comes_131 : decode cX5_comes 131 = .ok (.invokestatic 50, 3) := by decide +kernel
theorem dX5_comes_134 : decode cX5_comes 134 = .ok (.istore 7, 2) := by decide +kernel
theorem dX5_comes_136 : decode cX5_comes 136 = .ok (.aload_n 0, 1) := by decide +kernel
theorem dX5_comes_137 : decode cX5_comes 137 = .ok (.getfield 7, 3) := by decide +kernel
theorem dX5_comes_140 : decode cX5_comes 140 = .ok (.iload 7, 2) := by decide +kernel
theorem dX5_comes_142 : decode cX5_comes 142 = .ok (.iconst 0, 1) := by decide +kernel
theorem dX5_comes_143 : decode cX5_comes 143 = .ok (.iadd, 1) := by decide +kernel
theorem dX5_comes_144 : decode cX5_comes 144 = .ok (.iload_n 3, 1) := by decide +kernel
theorem dX5_comes_145 : decode cX5_comes 145 = .ok (.iastore, 1) := by decide +kernel
theorem dX5_comes_146 : decode cX5_comes 146 = .ok (.aload_n 0, 1) := by decide +kernel
theorem dX5_comes_147 : decode cX5_comes 147 = .ok (.getfield 7, 3) := by decide +kernel
theorem dX5_comes_150 : decode cX5_comes 150 = .ok (.iload 7, 2) := by decide +kernel
theorem dX5_comes_152 : decode cX5_comes 152 = .ok (.iconst 1, 1) := by decide +kernel
theorem dX5_comes_153 : decode cX5_comes 153 = .ok (.iadd, 1) := by decide +kernel
theorem dX5_comes_154 : decode cX5_comes 154 = .ok (.iload 4, 2) := by decide +kernel
theorem dX5_comes_156 : decode cX5_comes 156 = .ok (.iastore, 1) := by decide +kernel
theorem dX5_comes_157 : decode cX5_comes 157 = .ok (.aload_n 0, 1) := by decide +kernel
theorem dX5_comes_158 : decode cX5_comes 158 = .ok (.getfield 7, 3) := by decide +kernel
theorem dX5_comes_161 : decode cX5_comes 161 = .ok (.iload 7, 2) := by decide +kernel
theorem dX5_comes_163 : decode cX5_comes 163 = .ok (.iconst 2, 1) := by decide +kernel
theorem dX5_comes_164 : decode cX5_comes 164 = .ok (.iadd, 1) := by decide +kernel
theorem dX5_comes_165 : decode cX5_comes 165 = .ok (.iload 5, 2) := by decide +kernel
theorem dX5_comes_167 : decode cX5_comes 167 = .ok (.iastore, 1) := by decide +kernel
theorem dX5_comes_168 : decode cX5_comes 168 = .ok (.aload_n 0, 1) := by decide +kernel
theorem dX5_comes_169 : decode cX5_comes 169 = .ok (.getfield 7, 3) := by decide +kernel
theorem dX5_comes_172 : decode cX5_comes 172 = .ok (.iload_n 1, 1) := by decide +kernel
theorem dX5_comes_173 : decode cX5_comes 173 = .ok (.iload_n 2, 1) := by decide +kernel
theorem dX5_comes_174 : decode cX5_comes 174 = .ok (.invokestatic 43, 3) := by decide +kernel
theorem dX5_comes_177 : decode cX5_comes 177 = .ok (.dup2, 1) := by decide +kernel
theorem dX5_comes_178 : decode cX5_comes 178 = .ok (.iaload, 1) := by decide +kernel
theorem dX5_comes_179 : decode cX5_comes 179 = .ok (.iconst 1, 1) := by decide +kernel
theorem dX5_comes_180 : decode cX5_comes 180 = .ok (.iadd, 1) := by decide +kernel
theorem dX5_comes_181 : decode cX5_comes 181 = .ok (.iastore, 1) := by decide +kernel
theorem dX5_comes_182 : decode cX5_comes 182 = .ok (.return_, 1) := by decide +kernel
theorem dX5_mayWrite_0 : decode cX5_mayWrite 0 = .ok (.aload_n 0, 1) := by decide +kernel
theorem dX5_mayWrite_1 : decode cX5_mayWrite 1 = .ok (.iload_n 2, 1) := by decide +kernel
theorem dX5_mayWrite_2 : decode cX5_mayWrite 2 = .ok (.iload_n 3, 1) := by decide +kernel
theorem dX5_mayWrite_3 : decode cX5_mayWrite 3 = .ok (.invokevirtual 47, 3) := by decide +kernel
theorem dX5_mayWrite_6 : decode cX5_mayWrite 6 = .ok (.aload_n 0, 1) := by decide +kernel
theorem dX5_mayWrite_7 : decode cX5_mayWrite 7 = .ok (.iload_n 1, 1) := by decide +kernel
theorem dX5_mayWrite_8 : decode cX5_mayWrite 8 = .ok (.iload_n 2, 1) := by decide +kernel
theorem dX5_mayWrite_9 : decode cX5_mayWrite 9 = .ok (.iload_n 3, 1) := by decide +kernel
theorem dX5_mayWrite_10 : decode cX5_mayWrite 10 = .ok (.invokevirtual 61, 3) := by decide +kernel
theorem dX5_mayWrite_13 : decode cX5_mayWrite 13 = .ok (.isub, 1) := by decide +kernel
theorem dX5_mayWrite_14 : decode cX5_mayWrite 14 = .ok (.iconst 4, 1) := by decide +kernel
theorem dX5_mayWrite_15 : decode cX5_mayWrite 15 = .ok (.if_icmp .ge 23, 3) := by decide +kernel
theorem dX5_mayWrite_18 : decode cX5_mayWrite 18 = .ok (.aload_n 0, 1) := by decide +kernel
theorem dX5_mayWrite_19 : decode cX5_mayWrite 19 = .ok (.getfield 7, 3) := by decide +kernel
theorem dX5_mayWrite_22 : decode cX5_mayWrite 22 = .ok (.iload_n 2, 1) := by decide +kernel
theorem dX5_mayWrite_23 : decode cX5_mayWrite 23 = .ok (.iload_n 1, 1) := by decide +kernel
theorem dX5_mayWrite_24 : decode cX5_mayWrite 24 = .ok (.invokestatic 64, 3) := by decide +kernel
theorem dX5_mayWrite_27 : decode cX5_mayWrite 27 = .ok (.iaload, 1) := by decide +kernel
theorem dX5_mayWrite_28 : decode cX5_mayWrite 28 = .ok (.sipush 999, 3) := by decide +kernel
theorem dX5_mayWrite_31 : decode cX5_mayWrite 31 = .ok (.if_icmp .ge 7, 3) := by decide +kernel
theorem dX5_mayWrite_34 : decode cX5_mayWrite 34 = .ok (.iconst 1, 1) := by decide +kernel
theorem dX5_mayWrite_35 : decode cX5_mayWrite 35 = .ok (.goto 4, 3) := by decide +kernel
theorem dX5_mayWrite_38 : decode cX5_mayWrite 38 = .ok (.iconst 0, 1) := by decide +kernel
theorem dX5_mayWrite_39 : decode cX5_mayWrite 39 = .ok (.ireturn, 1) := by decide +kernel
theorem dX5_writes_0 : decode cX5_writes 0 = .ok (.aload_n 0, 1) := by decide +kernel
theorem dX5_writes_1 : decode cX5_writes 1 = .ok (.iload_n 1, 1) := by decide +kernel
theorem dX5_writes_2 : decode cX5_writes 2 = .ok (.iload_n 2, 1) := by decide +kernel
theorem dX5_writes_3 : decode cX5_writes 3 = .ok (.iload_n 3, 1) := by decide +kernel
theorem dX5_writes_4 : decode cX5_writes 4 = .ok (.invokevirtual 61, 3) := by decide +kernel
theorem dX5_writes_7 : decode cX5_writes 7 = .ok (.istore 5, 2) := by decide +kernel
theorem dX5_writes_9 : decode cX5_writes 9 = .ok (.aload_n 0, 1) := by decide +kernel
theorem dX5_writes_10 : decode cX5_writes 10 = .ok (.iload_n 1, 1) := by decide +kernel
theorem dX5_writes_11 : decode cX5_writes 11 = .ok (.iload_n 2, 1) := by decide +kernel
theorem dX5_writes_12 : decode cX5_writes 12 = .ok (.iload_n 3, 1) := by decide +kernel
theorem dX5_writes_13 : decode cX5_writes 13 = .ok (.invokevirtual 67, 3) := by decide +kernel
theorem dX5_writes_16 : decode cX5_writes 16 = .ok (.aload_n 0, 1) := by decide +kernel
theorem dX5_writes_17 : decode cX5_writes 17 = .ok (.getfield 7, 3) := by decide +kernel
theorem dX5_writes_20 : decode cX5_writes 20 = .ok (.iload_n 2, 1) := by decide +kernel
theorem dX5_writes_21 : decode cX5_writes 21 = .ok (.iload_n 1, 1) := by decide +kernel
theorem dX5_writes_22 : decode cX5_writes 22 = .ok (.invokestatic 64, 3) := by decide +kernel
theorem dX5_writes_25 : decode cX5_writes 25 = .ok (.dup2, 1) := by decide +kernel
theorem dX5_writes_26 : decode cX5_writes 26 = .ok (.iaload, 1) := by decide +kernel
theorem dX5_writes_27 : decode cX5_writes 27 = .ok (.iconst 1, 1) := by decide +kernel
theorem dX5_writes_28 : decode cX5_writes 28 = .ok (.iadd, 1) := by decide +kernel
theorem dX5_writes_29 : decode cX5_writes 29 = .ok (.iastore, 1) := by decide +kernel
theorem dX5_writes_30 : decode cX5_writes 30 = .ok (.aload_n 0, 1) := by decide +kernel
theorem dX5_writes_31 : decode cX5_writes 31 = .ok (.getfield 7, 3) := by decide +kernel
theorem dX5_writes_34 : decode cX5_writes 34 = .ok (.iload_n 2, 1) := by decide +kernel
theorem dX5_writes_35 : decode cX5_writes 35 = .ok (.iload_n 1, 1) := by decide +kernel
theorem dX5_writes_36 : decode cX5_writes 36 = .ok (.invokestatic 64, 3) := by decide +kernel
theorem dX5_writes_39 : decode cX5_writes 39 = .ok (.iaload, 1) := by decide +kernel
theorem dX5_writes_40 : decode cX5_writes 40 = .ok (.istore 6, 2) := by decide +kernel
theorem dX5_writes_42 : decode cX5_writes 42 = .ok (.aload_n 0, 1) := by decide +kernel
theorem dX5_writes_43 : decode cX5_writes 43 = .ok (.iload_n 2, 1) := by decide +kernel
theorem dX5_writes_44 : decode cX5_writes 44 = .ok (.iload_n 3, 1) := by decide +kernel
theorem dX5_writes_45 : decode cX5_writes 45 = .ok (.iload_n 1, 1) := by decide +kernel
theorem dX5_writes_46 : decode cX5_writes 46 = .ok (.iload 6, 2) := by decide +kernel
theorem dX5_writes_48 : decode cX5_writes 48 = .ok (.iload 4, 2) := by decide +kernel
theorem dX5_writes_50 : decode cX5_writes 50 = .ok (.invokevirtual 71, 3) := by decide +kernel
theorem dX5_writes_53 : decode cX5_writes 53 = .ok (.aload_n 0, 1) := by decide +kernel
theorem dX5_writes_54 : decode cX5_writes 54 = .ok (.getfield 7, 3) := by decide +kernel
theorem dX5_writes_57 : decode cX5_writes 57 = .ok (.iload_n 2, 1) := by decide +kernel
theorem dX5_writes_58 : decode cX5_writes 58 = .ok (.iload_n 1, 1) := by decide +kernel
theorem dX5_writes_59 : decode cX5_writes 59 = .ok (.invokestatic 54, 3) := by decide +kernel
theorem dX5_writes_62 : decode cX5_writes 62 = .ok (.iload_n 1, 1) := by decide +kernel
theorem dX5_writes_63 : decode cX5_writes 63 = .ok (.iadd, 1) := by decide +kernel
theorem dX5_writes_64 : decode cX5_writes 64 = .ok (.iload 6, 2) := by decide +kernel
theorem dX5_writes_66 : decode cX5_writes 66 = .ok (.iastore, 1) := by decide +kernel
theorem dX5_writes_67 : decode cX5_writes 67 = .ok (.aload_n 0, 1) := by decide +kernel
theorem dX5_writes_68 : decode cX5_writes 68 = .ok (.iload_n 2, 1) := by decide +kernel
theorem dX5_writes_69 : decode cX5_writes 69 = .ok (.iload_n 3, 1) := by decide +kernel
theorem dX5_writes_70 : decode cX5_writes 70 = .ok (.invokestatic 75, 3) := by decide +kernel
theorem dX5_writes_73 : decode cX5_writes 73 = .ok (.iload_n 2, 1) := by decide +kernel
theorem dX5_writes_74 : decode cX5_writes 74 = .ok (.iload_n 1, 1) := by decide +kernel
theorem dX5_writes_75 : decode cX5_writes 75 = .ok (.invokestatic 54, 3) := by decide +kernel
theorem dX5_writes_78 : decode cX5_writes 78 = .ok (.invokevirtual 78, 3) := by decide +kernel
theorem dX5_writes_81 : decode cX5_writes 81 = .ok (.aload_n 0, 1) := by decide +kernel
theorem dX5_writes_82 : decode cX5_writes 82 = .ok (.getfield 7, 3) := by decide +kernel
theorem dX5_writes_85 : decode cX5_writes 85 = .ok (.sipush 306, 3) := by decide +kernel
theorem dX5_writes_88 : decode cX5_writes 88 = .ok (.dup2, 1) := by decide +kernel
theorem dX5_writes_89 : decode cX5_writes 89 = .ok (.iaload, 1) := by decide +kernel
theorem dX5_writes_90 : decode cX5_writes 90 = .ok (.iconst 1, 1) := by decide +kernel
theorem dX5_writes_91 : decode cX5_writes 91 = .ok (.iadd, 1) := by decide +kernel
theorem dX5_writes_92 : decode cX5_writes 92 = .ok (.iastore, 1) := by decide +kernel
theorem dX5_writes_93 : decode cX5_writes 93 = .ok (.aload_n 0, 1) := by decide +kernel
theorem dX5_writes_94 : decode cX5_writes 94 = .ok (.getfield 7, 3) := by decide +kernel
theorem dX5_writes_97 : decode cX5_writes 97 = .ok (.sipush 307, 3) := by decide +kernel
theorem dX5_writes_100 : decode cX5_writes 100 = .ok (.dup2, 1) := by decide +kernel
theorem dX5_writes_101 : decode cX5_writes 101 = .ok (.iaload, 1) := by decide +kernel
theorem dX5_writes_102 : decode cX5_writes 102 = .ok (.iload 5, 2) := by decide +kernel
theorem dX5_writes_104 : decode cX5_writes 104 = .ok (.iadd, 1) := by decide +kernel
theorem dX5_writes_105 : decode cX5_writes 105 = .ok (.iastore, 1) := by decide +kernel
theorem dX5_writes_106 : decode cX5_writes 106 = .ok (.iload 5, 2) := by decide +kernel
theorem dX5_writes_108 : decode cX5_writes 108 = .ok (.ireturn, 1) := by decide +kernel
theorem dX5_areThere_0 : decode cX5_areThere 0 = .ok (.iload_n 0, 1) := by decide +kernel
theorem dX5_areThere_1 : decode cX5_areThere 1 = .ok (.invokestatic 82, 3) := by decide +kernel
theorem dX5_areThere_4 : decode cX5_areThere 4 = .ok (.ifCond .eq 21, 3) := by decide +kernel
theorem dX5_areThere_7 : decode cX5_areThere 7 = .ok (.iload_n 1, 1) := by decide +kernel
theorem dX5_areThere_8 : decode cX5_areThere 8 = .ok (.invokestatic 86, 3) := by decide +kernel
theorem dX5_areThere_11 : decode cX5_areThere 11 = .ok (.ifCond .eq 14, 3) := by decide +kernel
theorem dX5_areThere_14 : decode cX5_areThere 14 = .ok (.iload_n 2, 1) := by decide +kernel
theorem dX5_areThere_15 : decode cX5_areThere 15 = .ok (.invokestatic 89, 3) := by decide +kernel
theorem dX5_areThere_18 : decode cX5_areThere 18 = .ok (.ifCond .eq 7, 3) := by decide +kernel
theorem dX5_areThere_21 : decode cX5_areThere 21 = .ok (.iconst 1, 1) := by decide +kernel
theorem dX5_areThere_22 : decode cX5_areThere 22 = .ok (.goto 4, 3) := by decide +kernel
theorem dX5_areThere_25 : decode cX5_areThere 25 = .ok (.iconst 0, 1) := by decide +kernel
theorem dX5_areThere_26 : decode cX5_areThere 26 = .ok (.ireturn, 1) := by decide +kernel
theorem dX5_read_0 : decode cX5_read 0 = .ok (.aload_n 0, 1) := by decide +kernel
theorem dX5_read_1 : decode cX5_read 1 = .ok (.iconst 0, 1) := by decide +kernel
theorem dX5_read_2 : decode cX5_read 2 = .ok (.putfield 32, 3) := by decide +kernel
theorem dX5_read_5 : decode cX5_read 5 = .ok (.iload_n 1, 1) := by decide +kernel
theorem dX5_read_6 : decode cX5_read 6 = .ok (.iload_n 2, 1) := by decide +kernel
theorem dX5_read_7 : decode cX5_read 7 = .ok (.iload_n 3, 1) := by decide +kernel
theorem dX5_read_8 : decode cX5_read 8 = .ok (.invokestatic 92, 3) := by decide +kernel
theorem dX5_read_11 : decode cX5_read 11 = .ok (.ifCond .ne 9, 3) := by decide +kernel
theorem dX5_read_14 : decode cX5_read 14 = .ok (.aload_n 0, 1) := by decide +kernel
theorem dX5_read_15 : decode cX5_read 15 = .ok (.iconst 1, 1) := by decide +kernel
theorem dX5_read_16 : decode cX5_read 16 = .ok (.invokevirtual 39, 3) := by decide +kernel
theorem dX5_read_19 : decode cX5_read 19 = .ok (.ireturn, 1) := by decide +kernel
theorem dX5_read_20 : decode cX5_read 20 = .ok (.aload_n 0, 1) := by decide +kernel
theorem dX5_read_21 : decode cX5_read 21 = .ok (.aload_n 0, 1) := by decide +kernel
theorem dX5_read_22 : decode cX5_read 22 = .ok (.getfield 7, 3) := by decide +kernel
theorem dX5_read_25 : decode cX5_read 25 = .ok (.invokevirtual 95, 3) := by decide +kernel
theorem dX5_read_28 : decode cX5_read 28 = .ok (.aload_n 0, 1) := by decide +kernel
theorem dX5_read_29 : decode cX5_read 29 = .ok (.iload_n 2, 1) := by decide +kernel
theorem dX5_read_30 : decode cX5_read 30 = .ok (.iload_n 1, 1) := by decide +kernel
theorem dX5_read_31 : decode cX5_read 31 = .ok (.invokestatic 54, 3) := by decide +kernel
theorem dX5_read_34 : decode cX5_read 34 = .ok (.iload_n 2, 1) := by decide +kernel
theorem dX5_read_35 : decode cX5_read 35 = .ok (.iload_n 3, 1) := by decide +kernel
theorem dX5_read_36 : decode cX5_read 36 = .ok (.invokestatic 75, 3) := by decide +kernel
theorem dX5_read_39 : decode cX5_read 39 = .ok (.invokevirtual 78, 3) := by decide +kernel
theorem dX5_read_42 : decode cX5_read 42 = .ok (.aload_n 0, 1) := by decide +kernel
theorem dX5_read_43 : decode cX5_read 43 = .ok (.iload_n 2, 1) := by decide +kernel
theorem dX5_read_44 : decode cX5_read 44 = .ok (.iload_n 3, 1) := by decide +kernel
theorem dX5_read_45 : decode cX5_read 45 = .ok (.invokevirtual 47, 3) := by decide +kernel
theorem dX5_read_48 : decode cX5_read 48 = .ok (.ireturn, 1) := by decide +kernel
theorem dX5_write_0 : decode cX5_write 0 = .ok (.aload_n 0, 1) := by decide +kernel
theorem dX5_write_1 : decode cX5_write 1 = .ok (.iconst 0, 1) := by decide +kernel
theorem dX5_write_2 : decode cX5_write 2 = .ok (.putfield 32, 3) := by decide +kernel
theorem dX5_write_5 : decode cX5_write 5 = .ok (.iload_n 1, 1) := by decide +kernel
theorem dX5_write_6 : decode cX5_write 6 = .ok (.iload_n 2, 1) := by decide +kernel
theorem dX5_write_7 : decode cX5_write 7 = .ok (.iload_n 3, 1) := by decide +kernel
theorem dX5_write_8 : decode cX5_write 8 = .ok (.invokestatic 92, 3) := by decide +kernel
theorem dX5_write_11 : decode cX5_write 11 = .ok (.ifCond .ne 9, 3) := by decide +kernel
theorem dX5_write_14 : decode cX5_write 14 = .ok (.aload_n 0, 1) := by decide +kernel
theorem dX5_write_15 : decode cX5_write 15 = .ok (.iconst 1, 1) := by decide +kernel
theorem dX5_write_16 : decode cX5_write 16 = .ok (.invokevirtual 39, 3) := by decide +kernel
theorem dX5_write_19 : decode cX5_write 19 = .ok (.ireturn, 1) := by decide +kernel
theorem dX5_write_20 : decode cX5_write 20 = .ok (.iload 4, 2) := by decide +kernel
theorem dX5_write_22 : decode cX5_write 22 = .ok (.iconst 0, 1) := by decide +kernel
theorem dX5_write_23 : decode cX5_write 23 = .ok (.bipush 99, 2) := by decide +kernel
theorem dX5_write_25 : decode cX5_write 25 = .ok (.invokestatic 35, 3) := by decide +kernel
theorem dX5_write_28 : decode cX5_write 28 = .ok (.ifCond .ne 9, 3) := by decide +kernel
theorem dX5_write_31 : decode cX5_write 31 = .ok (.aload_n 0, 1) := by decide +kernel
theorem dX5_write_32 : decode cX5_write 32 = .ok (.iconst 2, 1) := by decide +kernel
theorem dX5_write_33 : decode cX5_write 33 = .ok (.invokevirtual 39, 3) := by decide +kernel
theorem dX5_write_36 : decode cX5_write 36 = .ok (.ireturn, 1) := by decide +kernel
theorem dX5_write_37 : decode cX5_write 37 = .ok (.aload_n 0, 1) := by decide +kernel
theorem dX5_write_38 : decode cX5_write 38 = .ok (.iload_n 1, 1) := by decide +kernel
theorem dX5_write_39 : decode cX5_write 39 = .ok (.iload_n 2, 1) := by decide +kernel
theorem dX5_write_40 : decode cX5_write 40 = .ok (.iload_n 3, 1) := by decide +kernel
theorem dX5_write_41 : decode cX5_write 41 = .ok (.invokevirtual 99, 3) := by decide +kernel
theorem dX5_write_44 : decode cX5_write 44 = .ok (.ifCond .ne 9, 3) := by decide +kernel
theorem dX5_write_47 : decode cX5_write 47 = .ok (.aload_n 0, 1) := by decide +kernel
theorem dX5_write_48 : decode cX5_write 48 = .ok (.iconst 3, 1) := by decide +kernel
theorem dX5_write_49 : decode cX5_write 49 = .ok (.invokevirtual 39, 3) := by decide +kernel
theorem dX5_write_52 : decode cX5_write 52 = .ok (.ireturn, 1) := by decide +kernel
theorem dX5_write_53 : decode cX5_write 53 = .ok (.aload_n 0, 1) := by decide +kernel
theorem dX5_write_54 : decode cX5_write 54 = .ok (.aload_n 0, 1) := by decide +kernel
theorem dX5_write_55 : decode cX5_write 55 = .ok (.getfield 7, 3) := by decide +kernel
theorem dX5_write_58 : decode cX5_write 58 = .ok (.invokevirtual 95, 3) := by decide +kernel
theorem dX5_write_61 : decode cX5_write 61 = .ok (.aload_n 0, 1) := by decide +kernel
theorem dX5_write_62 : decode cX5_write 62 = .ok (.iload_n 1, 1) := by decide +kernel
theorem dX5_write_63 : decode cX5_write 63 = .ok (.iload_n 2, 1) := by decide +kernel
theorem dX5_write_64 : decode cX5_write 64 = .ok (.iload_n 3, 1) := by decide +kernel
theorem dX5_write_65 : decode cX5_write 65 = .ok (.iload 4, 2) := by decide +kernel
theorem dX5_write_67 : decode cX5_write 67 = .ok (.invokevirtual 102, 3) := by decide +kernel
theorem dX5_write_70 : decode cX5_write 70 = .ok (.ireturn, 1) := by decide +kernel
theorem dX5_joined_0 : decode cX5_joined 0 = .ok (.aload_n 0, 1) := by decide +kernel
theorem dX5_joined_1 : decode cX5_joined 1 = .ok (.getfield 7, 3) := by decide +kernel
theorem dX5_joined_4 : decode cX5_joined 4 = .ok (.iload_n 1, 1) := by decide +kernel
theorem dX5_joined_5 : decode cX5_joined 5 = .ok (.iload_n 2, 1) := by decide +kernel
theorem dX5_joined_6 : decode cX5_joined 6 = .ok (.iconst 0, 1) := by decide +kernel
theorem dX5_joined_7 : decode cX5_joined 7 = .ok (.invokestatic 50, 3) := by decide +kernel
theorem dX5_joined_10 : decode cX5_joined 10 = .ok (.iconst 2, 1) := by decide +kernel
theorem dX5_joined_11 : decode cX5_joined 11 = .ok (.iadd, 1) := by decide +kernel
theorem dX5_joined_12 : decode cX5_joined 12 = .ok (.iaload, 1) := by decide +kernel
theorem dX5_joined_13 : decode cX5_joined 13 = .ok (.istore 4, 2) := by decide +kernel
theorem dX5_joined_15 : decode cX5_joined 15 = .ok (.iconst 1, 1) := by decide +kernel
theorem dX5_joined_16 : decode cX5_joined 16 = .ok (.istore 5, 2) := by decide +kernel
theorem dX5_joined_18 : decode cX5_joined 18 = .ok (.iload 5, 2) := by decide +kernel
theorem dX5_joined_20 : decode cX5_joined 20 = .ok (.aload_n 0, 1) := by decide +kernel
theorem dX5_joined_21 : decode cX5_joined 21 = .ok (.iload_n 1, 1) := by decide +kernel
theorem dX5_joined_22 : decode cX5_joined 22 = .ok (.iload_n 2, 1) := by decide +kernel
theorem dX5_joined_23 : decode cX5_joined 23 = .ok (.invokevirtual 47, 3) := by decide +kernel
theorem dX5_joined_26 : decode cX5_joined 26 = .ok (.if_icmp .ge 73, 3) := by decide +kernel
theorem dX5_joined_29 : decode cX5_joined 29 = .ok (.iload_n 3, 1) := by decide +kernel
theorem dX5_joined_30 : decode cX5_joined 30 = .ok (.iconst 3, 1) := by decide +kernel
theorem dX5_joined_31 : decode cX5_joined 31 = .ok (.if_icmp .ge 68, 3) := by decide +kernel
theorem dX5_joined_34 : decode cX5_joined 34 = .ok (.aload_n 0, 1) := by decide +kernel
theorem dX5_joined_35 : decode cX5_joined 35 = .ok (.getfield 7, 3) := by decide +kernel
theorem dX5_joined_38 : decode cX5_joined 38 = .ok (.iload_n 1, 1) := by decide +kernel
theorem dX5_joined_39 : decode cX5_joined 39 = .ok (.iload_n 2, 1) := by decide +kernel
theorem dX5_joined_40 : decode cX5_joined 40 = .ok (.iload 5, 2) := by decide +kernel
theorem dX5_joined_42 : decode cX5_joined 42 = .ok (.invokestatic 50, 3) := by decide +kernel
theorem dX5_joined_45 : decode cX5_joined 45 = .ok (.iconst 2, 1) := by decide +kernel
theorem dX5_joined_46 : decode cX5_joined 46 = .ok (.iadd, 1) := by decide +kernel
theorem dX5_joined_47 : decode cX5_joined 47 = .ok (.iaload, 1) := by decide +kernel
theorem dX5_joined_48 : decode cX5_joined 48 = .ok (.istore 6, 2) := by decide +kernel
theorem dX5_joined_50 : decode cX5_joined 50 = .ok (.iload_n 3, 1) := by decide +kernel
theorem dX5_joined_51 : decode cX5_joined 51 = .ok (.iconst 2, 1) := by decide +kernel
theorem dX5_joined_52 : decode cX5_joined 52 = .ok (.if_icmp .ne 11, 3) := by decide +kernel
theorem dX5_joined_55 : decode cX5_joined 55 = .ok (.iload 4, 2) := by decide +kernel
theorem dX5_joined_57 : decode cX5_joined 57 = .ok (.iload 6, 2) := by decide +kernel
theorem dX5_joined_59 : decode cX5_joined 59 = .ok (.iadd, 1) := by decide +kernel
theorem dX5_joined_60 : decode cX5_joined 60 = .ok (.goto 31, 3) := by decide +kernel
theorem dX5_joined_63 : decode cX5_joined 63 = .ok (.iload_n 3, 1) := by decide +kernel
theorem dX5_joined_64 : decode cX5_joined 64 = .ok (.ifCond .ne 13, 3) := by decide +kernel
theorem dX5_joined_67 : decode cX5_joined 67 = .ok (.iload 6, 2) := by decide +kernel
theorem dX5_joined_69 : decode cX5_joined 69 = .ok (.iload 4, 2) := by decide +kernel
theorem dX5_joined_71 : decode cX5_joined 71 = .ok (.if_icmp .le 18, 3) := by decide +kernel
theorem dX5_joined_74 : decode cX5_joined 74 = .ok (.goto 10, 3) := by decide +kernel
theorem dX5_joined_77 : decode cX5_joined 77 = .ok (.iload 6, 2) := by decide +kernel
theorem dX5_joined_79 : decode cX5_joined 79 = .ok (.iload 4, 2) := by decide +kernel
theorem dX5_joined_81 : decode cX5_joined 81 = .ok (.if_icmp .ge 8, 3) := by decide +kernel
theorem dX5_joined_84 : decode cX5_joined 84 = .ok (.iload 6, 2) := by decide +kernel
theorem dX5_joined_86 : decode cX5_joined 86 = .ok (.goto 5, 3) := by decide +kernel
theorem dX5_joined_89 : decode cX5_joined 89 = .ok (.iload 4, 2) := by decide +kernel
theorem dX5_joined_91 : decode cX5_joined 91 = .ok (.istore 4, 2) := by decide +kernel
theorem dX5_joined_93 : decode cX5_joined 93 = .ok (.iinc 5 1, 3) := by decide +kernel
theorem dX5_joined_96 : decode cX5_joined 96 = .ok (.goto (-78), 3) := by decide +kernel
theorem dX5_joined_99 : decode cX5_joined 99 = .ok (.iload_n 3, 1) := by decide +kernel
theorem dX5_joined_100 : decode cX5_joined 100 = .ok (.iconst 2, 1) := by decide +kernel
theorem dX5_joined_101 : decode cX5_joined 101 = .ok (.if_icmp .ne 11, 3) := by decide +kernel
theorem dX5_joined_104 : decode cX5_joined 104 = .ok (.iload 4, 2) := by decide +kernel
theorem dX5_joined_106 : decode cX5_joined 106 = .ok (.bipush 100, 2) := by decide +kernel
theorem dX5_joined_108 : decode cX5_joined 108 = .ok (.irem, 1) := by decide +kernel
theorem dX5_joined_109 : decode cX5_joined 109 = .ok (.goto 5, 3) := by decide +kernel
theorem dX5_joined_112 : decode cX5_joined 112 = .ok (.iload 4, 2) := by decide +kernel
theorem dX5_joined_114 : decode cX5_joined 114 = .ok (.ireturn, 1) := by decide +kernel
theorem dX5_join_0 : decode cX5_join 0 = .ok (.aload_n 0, 1) := by decide +kernel
theorem dX5_join_1 : decode cX5_join 1 = .ok (.iconst 0, 1) := by decide +kernel
theorem dX5_join_2 : decode cX5_join 2 = .ok (.putfield 32, 3) := by decide +kernel
theorem dX5_join_5 : decode cX5_join 5 = .ok (.iload_n 1, 1) := by decide +kernel
theorem dX5_join_6 : decode cX5_join 6 = .ok (.iload_n 2, 1) := by decide +kernel
theorem dX5_join_7 : decode cX5_join 7 = .ok (.iload_n 3, 1) := by decide +kernel
theorem dX5_join_8 : decode cX5_join 8 = .ok (.invokestatic 92, 3) := by decide +kernel
theorem dX5_join_11 : decode cX5_join 11 = .ok (.ifCond .ne 9, 3) := by decide +kernel
theorem dX5_join_14 : decode cX5_join 14 = .ok (.aload_n 0, 1) := by decide +kernel
theorem dX5_join_15 : decode cX5_join 15 = .ok (.iconst 1, 1) := by decide +kernel
theorem dX5_join_16 : decode cX5_join 16 = .ok (.invokevirtual 39, 3) := by decide +kernel
theorem dX5_join_19 : decode cX5_join 19 = .ok (.ireturn, 1) := by decide +kernel
theorem dX5_join_20 : decode cX5_join 20 = .ok (.iload 4, 2) := by decide +kernel
theorem dX5_join_22 : decode cX5_join 22 = .ok (.iconst 0, 1) := by decide +kernel
theorem dX5_join_23 : decode cX5_join 23 = .ok (.iconst 3, 1) := by decide +kernel
theorem dX5_join_24 : decode cX5_join 24 = .ok (.invokestatic 35, 3) := by decide +kernel
theorem dX5_join_27 : decode cX5_join 27 = .ok (.ifCond .ne 9, 3) := by decide +kernel
theorem dX5_join_30 : decode cX5_join 30 = .ok (.aload_n 0, 1) := by decide +kernel
theorem dX5_join_31 : decode cX5_join 31 = .ok (.iconst 2, 1) := by decide +kernel
theorem dX5_join_32 : decode cX5_join 32 = .ok (.invokevirtual 39, 3) := by decide +kernel
theorem dX5_join_35 : decode cX5_join 35 = .ok (.ireturn, 1) := by decide +kernel
theorem dX5_join_36 : decode cX5_join 36 = .ok (.aload_n 0, 1) := by decide +kernel
theorem dX5_join_37 : decode cX5_join 37 = .ok (.iload_n 2, 1) := by decide +kernel
theorem dX5_join_38 : decode cX5_join 38 = .ok (.iload_n 3, 1) := by decide +kernel
theorem dX5_join_39 : decode cX5_join 39 = .ok (.invokevirtual 47, 3) := by decide +kernel
theorem dX5_join_42 : decode cX5_join 42 = .ok (.ifCond .eq 19, 3) := by decide +kernel
theorem dX5_join_45 : decode cX5_join 45 = .ok (.aload_n 0, 1) := by decide +kernel
theorem dX5_join_46 : decode cX5_join 46 = .ok (.getfield 7, 3) := by decide +kernel
theorem dX5_join_49 : decode cX5_join 49 = .ok (.iload_n 2, 1) := by decide +kernel
theorem dX5_join_50 : decode cX5_join 50 = .ok (.iload_n 1, 1) := by decide +kernel
theorem dX5_join_51 : decode cX5_join 51 = .ok (.invokestatic 64, 3) := by decide +kernel
theorem dX5_join_54 : decode cX5_join 54 = .ok (.iaload, 1) := by decide +kernel
theorem dX5_join_55 : decode cX5_join 55 = .ok (.sipush 999, 3) := by decide +kernel
theorem dX5_join_58 : decode cX5_join 58 = .ok (.if_icmp .ne 9, 3) := by decide +kernel
theorem dX5_join_61 : decode cX5_join 61 = .ok (.aload_n 0, 1) := by decide +kernel
theorem dX5_join_62 : decode cX5_join 62 = .ok (.iconst 3, 1) := by decide +kernel
theorem dX5_join_63 : decode cX5_join 63 = .ok (.invokevirtual 39, 3) := by decide +kernel
theorem dX5_join_66 : decode cX5_join 66 = .ok (.ireturn, 1) := by decide +kernel
theorem dX5_join_67 : decode cX5_join 67 = .ok (.aload_n 0, 1) := by decide +kernel
theorem dX5_join_68 : decode cX5_join 68 = .ok (.aload_n 0, 1) := by decide +kernel
theorem dX5_join_69 : decode cX5_join 69 = .ok (.getfield 7, 3) := by decide +kernel
theorem dX5_join_72 : decode cX5_join 72 = .ok (.invokevirtual 95, 3) := by decide +kernel
theorem dX5_join_75 : decode cX5_join 75 = .ok (.aload_n 0, 1) := by decide +kernel
theorem dX5_join_76 : decode cX5_join 76 = .ok (.iload_n 2, 1) := by decide +kernel
theorem dX5_join_77 : decode cX5_join 77 = .ok (.iload_n 3, 1) := by decide +kernel
theorem dX5_join_78 : decode cX5_join 78 = .ok (.iload 4, 2) := by decide +kernel
theorem dX5_join_80 : decode cX5_join 80 = .ok (.invokevirtual 106, 3) := by decide +kernel
theorem dX5_join_83 : decode cX5_join 83 = .ok (.istore 5, 2) := by decide +kernel
theorem dX5_join_85 : decode cX5_join 85 = .ok (.aload_n 0, 1) := by decide +kernel
theorem dX5_join_86 : decode cX5_join 86 = .ok (.iload_n 2, 1) := by decide +kernel
theorem dX5_join_87 : decode cX5_join 87 = .ok (.iload_n 1, 1) := by decide +kernel
theorem dX5_join_88 : decode cX5_join 88 = .ok (.invokestatic 54, 3) := by decide +kernel
theorem dX5_join_91 : decode cX5_join 91 = .ok (.iload_n 2, 1) := by decide +kernel
theorem dX5_join_92 : decode cX5_join 92 = .ok (.iload_n 3, 1) := by decide +kernel
theorem dX5_join_93 : decode cX5_join 93 = .ok (.invokestatic 75, 3) := by decide +kernel
theorem dX5_join_96 : decode cX5_join 96 = .ok (.invokevirtual 78, 3) := by decide +kernel
theorem dX5_join_99 : decode cX5_join 99 = .ok (.aload_n 0, 1) := by decide +kernel
theorem dX5_join_100 : decode cX5_join 100 = .ok (.iload_n 1, 1) := by decide +kernel
theorem dX5_join_101 : decode cX5_join 101 = .ok (.iload_n 2, 1) := by decide +kernel
theorem dX5_join_102 : decode cX5_join 102 = .ok (.iload_n 3, 1) := by decide +kernel
theorem dX5_join_103 : decode cX5_join 103 = .ok (.iload 5, 2) := by decide +kernel
theorem dX5_join_105 : decode cX5_join 105 = .ok (.invokevirtual 102, 3) := by decide +kernel
theorem dX5_join_108 : decode cX5_join 108 = .ok (.istore 6, 2) := by decide +kernel
theorem dX5_join_110 : decode cX5_join 110 = .ok (.aload_n 0, 1) := by decide +kernel
theorem dX5_join_111 : decode cX5_join 111 = .ok (.getfield 7, 3) := by decide +kernel
theorem dX5_join_114 : decode cX5_join 114 = .ok (.sipush 309, 3) := by decide +kernel
theorem dX5_join_117 : decode cX5_join 117 = .ok (.dup2, 1) := by decide +kernel
theorem dX5_join_118 : decode cX5_join 118 = .ok (.iaload, 1) := by decide +kernel
theorem dX5_join_119 : decode cX5_join 119 = .ok (.iload 6, 2) := by decide +kernel
theorem dX5_join_121 : decode cX5_join 121 = .ok (.ifCond .ge 7, 3) := by decide +kernel
theorem dX5_join_124 : decode cX5_join 124 = .ok (.iconst 0, 1) := by decide +kernel
theorem dX5_join_125 : decode cX5_join 125 = .ok (.goto 4, 3) := by decide +kernel
theorem dX5_join_128 : decode cX5_join 128 = .ok (.iconst 1, 1) := by decide +kernel
theorem dX5_join_129 : decode cX5_join 129 = .ok (.iadd, 1) := by decide +kernel
theorem dX5_join_130 : decode cX5_join 130 = .ok (.iastore, 1) := by decide +kernel
theorem dX5_join_131 : decode cX5_join 131 = .ok (.iload 5, 2) := by decide +kernel
theorem dX5_join_133 : decode cX5_join 133 = .ok (.ireturn, 1) := by decide +kernel
theorem dX5_lose_0 : decode cX5_lose 0 = .ok (.aload_n 0, 1) := by decide +kernel
theorem dX5_lose_1 : decode cX5_lose 1 = .ok (.iconst 0, 1) := by decide +kernel
theorem dX5_lose_2 : decode cX5_lose 2 = .ok (.putfield 32, 3) := by decide +kernel
theorem dX5_lose_5 : decode cX5_lose 5 = .ok (.iload_n 1, 1) := by decide +kernel
theorem dX5_lose_6 : decode cX5_lose 6 = .ok (.invokestatic 82, 3) := by decide +kernel
theorem dX5_lose_9 : decode cX5_lose 9 = .ok (.ifCond .eq 10, 3) := by decide +kernel
theorem dX5_lose_12 : decode cX5_lose 12 = .ok (.iload_n 2, 1) := by decide +kernel
theorem dX5_lose_13 : decode cX5_lose 13 = .ok (.invokestatic 86, 3) := by decide +kernel
theorem dX5_lose_16 : decode cX5_lose 16 = .ok (.ifCond .ne 9, 3) := by decide +kernel
theorem dX5_lose_19 : decode cX5_lose 19 = .ok (.aload_n 0, 1) := by decide +kernel
theorem dX5_lose_20 : decode cX5_lose 20 = .ok (.iconst 1, 1) := by decide +kernel
theorem dX5_lose_21 : decode cX5_lose 21 = .ok (.invokevirtual 39, 3) := by decide +kernel
theorem dX5_lose_24 : decode cX5_lose 24 = .ok (.ireturn, 1) := by decide +kernel
theorem dX5_lose_25 : decode cX5_lose 25 = .ok (.aload_n 0, 1) := by decide +kernel
theorem dX5_lose_26 : decode cX5_lose 26 = .ok (.aload_n 0, 1) := by decide +kernel
theorem dX5_lose_27 : decode cX5_lose 27 = .ok (.getfield 7, 3) := by decide +kernel
theorem dX5_lose_30 : decode cX5_lose 30 = .ok (.invokevirtual 95, 3) := by decide +kernel
theorem dX5_lose_33 : decode cX5_lose 33 = .ok (.iconst 0, 1) := by decide +kernel
theorem dX5_lose_34 : decode cX5_lose 34 = .ok (.istore_n 3, 1) := by decide +kernel
theorem dX5_lose_35 : decode cX5_lose 35 = .ok (.iconst 0, 1) := by decide +kernel
theorem dX5_lose_36 : decode cX5_lose 36 = .ok (.istore 4, 2) := by decide +kernel
theorem dX5_lose_38 : decode cX5_lose 38 = .ok (.iload 4, 2) := by decide +kernel
theorem dX5_lose_40 : decode cX5_lose 40 = .ok (.iconst 5, 1) := by decide +kernel
theorem dX5_lose_41 : decode cX5_lose 41 = .ok (.if_icmp .ge 63, 3) := by decide +kernel
theorem dX5_lose_44 : decode cX5_lose 44 = .ok (.iload_n 2, 1) := by decide +kernel
theorem dX5_lose_45 : decode cX5_lose 45 = .ok (.iload_n 1, 1) := by decide +kernel
theorem dX5_lose_46 : decode cX5_lose 46 = .ok (.invokestatic 54, 3) := by decide +kernel
theorem dX5_lose_49 : decode cX5_lose 49 = .ok (.iload 4, 2) := by decide +kernel
theorem dX5_lose_51 : decode cX5_lose 51 = .ok (.iadd, 1) := by decide +kernel
theorem dX5_lose_52 : decode cX5_lose 52 = .ok (.istore 5, 2) := by decide +kernel
theorem dX5_lose_54 : decode cX5_lose 54 = .ok (.iload_n 3, 1) := by decide +kernel
theorem dX5_lose_55 : decode cX5_lose 55 = .ok (.iload 4, 2) := by decide +kernel
theorem dX5_lose_57 : decode cX5_lose 57 = .ok (.iload_n 1, 1) := by decide +kernel
theorem dX5_lose_58 : decode cX5_lose 58 = .ok (.if_icmp .ne 7, 3) := by decide +kernel
theorem dX5_lose_61 : decode cX5_lose 61 = .ok (.iconst 0, 1) := by decide +kernel
theorem dX5_lose_62 : decode cX5_lose 62 = .ok (.goto 10, 3) := by decide +kernel
theorem dX5_lose_65 : decode cX5_lose 65 = .ok (.aload_n 0, 1) := by decide +kernel
theorem dX5_lose_66 : decode cX5_lose 66 = .ok (.getfield 7, 3) := by decide +kernel
theorem dX5_lose_69 : decode cX5_lose 69 = .ok (.iload 5, 2) := by decide +kernel
theorem dX5_lose_71 : decode cX5_lose 71 = .ok (.iaload, 1) := by decide +kernel
theorem dX5_lose_72 : decode cX5_lose 72 = .ok (.iadd, 1) := by decide +kernel
theorem dX5_lose_73 : decode cX5_lose 73 = .ok (.istore_n 3, 1) := by decide +kernel
theorem dX5_lose_74 : decode cX5_lose 74 = .ok (.aload_n 0, 1) := by decide +kernel
theorem dX5_lose_75 : decode cX5_lose 75 = .ok (.getfield 7, 3) := by decide +kernel
theorem dX5_lose_78 : decode cX5_lose 78 = .ok (.iload 5, 2) := by decide +kernel
theorem dX5_lose_80 : decode cX5_lose 80 = .ok (.iload 4, 2) := by decide +kernel
theorem dX5_lose_82 : decode cX5_lose 82 = .ok (.iload_n 1, 1) := by decide +kernel
theorem dX5_lose_83 : decode cX5_lose 83 = .ok (.if_icmp .ne 13, 3) := by decide +kernel
theorem dX5_lose_86 : decode cX5_lose 86 = .ok (.aload_n 0, 1) := by decide +kernel
theorem dX5_lose_87 : decode cX5_lose 87 = .ok (.getfield 7, 3) := by decide +kernel
theorem dX5_lose_90 : decode cX5_lose 90 = .ok (.iload 5, 2) := by decide +kernel
theorem dX5_lose_92 : decode cX5_lose 92 = .ok (.iaload, 1) := by decide +kernel
theorem dX5_lose_93 : decode cX5_lose 93 = .ok (.goto 4, 3) := by decide +kernel
theorem dX5_lose_96 : decode cX5_lose 96 = .ok (.iconst 0, 1) := by decide +kernel
theorem dX5_lose_97 : decode cX5_lose 97 = .ok (.iastore, 1) := by decide +kernel
theorem dX5_lose_98 : decode cX5_lose 98 = .ok (.iinc 4 1, 3) := by decide +kernel
theorem dX5_lose_101 : decode cX5_lose 101 = .ok (.goto (-63), 3) := by decide +kernel
theorem dX5_lose_104 : decode cX5_lose 104 = .ok (.iload_n 3, 1) := by decide +kernel
theorem dX5_lose_105 : decode cX5_lose 105 = .ok (.ireturn, 1) := by decide +kernel
theorem dX5_why_0 : decode cX5_why 0 = .ok (.iconst 0, 1) := by decide +kernel
theorem dX5_why_1 : decode cX5_why 1 = .ok (.istore_n 3, 1) := by decide +kernel
theorem dX5_why_2 : decode cX5_why 2 = .ok (.iconst 1, 1) := by decide +kernel
theorem dX5_why_3 : decode cX5_why 3 = .ok (.istore 4, 2) := by decide +kernel
theorem dX5_why_5 : decode cX5_why 5 = .ok (.iconst 0, 1) := by decide +kernel
theorem dX5_why_6 : decode cX5_why 6 = .ok (.istore 5, 2) := by decide +kernel
theorem dX5_why_8 : decode cX5_why 8 = .ok (.iload 5, 2) := by decide +kernel
theorem dX5_why_10 : decode cX5_why 10 = .ok (.iconst 3, 1) := by decide +kernel
theorem dX5_why_11 : decode cX5_why 11 = .ok (.if_icmp .ge 99, 3) := by decide +kernel
theorem dX5_why_14 : decode cX5_why 14 = .ok (.iload 4, 2) := by decide +kernel
theorem dX5_why_16 : decode cX5_why 16 = .ok (.ifCond .eq 35, 3) := by decide +kernel
theorem dX5_why_19 : decode cX5_why 19 = .ok (.aload_n 0, 1) := by decide +kernel
theorem dX5_why_20 : decode cX5_why 20 = .ok (.getfield 7, 3) := by decide +kernel
theorem dX5_why_23 : decode cX5_why 23 = .ok (.iload_n 2, 1) := by decide +kernel
theorem dX5_why_24 : decode cX5_why 24 = .ok (.iload 5, 2) := by decide +kernel
theorem dX5_why_26 : decode cX5_why 26 = .ok (.invokestatic 75, 3) := by decide +kernel
theorem dX5_why_29 : decode cX5_why 29 = .ok (.iload_n 1, 1) := by decide +kernel
theorem dX5_why_30 : decode cX5_why 30 = .ok (.iadd, 1) := by decide +kernel
theorem dX5_why_31 : decode cX5_why 31 = .ok (.iaload, 1) := by decide +kernel
theorem dX5_why_32 : decode cX5_why 32 = .ok (.aload_n 0, 1) := by decide +kernel
theorem dX5_why_33 : decode cX5_why 33 = .ok (.getfield 7, 3) := by decide +kernel
theorem dX5_why_36 : decode cX5_why 36 = .ok (.iload_n 2, 1) := by decide +kernel
theorem dX5_why_37 : decode cX5_why 37 = .ok (.iconst 0, 1) := by decide +kernel
theorem dX5_why_38 : decode cX5_why 38 = .ok (.invokestatic 75, 3) := by decide +kernel
theorem dX5_why_41 : decode cX5_why 41 = .ok (.iload_n 1, 1) := by decide +kernel
theorem dX5_why_42 : decode cX5_why 42 = .ok (.iadd, 1) := by decide +kernel
theorem dX5_why_43 : decode cX5_why 43 = .ok (.iaload, 1) := by decide +kernel
theorem dX5_why_44 : decode cX5_why 44 = .ok (.if_icmp .ne 7, 3) := by decide +kernel
theorem dX5_why_47 : decode cX5_why 47 = .ok (.iconst 1, 1) := by decide +kernel
theorem dX5_why_48 : decode cX5_why 48 = .ok (.goto 4, 3) := by decide +kernel
theorem dX5_why_51 : decode cX5_why 51 = .ok (.iconst 0, 1) := by decide +kernel
theorem dX5_why_52 : decode cX5_why 52 = .ok (.istore 4, 2) := by decide +kernel
theorem dX5_why_54 : decode cX5_why 54 = .ok (.iconst 0, 1) := by decide +kernel
theorem dX5_why_55 : decode cX5_why 55 = .ok (.istore 6, 2) := by decide +kernel
theorem dX5_why_57 : decode cX5_why 57 = .ok (.iload 6, 2) := by decide +kernel
theorem dX5_why_59 : decode cX5_why 59 = .ok (.aload_n 0, 1) := by decide +kernel
theorem dX5_why_60 : decode cX5_why 60 = .ok (.iload_n 2, 1) := by decide +kernel
theorem dX5_why_61 : decode cX5_why 61 = .ok (.iload 5, 2) := by decide +kernel
theorem dX5_why_63 : decode cX5_why 63 = .ok (.invokevirtual 47, 3) := by decide +kernel
theorem dX5_why_66 : decode cX5_why 66 = .ok (.if_icmp .ge 38, 3) := by decide +kernel
theorem dX5_why_69 : decode cX5_why 69 = .ok (.iload_n 3, 1) := by decide +kernel
theorem dX5_why_70 : decode cX5_why 70 = .ok (.ifCond .ne 22, 3) := by decide +kernel
theorem dX5_why_73 : decode cX5_why 73 = .ok (.aload_n 0, 1) := by decide +kernel
theorem dX5_why_74 : decode cX5_why 74 = .ok (.getfield 7, 3) := by decide +kernel
theorem dX5_why_77 : decode cX5_why 77 = .ok (.iload_n 2, 1) := by decide +kernel
theorem dX5_why_78 : decode cX5_why 78 = .ok (.iload 5, 2) := by decide +kernel
theorem dX5_why_80 : decode cX5_why 80 = .ok (.iload 6, 2) := by decide +kernel
theorem dX5_why_82 : decode cX5_why 82 = .ok (.invokestatic 50, 3) := by decide +kernel
theorem dX5_why_85 : decode cX5_why 85 = .ok (.iconst 0, 1) := by decide +kernel
theorem dX5_why_86 : decode cX5_why 86 = .ok (.iadd, 1) := by decide +kernel
theorem dX5_why_87 : decode cX5_why 87 = .ok (.iaload, 1) := by decide +kernel
theorem dX5_why_88 : decode cX5_why 88 = .ok (.iload_n 1, 1) := by decide +kernel
theorem dX5_why_89 : decode cX5_why 89 = .ok (.if_icmp .ne 7, 3) := by decide +kernel
theorem dX5_why_92 : decode cX5_why 92 = .ok (.iconst 1, 1) := by decide +kernel
theorem dX5_why_93 : decode cX5_why 93 = .ok (.goto 4, 3) := by decide +kernel
theorem dX5_why_96 : decode cX5_why 96 = .ok (.iconst 0, 1) := by decide +kernel
theorem dX5_why_97 : decode cX5_why 97 = .ok (.istore_n 3, 1) := by decide +kernel
theorem dX5_why_98 : decode cX5_why 98 = .ok (.iinc 6 1, 3) := by decide +kernel
theorem dX5_why_101 : decode cX5_why 101 = .ok (.goto (-44), 3) := by decide +kernel
theorem dX5_why_104 : decode cX5_why 104 = .ok (.iinc 5 1, 3) := by decide +kernel
theorem dX5_why_107 : decode cX5_why 107 = .ok (.goto (-99), 3) := by decide +kernel
theorem dX5_why_110 : decode cX5_why 110 = .ok (.iload_n 3, 1) := by decide +kernel
theorem dX5_why_111 : decode cX5_why 111 = .ok (.ifCond .eq 7, 3) := by decide +kernel
theorem dX5_why_114 : decode cX5_why 114 = .ok (.iconst 1, 1) := by decide +kernel
theorem dX5_why_115 : decode cX5_why 115 = .ok (.goto 13, 3) := by decide +kernel
theorem dX5_why_118 : decode cX5_why 118 = .ok (.iload 4, 2) := by decide +kernel
theorem dX5_why_120 : decode cX5_why 120 = .ok (.ifCond .eq 7, 3) := by decide +kernel
theorem dX5_why_123 : decode cX5_why 123 = .ok (.iconst 0, 1) := by decide +kernel
theorem dX5_why_124 : decode cX5_why 124 = .ok (.goto 4, 3) := by decide +kernel
theorem dX5_why_127 : decode cX5_why 127 = .ok (.iconst 2, 1) := by decide +kernel
theorem dX5_why_128 : decode cX5_why 128 = .ok (.ireturn, 1) := by decide +kernel
theorem dX5_whyNot_0 : decode cX5_whyNot 0 = .ok (.aload_n 0, 1) := by decide +kernel
theorem dX5_whyNot_1 : decode cX5_whyNot 1 = .ok (.iconst 0, 1) := by decide +kernel
theorem dX5_whyNot_2 : decode cX5_whyNot 2 = .ok (.putfield 32, 3) := by decide +kernel
theorem dX5_whyNot_5 : decode cX5_whyNot 5 = .ok (.iload_n 1, 1) := by decide +kernel
theorem dX5_whyNot_6 : decode cX5_whyNot 6 = .ok (.invokestatic 82, 3) := by decide +kernel
theorem dX5_whyNot_9 : decode cX5_whyNot 9 = .ok (.ifCond .eq 19, 3) := by decide +kernel
theorem dX5_whyNot_12 : decode cX5_whyNot 12 = .ok (.iload_n 2, 1) := by decide +kernel
theorem dX5_whyNot_13 : decode cX5_whyNot 13 = .ok (.invokestatic 86, 3) := by decide +kernel
theorem dX5_whyNot_16 : decode cX5_whyNot 16 = .ok (.ifCond .eq 12, 3) := by decide +kernel
theorem dX5_whyNot_19 : decode cX5_whyNot 19 = .ok (.aload_n 0, 1) := by decide +kernel
theorem dX5_whyNot_20 : decode cX5_whyNot 20 = .ok (.iload_n 1, 1) := by decide +kernel
theorem dX5_whyNot_21 : decode cX5_whyNot 21 = .ok (.iload_n 2, 1) := by decide +kernel
theorem dX5_whyNot_22 : decode cX5_whyNot 22 = .ok (.invokevirtual 109, 3) := by decide +kernel
theorem dX5_whyNot_25 : decode cX5_whyNot 25 = .ok (.goto 8, 3) := by decide +kernel
theorem dX5_whyNot_28 : decode cX5_whyNot 28 = .ok (.aload_n 0, 1) := by decide +kernel
theorem dX5_whyNot_29 : decode cX5_whyNot 29 = .ok (.iconst 1, 1) := by decide +kernel
theorem dX5_whyNot_30 : decode cX5_whyNot 30 = .ok (.invokevirtual 39, 3) := by decide +kernel
theorem dX5_whyNot_33 : decode cX5_whyNot 33 = .ok (.ireturn, 1) := by decide +kernel
theorem dX5_forget_0 : decode cX5_forget 0 = .ok (.aload_n 0, 1) := by decide +kernel
theorem dX5_forget_1 : decode cX5_forget 1 = .ok (.iconst 0, 1) := by decide +kernel
theorem dX5_forget_2 : decode cX5_forget 2 = .ok (.putfield 32, 3) := by decide +kernel
theorem dX5_forget_5 : decode cX5_forget 5 = .ok (.iload_n 1, 1) := by decide +kernel
theorem dX5_forget_6 : decode cX5_forget 6 = .ok (.invokestatic 82, 3) := by decide +kernel
theorem dX5_forget_9 : decode cX5_forget 9 = .ok (.ifCond .eq 10, 3) := by decide +kernel
theorem dX5_forget_12 : decode cX5_forget 12 = .ok (.iload_n 2, 1) := by decide +kernel
theorem dX5_forget_13 : decode cX5_forget 13 = .ok (.invokestatic 86, 3) := by decide +kernel
theorem dX5_forget_16 : decode cX5_forget 16 = .ok (.ifCond .ne 9, 3) := by decide +kernel
theorem dX5_forget_19 : decode cX5_forget 19 = .ok (.aload_n 0, 1) := by decide +kernel
theorem dX5_forget_20 : decode cX5_forget 20 = .ok (.iconst 1, 1) := by decide +kernel
theorem dX5_forget_21 : decode cX5_forget 21 = .ok (.invokevirtual 39, 3) := by decide +kernel
theorem dX5_forget_24 : decode cX5_forget 24 = .ok (.ireturn, 1) := by decide +kernel
theorem dX5_forget_25 : decode cX5_forget 25 = .ok (.aload_n 0, 1) := by decide +kernel
theorem dX5_forget_26 : decode cX5_forget 26 = .ok (.iload_n 1, 1) := by decide +kernel
theorem dX5_forget_27 : decode cX5_forget 27 = .ok (.iload_n 2, 1) := by decide +kernel
theorem dX5_forget_28 : decode cX5_forget 28 = .ok (.invokevirtual 109, 3) := by decide +kernel
theorem dX5_forget_31 : decode cX5_forget 31 = .ok (.ifCond .le 9, 3) := by decide +kernel
theorem dX5_forget_34 : decode cX5_forget 34 = .ok (.aload_n 0, 1) := by decide +kernel
theorem dX5_forget_35 : decode cX5_forget 35 = .ok (.iconst 2, 1) := by decide +kernel
theorem dX5_forget_36 : decode cX5_forget 36 = .ok (.invokevirtual 39, 3) := by decide +kernel
theorem dX5_forget_39 : decode cX5_forget 39 = .ok (.ireturn, 1) := by decide +kernel
theorem dX5_forget_40 : decode cX5_forget 40 = .ok (.aload_n 0, 1) := by decide +kernel
theorem dX5_forget_41 : decode cX5_forget 41 = .ok (.aload_n 0, 1) := by decide +kernel
theorem dX5_forget_42 : decode cX5_forget 42 = .ok (.getfield 7, 3) := by decide +kernel
theorem dX5_forget_45 : decode cX5_forget 45 = .ok (.invokevirtual 95, 3) := by decide +kernel
theorem dX5_forget_48 : decode cX5_forget 48 = .ok (.iconst 0, 1) := by decide +kernel
theorem dX5_forget_49 : decode cX5_forget 49 = .ok (.istore_n 3, 1) := by decide +kernel
theorem dX5_forget_50 : decode cX5_forget 50 = .ok (.iload_n 3, 1) := by decide +kernel
theorem dX5_forget_51 : decode cX5_forget 51 = .ok (.iconst 3, 1) := by decide +kernel
theorem dX5_forget_52 : decode cX5_forget 52 = .ok (.if_icmp .ge 22, 3) := by decide +kernel
theorem dX5_forget_55 : decode cX5_forget 55 = .ok (.aload_n 0, 1) := by decide +kernel
theorem dX5_forget_56 : decode cX5_forget 56 = .ok (.getfield 7, 3) := by decide +kernel
theorem dX5_forget_59 : decode cX5_forget 59 = .ok (.iload_n 2, 1) := by decide +kernel
theorem dX5_forget_60 : decode cX5_forget 60 = .ok (.iload_n 3, 1) := by decide +kernel
theorem dX5_forget_61 : decode cX5_forget 61 = .ok (.invokestatic 75, 3) := by decide +kernel
theorem dX5_forget_64 : decode cX5_forget 64 = .ok (.iload_n 1, 1) := by decide +kernel
theorem dX5_forget_65 : decode cX5_forget 65 = .ok (.iadd, 1) := by decide +kernel
theorem dX5_forget_66 : decode cX5_forget 66 = .ok (.iconst 0, 1) := by decide +kernel
theorem dX5_forget_67 : decode cX5_forget 67 = .ok (.iastore, 1) := by decide +kernel
theorem dX5_forget_68 : decode cX5_forget 68 = .ok (.iinc 3 1, 3) := by decide +kernel
theorem dX5_forget_71 : decode cX5_forget 71 = .ok (.goto (-21), 3) := by decide +kernel
theorem dX5_forget_74 : decode cX5_forget 74 = .ok (.iconst 0, 1) := by decide +kernel
theorem dX5_forget_75 : decode cX5_forget 75 = .ok (.istore_n 3, 1) := by decide +kernel
theorem dX5_forget_76 : decode cX5_forget 76 = .ok (.iload_n 3, 1) := by decide +kernel
theorem dX5_forget_77 : decode cX5_forget 77 = .ok (.iconst 5, 1) := by decide +kernel
theorem dX5_forget_78 : decode cX5_forget 78 = .ok (.if_icmp .ge 22, 3) := by decide +kernel
theorem dX5_forget_81 : decode cX5_forget 81 = .ok (.aload_n 0, 1) := by decide +kernel
theorem dX5_forget_82 : decode cX5_forget 82 = .ok (.getfield 7, 3) := by decide +kernel
theorem dX5_forget_85 : decode cX5_forget 85 = .ok (.iload_n 2, 1) := by decide +kernel
theorem dX5_forget_86 : decode cX5_forget 86 = .ok (.iload_n 3, 1) := by decide +kernel
theorem dX5_forget_87 : decode cX5_forget 87 = .ok (.invokestatic 54, 3) := by decide +kernel
theorem dX5_forget_90 : decode cX5_forget 90 = .ok (.iload_n 1, 1) := by decide +kernel
theorem dX5_forget_91 : decode cX5_forget 91 = .ok (.iadd, 1) := by decide +kernel
theorem dX5_forget_92 : decode cX5_forget 92 = .ok (.iconst 0, 1) := by decide +kernel
theorem dX5_forget_93 : decode cX5_forget 93 = .ok (.iastore, 1) := by decide +kernel
theorem dX5_forget_94 : decode cX5_forget 94 = .ok (.iinc 3 1, 3) := by decide +kernel
theorem dX5_forget_97 : decode cX5_forget 97 = .ok (.goto (-21), 3) := by decide +kernel
theorem dX5_forget_100 : decode cX5_forget 100 = .ok (.aload_n 0, 1) := by decide +kernel
theorem dX5_forget_101 : decode cX5_forget 101 = .ok (.getfield 7, 3) := by decide +kernel
theorem dX5_forget_104 : decode cX5_forget 104 = .ok (.iload_n 2, 1) := by decide +kernel
theorem dX5_forget_105 : decode cX5_forget 105 = .ok (.iload_n 1, 1) := by decide +kernel
theorem dX5_forget_106 : decode cX5_forget 106 = .ok (.invokestatic 64, 3) := by decide +kernel
theorem dX5_forget_109 : decode cX5_forget 109 = .ok (.iaload, 1) := by decide +kernel
theorem dX5_forget_110 : decode cX5_forget 110 = .ok (.istore_n 3, 1) := by decide +kernel
theorem dX5_forget_111 : decode cX5_forget 111 = .ok (.aload_n 0, 1) := by decide +kernel
theorem dX5_forget_112 : decode cX5_forget 112 = .ok (.getfield 7, 3) := by decide +kernel
theorem dX5_forget_115 : decode cX5_forget 115 = .ok (.iload_n 2, 1) := by decide +kernel
theorem dX5_forget_116 : decode cX5_forget 116 = .ok (.iload_n 1, 1) := by decide +kernel
theorem dX5_forget_117 : decode cX5_forget 117 = .ok (.invokestatic 64, 3) := by decide +kernel
theorem dX5_forget_120 : decode cX5_forget 120 = .ok (.iconst 0, 1) := by decide +kernel
theorem dX5_forget_121 : decode cX5_forget 121 = .ok (.iastore, 1) := by decide +kernel
theorem dX5_forget_122 : decode cX5_forget 122 = .ok (.aload_n 0, 1) := by decide +kernel
theorem dX5_forget_123 : decode cX5_forget 123 = .ok (.getfield 7, 3) := by decide +kernel
theorem dX5_forget_126 : decode cX5_forget 126 = .ok (.sipush 310, 3) := by decide +kernel
theorem dX5_forget_129 : decode cX5_forget 129 = .ok (.dup2, 1) := by decide +kernel
theorem dX5_forget_130 : decode cX5_forget 130 = .ok (.iaload, 1) := by decide +kernel
theorem dX5_forget_131 : decode cX5_forget 131 = .ok (.iconst 1, 1) := by decide +kernel
theorem dX5_forget_132 : decode cX5_forget 132 = .ok (.iadd, 1) := by decide +kernel
theorem dX5_forget_133 : decode cX5_forget 133 = .ok (.iastore, 1) := by decide +kernel
theorem dX5_forget_134 : decode cX5_forget 134 = .ok (.iload_n 3, 1) := by decide +kernel
theorem dX5_forget_135 : decode cX5_forget 135 = .ok (.ireturn, 1) := by decide +kernel
theorem dX5_adds_0 : decode cX5_adds 0 = .ok (.aload_n 0, 1) := by decide +kernel
theorem dX5_adds_1 : decode cX5_adds 1 = .ok (.getfield 112, 3) := by decide +kernel
theorem dX5_adds_4 : decode cX5_adds 4 = .ok (.istore_n 2, 1) := by decide +kernel
theorem dX5_adds_5 : decode cX5_adds 5 = .ok (.iload_n 2, 1) := by decide +kernel
theorem dX5_adds_6 : decode cX5_adds 6 = .ok (.ifCond .le 103, 3) := by decide +kernel
theorem dX5_adds_9 : decode cX5_adds 9 = .ok (.aload_n 0, 1) := by decide +kernel
theorem dX5_adds_10 : decode cX5_adds 10 = .ok (.getfield 22, 3) := by decide +kernel
theorem dX5_adds_13 : decode cX5_adds 13 = .ok (.iconst 3, 1) := by decide +kernel
theorem dX5_adds_14 : decode cX5_adds 14 = .ok (.iload_n 2, 1) := by decide +kernel
theorem dX5_adds_15 : decode cX5_adds 15 = .ok (.imul, 1) := by decide +kernel
theorem dX5_adds_16 : decode cX5_adds 16 = .ok (.iconst 3, 1) := by decide +kernel
theorem dX5_adds_17 : decode cX5_adds 17 = .ok (.isub, 1) := by decide +kernel
theorem dX5_adds_18 : decode cX5_adds 18 = .ok (.iaload, 1) := by decide +kernel
theorem dX5_adds_19 : decode cX5_adds 19 = .ok (.aload_n 0, 1) := by decide +kernel
theorem dX5_adds_20 : decode cX5_adds 20 = .ok (.getfield 7, 3) := by decide +kernel
theorem dX5_adds_23 : decode cX5_adds 23 = .ok (.iload_n 1, 1) := by decide +kernel
theorem dX5_adds_24 : decode cX5_adds 24 = .ok (.iaload, 1) := by decide +kernel
theorem dX5_adds_25 : decode cX5_adds 25 = .ok (.if_icmp .gt 43, 3) := by decide +kernel
theorem dX5_adds_28 : decode cX5_adds 28 = .ok (.aload_n 0, 1) := by decide +kernel
theorem dX5_adds_29 : decode cX5_adds 29 = .ok (.getfield 22, 3) := by decide +kernel
theorem dX5_adds_32 : decode cX5_adds 32 = .ok (.iconst 3, 1) := by decide +kernel
theorem dX5_adds_33 : decode cX5_adds 33 = .ok (.iload_n 2, 1) := by decide +kernel
theorem dX5_adds_34 : decode cX5_adds 34 = .ok (.imul, 1) := by decide +kernel
theorem dX5_adds_35 : decode cX5_adds 35 = .ok (.iconst 3, 1) := by decide +kernel
theorem dX5_adds_36 : decode cX5_adds 36 = .ok (.isub, 1) := by decide +kernel
theorem dX5_adds_37 : decode cX5_adds 37 = .ok (.iaload, 1) := by decide +kernel
theorem dX5_adds_38 : decode cX5_adds 38 = .ok (.aload_n 0, 1) := by decide +kernel
theorem dX5_adds_39 : decode cX5_adds 39 = .ok (.getfield 7, 3) := by decide +kernel
theorem dX5_adds_42 : decode cX5_adds 42 = .ok (.iload_n 1, 1) := by decide +kernel
theorem dX5_adds_43 : decode cX5_adds 43 = .ok (.iaload, 1) := by decide +kernel
theorem dX5_adds_44 : decode cX5_adds 44 = .ok (.if_icmp .ne 65, 3) := by decide +kernel
theorem dX5_adds_47 : decode cX5_adds 47 = .ok (.aload_n 0, 1) := by decide +kernel
theorem dX5_adds_48 : decode cX5_adds 48 = .ok (.getfield 22, 3) := by decide +kernel
theorem dX5_adds_51 : decode cX5_adds 51 = .ok (.iconst 3, 1) := by decide +kernel
theorem dX5_adds_52 : decode cX5_adds 52 = .ok (.iload_n 2, 1) := by decide +kernel
theorem dX5_adds_53 : decode cX5_adds 53 = .ok (.imul, 1) := by decide +kernel
theorem dX5_adds_54 : decode cX5_adds 54 = .ok (.iconst 2, 1) := by decide +kernel
theorem dX5_adds_55 : decode cX5_adds 55 = .ok (.isub, 1) := by decide +kernel
theorem dX5_adds_56 : decode cX5_adds 56 = .ok (.iaload, 1) := by decide +kernel
theorem dX5_adds_57 : decode cX5_adds 57 = .ok (.aload_n 0, 1) := by decide +kernel
theorem dX5_adds_58 : decode cX5_adds 58 = .ok (.getfield 7, 3) := by decide +kernel
theorem dX5_adds_61 : decode cX5_adds 61 = .ok (.iload_n 1, 1) := by decide +kernel
theorem dX5_adds_62 : decode cX5_adds 62 = .ok (.iconst 1, 1) := by decide +kernel
theorem dX5_adds_63 : decode cX5_adds 63 = .ok (.iadd, 1) := by decide +kernel
theorem dX5_adds_64 : decode cX5_adds 64 = .ok (.iaload, 1) := by decide +kernel
theorem dX5_adds_65 : decode cX5_adds 65 = .ok (.if_icmp .le 44, 3) := by decide +kernel
theorem dX5_adds_68 : decode cX5_adds 68 = .ok (.iconst 0, 1) := by decide +kernel
theorem dX5_adds_69 : decode cX5_adds 69 = .ok (.istore_n 3, 1) := by decide +kernel
theorem dX5_adds_70 : decode cX5_adds 70 = .ok (.iload_n 3, 1) := by decide +kernel
theorem dX5_adds_71 : decode cX5_adds 71 = .ok (.iconst 3, 1) := by decide +kernel
theorem dX5_adds_72 : decode cX5_adds 72 = .ok (.if_icmp .ge 31, 3) := by decide +kernel
theorem dX5_adds_75 : decode cX5_adds 75 = .ok (.aload_n 0, 1) := by decide +kernel
theorem dX5_adds_76 : decode cX5_adds 76 = .ok (.getfield 22, 3) := by decide +kernel
theorem dX5_adds_79 : decode cX5_adds 79 = .ok (.iconst 3, 1) := by decide +kernel
theorem dX5_adds_80 : decode cX5_adds 80 = .ok (.iload_n 2, 1) := by decide +kernel
theorem dX5_adds_81 : decode cX5_adds 81 = .ok (.imul, 1) := by decide +kernel
theorem dX5_adds_82 : decode cX5_adds 82 = .ok (.iload_n 3, 1) := by decide +kernel
theorem dX5_adds_83 : decode cX5_adds 83 = .ok (.iadd, 1) := by decide +kernel
theorem dX5_adds_84 : decode cX5_adds 84 = .ok (.aload_n 0, 1) := by decide +kernel
theorem dX5_adds_85 : decode cX5_adds 85 = .ok (.getfield 22, 3) := by decide +kernel
theorem dX5_adds_88 : decode cX5_adds 88 = .ok (.iconst 3, 1) := by decide +kernel
theorem dX5_adds_89 : decode cX5_adds 89 = .ok (.iload_n 2, 1) := by decide +kernel
theorem dX5_adds_90 : decode cX5_adds 90 = .ok (.imul, 1) := by decide +kernel
theorem dX5_adds_91 : decode cX5_adds 91 = .ok (.iconst 3, 1) := by decide +kernel
theorem dX5_adds_92 : decode cX5_adds 92 = .ok (.isub, 1) := by decide +kernel
theorem dX5_adds_93 : decode cX5_adds 93 = .ok (.iload_n 3, 1) := by decide +kernel
theorem dX5_adds_94 : decode cX5_adds 94 = .ok (.iadd, 1) := by decide +kernel
theorem dX5_adds_95 : decode cX5_adds 95 = .ok (.iaload, 1) := by decide +kernel
theorem dX5_adds_96 : decode cX5_adds 96 = .ok (.iastore, 1) := by decide +kernel
theorem dX5_adds_97 : decode cX5_adds 97 = .ok (.iinc 3 1, 3) := by decide +kernel
theorem dX5_adds_100 : decode cX5_adds 100 = .ok (.goto (-30), 3) := by decide +kernel
theorem dX5_adds_103 : decode cX5_adds 103 = .ok (.iinc 2 (-1), 3) := by decide +kernel
theorem dX5_adds_106 : decode cX5_adds 106 = .ok (.goto (-101), 3) := by decide +kernel
theorem dX5_adds_109 : decode cX5_adds 109 = .ok (.iconst 0, 1) := by decide +kernel
theorem dX5_adds_110 : decode cX5_adds 110 = .ok (.istore_n 3, 1) := by decide +kernel
theorem dX5_adds_111 : decode cX5_adds 111 = .ok (.iload_n 3, 1) := by decide +kernel
theorem dX5_adds_112 : decode cX5_adds 112 = .ok (.iconst 3, 1) := by decide +kernel
theorem dX5_adds_113 : decode cX5_adds 113 = .ok (.if_icmp .ge 27, 3) := by decide +kernel
theorem dX5_adds_116 : decode cX5_adds 116 = .ok (.aload_n 0, 1) := by decide +kernel
theorem dX5_adds_117 : decode cX5_adds 117 = .ok (.getfield 22, 3) := by decide +kernel
theorem dX5_adds_120 : decode cX5_adds 120 = .ok (.iconst 3, 1) := by decide +kernel
theorem dX5_adds_121 : decode cX5_adds 121 = .ok (.iload_n 2, 1) := by decide +kernel
theorem dX5_adds_122 : decode cX5_adds 122 = .ok (.imul, 1) := by decide +kernel
theorem dX5_adds_123 : decode cX5_adds 123 = .ok (.iload_n 3, 1) := by decide +kernel
theorem dX5_adds_124 : decode cX5_adds 124 = .ok (.iadd, 1) := by decide +kernel
theorem dX5_adds_125 : decode cX5_adds 125 = .ok (.aload_n 0, 1) := by decide +kernel
theorem dX5_adds_126 : decode cX5_adds 126 = .ok (.getfield 7, 3) := by decide +kernel
theorem dX5_adds_129 : decode cX5_adds 129 = .ok (.iload_n 1, 1) := by decide +kernel
theorem dX5_adds_130 : decode cX5_adds 130 = .ok (.iload_n 3, 1) := by decide +kernel
theorem dX5_adds_131 : decode cX5_adds 131 = .ok (.iadd, 1) := by decide +kernel
theorem dX5_adds_132 : decode cX5_adds 132 = .ok (.iaload, 1) := by decide +kernel
theorem dX5_adds_133 : decode cX5_adds 133 = .ok (.iastore, 1) := by decide +kernel
theorem dX5_adds_134 : decode cX5_adds 134 = .ok (.iinc 3 1, 3) := by decide +kernel
theorem dX5_adds_137 : decode cX5_adds 137 = .ok (.goto (-26), 3) := by decide +kernel
theorem dX5_adds_140 : decode cX5_adds 140 = .ok (.aload_n 0, 1) := by decide +kernel
theorem dX5_adds_141 : decode cX5_adds 141 = .ok (.dup, 1) := by decide +kernel
theorem dX5_adds_142 : decode cX5_adds 142 = .ok (.getfield 112, 3) := by decide +kernel
theorem dX5_adds_145 : decode cX5_adds 145 = .ok (.iconst 1, 1) := by decide +kernel
theorem dX5_adds_146 : decode cX5_adds 146 = .ok (.iadd, 1) := by decide +kernel
theorem dX5_adds_147 : decode cX5_adds 147 = .ok (.putfield 112, 3) := by decide +kernel
theorem dX5_adds_150 : decode cX5_adds 150 = .ok (.return_, 1) := by decide +kernel
theorem dX5_tries_0 : decode cX5_tries 0 = .ok (.aload_n 0, 1) := by decide +kernel
theorem dX5_tries_1 : decode cX5_tries 1 = .ok (.iconst 0, 1) := by decide +kernel
theorem dX5_tries_2 : decode cX5_tries 2 = .ok (.putfield 112, 3) := by decide +kernel
theorem dX5_tries_5 : decode cX5_tries 5 = .ok (.aload_n 0, 1) := by decide +kernel
theorem dX5_tries_6 : decode cX5_tries 6 = .ok (.iconst 0, 1) := by decide +kernel
theorem dX5_tries_7 : decode cX5_tries 7 = .ok (.putfield 115, 3) := by decide +kernel
theorem dX5_tries_10 : decode cX5_tries 10 = .ok (.aload_n 0, 1) := by decide +kernel
theorem dX5_tries_11 : decode cX5_tries 11 = .ok (.iconst 0, 1) := by decide +kernel
theorem dX5_tries_12 : decode cX5_tries 12 = .ok (.putfield 118, 3) := by decide +kernel
theorem dX5_tries_15 : decode cX5_tries 15 = .ok (.iconst 0, 1) := by decide +kernel
theorem dX5_tries_16 : decode cX5_tries 16 = .ok (.istore 4, 2) := by decide +kernel
theorem dX5_tries_18 : decode cX5_tries 18 = .ok (.iload 4, 2) := by decide +kernel
theorem dX5_tries_20 : decode cX5_tries 20 = .ok (.aload_n 0, 1) := by decide +kernel
theorem dX5_tries_21 : decode cX5_tries 21 = .ok (.iload_n 3, 1) := by decide +kernel
theorem dX5_tries_22 : decode cX5_tries 22 = .ok (.iload_n 1, 1) := by decide +kernel
theorem dX5_tries_23 : decode cX5_tries 23 = .ok (.invokevirtual 47, 3) := by decide +kernel
theorem dX5_tries_26 : decode cX5_tries 26 = .ok (.if_icmp .ge 94, 3) := by decide +kernel
theorem dX5_tries_29 : decode cX5_tries 29 = .ok (.iload_n 3, 1) := by decide +kernel
theorem dX5_tries_30 : decode cX5_tries 30 = .ok (.iload_n 1, 1) := by decide +kernel
theorem dX5_tries_31 : decode cX5_tries 31 = .ok (.iload 4, 2) := by decide +kernel
theorem dX5_tries_33 : decode cX5_tries 33 = .ok (.invokestatic 50, 3) := by decide +kernel
theorem dX5_tries_36 : decode cX5_tries 36 = .ok (.istore 5, 2) := by decide +kernel
theorem dX5_tries_38 : decode cX5_tries 38 = .ok (.aload_n 0, 1) := by decide +kernel
theorem dX5_tries_39 : decode cX5_tries 39 = .ok (.iload_n 3, 1) := by decide +kernel
theorem dX5_tries_40 : decode cX5_tries 40 = .ok (.iload_n 2, 1) := by decide +kernel
theorem dX5_tries_41 : decode cX5_tries 41 = .ok (.aload_n 0, 1) := by decide +kernel
theorem dX5_tries_42 : decode cX5_tries 42 = .ok (.getfield 7, 3) := by decide +kernel
theorem dX5_tries_45 : decode cX5_tries 45 = .ok (.iload 5, 2) := by decide +kernel
theorem dX5_tries_47 : decode cX5_tries 47 = .ok (.iaload, 1) := by decide +kernel
theorem dX5_tries_48 : decode cX5_tries 48 = .ok (.aload_n 0, 1) := by decide +kernel
theorem dX5_tries_49 : decode cX5_tries 49 = .ok (.getfield 7, 3) := by decide +kernel
theorem dX5_tries_52 : decode cX5_tries 52 = .ok (.iload 5, 2) := by decide +kernel
theorem dX5_tries_54 : decode cX5_tries 54 = .ok (.iconst 1, 1) := by decide +kernel
theorem dX5_tries_55 : decode cX5_tries 55 = .ok (.iadd, 1) := by decide +kernel
theorem dX5_tries_56 : decode cX5_tries 56 = .ok (.iaload, 1) := by decide +kernel
theorem dX5_tries_57 : decode cX5_tries 57 = .ok (.invokevirtual 121, 3) := by decide +kernel
theorem dX5_tries_60 : decode cX5_tries 60 = .ok (.ifCond .ne 17, 3) := by decide +kernel
theorem dX5_tries_63 : decode cX5_tries 63 = .ok (.aload_n 0, 1) := by decide +kernel
theorem dX5_tries_64 : decode cX5_tries 64 = .ok (.iload_n 3, 1) := by decide +kernel
theorem dX5_tries_65 : decode cX5_tries 65 = .ok (.iload_n 2, 1) := by decide +kernel
theorem dX5_tries_66 : decode cX5_tries 66 = .ok (.invokestatic 75, 3) := by decide +kernel
theorem dX5_tries_69 : decode cX5_tries 69 = .ok (.iload 5, 2) := by decide +kernel
theorem dX5_tries_71 : decode cX5_tries 71 = .ok (.invokevirtual 57, 3) := by decide +kernel
theorem dX5_tries_74 : decode cX5_tries 74 = .ok (.ifCond .ne 7, 3) := by decide +kernel
theorem dX5_tries_77 : decode cX5_tries 77 = .ok (.iconst 1, 1) := by decide +kernel
theorem dX5_tries_78 : decode cX5_tries 78 = .ok (.goto 4, 3) := by decide +kernel
theorem dX5_tries_81 : decode cX5_tries 81 = .ok (.iconst 0, 1) := by decide +kernel
theorem dX5_tries_82 : decode cX5_tries 82 = .ok (.istore 6, 2) := by decide +kernel
theorem dX5_tries_84 : decode cX5_tries 84 = .ok (.aload_n 0, 1) := by decide +kernel
theorem dX5_tries_85 : decode cX5_tries 85 = .ok (.dup, 1) := by decide +kernel
theorem dX5_tries_86 : decode cX5_tries 86 = .ok (.getfield 115, 3) := by decide +kernel
theorem dX5_tries_89 : decode cX5_tries 89 = .ok (.iload 6, 2) := by decide +kernel
theorem dX5_tries_91 : decode cX5_tries 91 = .ok (.ifCond .eq 7, 3) := by decide +kernel
theorem dX5_tries_94 : decode cX5_tries 94 = .ok (.iconst 0, 1) := by decide +kernel
theorem dX5_tries_95 : decode cX5_tries 95 = .ok (.goto 4, 3) := by decide +kernel
theorem dX5_tries_98 : decode cX5_tries 98 = .ok (.iconst 1, 1) := by decide +kernel
theorem dX5_tries_99 : decode cX5_tries 99 = .ok (.iadd, 1) := by decide +kernel
theorem dX5_tries_100 : decode cX5_tries 100 = .ok (.putfield 115, 3) := by decide +kernel
theorem dX5_tries_103 : decode cX5_tries 103 = .ok (.iload 6, 2) := by decide +kernel
theorem dX5_tries_105 : decode cX5_tries 105 = .ok (.ifCond .eq 9, 3) := by decide +kernel
theorem dX5_tries_108 : decode cX5_tries 108 = .ok (.aload_n 0, 1) := by decide +kernel
theorem dX5_tries_109 : decode cX5_tries 109 = .ok (.iload 5, 2) := by decide +kernel
theorem dX5_tries_111 : decode cX5_tries 111 = .ok (.invokevirtual 125, 3) := by decide +kernel
theorem dX5_tries_114 : decode cX5_tries 114 = .ok (.iinc 4 1, 3) := by decide +kernel
theorem dX5_tries_117 : decode cX5_tries 117 = .ok (.goto (-99), 3) := by decide +kernel
theorem dX5_tries_120 : decode cX5_tries 120 = .ok (.iconst 0, 1) := by decide +kernel
theorem dX5_tries_121 : decode cX5_tries 121 = .ok (.istore 4, 2) := by decide +kernel
theorem dX5_tries_123 : decode cX5_tries 123 = .ok (.iload 4, 2) := by decide +kernel
theorem dX5_tries_125 : decode cX5_tries 125 = .ok (.aload_n 0, 1) := by decide +kernel
theorem dX5_tries_126 : decode cX5_tries 126 = .ok (.iload_n 3, 1) := by decide +kernel
theorem dX5_tries_127 : decode cX5_tries 127 = .ok (.iload_n 2, 1) := by decide +kernel
theorem dX5_tries_128 : decode cX5_tries 128 = .ok (.invokevirtual 47, 3) := by decide +kernel
theorem dX5_tries_131 : decode cX5_tries 131 = .ok (.if_icmp .ge 73, 3) := by decide +kernel
theorem dX5_tries_134 : decode cX5_tries 134 = .ok (.iload_n 3, 1) := by decide +kernel
theorem dX5_tries_135 : decode cX5_tries 135 = .ok (.iload_n 2, 1) := by decide +kernel
theorem dX5_tries_136 : decode cX5_tries 136 = .ok (.iload 4, 2) := by decide +kernel
theorem dX5_tries_138 : decode cX5_tries 138 = .ok (.invokestatic 50, 3) := by decide +kernel
theorem dX5_tries_141 : decode cX5_tries 141 = .ok (.istore 5, 2) := by decide +kernel
theorem dX5_tries_143 : decode cX5_tries 143 = .ok (.aload_n 0, 1) := by decide +kernel
theorem dX5_tries_144 : decode cX5_tries 144 = .ok (.iload_n 3, 1) := by decide +kernel
theorem dX5_tries_145 : decode cX5_tries 145 = .ok (.iload_n 1, 1) := by decide +kernel
theorem dX5_tries_146 : decode cX5_tries 146 = .ok (.aload_n 0, 1) := by decide +kernel
theorem dX5_tries_147 : decode cX5_tries 147 = .ok (.getfield 7, 3) := by decide +kernel
theorem dX5_tries_150 : decode cX5_tries 150 = .ok (.iload 5, 2) := by decide +kernel
theorem dX5_tries_152 : decode cX5_tries 152 = .ok (.iaload, 1) := by decide +kernel
theorem dX5_tries_153 : decode cX5_tries 153 = .ok (.aload_n 0, 1) := by decide +kernel
theorem dX5_tries_154 : decode cX5_tries 154 = .ok (.getfield 7, 3) := by decide +kernel
theorem dX5_tries_157 : decode cX5_tries 157 = .ok (.iload 5, 2) := by decide +kernel
theorem dX5_tries_159 : decode cX5_tries 159 = .ok (.iconst 1, 1) := by decide +kernel
theorem dX5_tries_160 : decode cX5_tries 160 = .ok (.iadd, 1) := by decide +kernel
theorem dX5_tries_161 : decode cX5_tries 161 = .ok (.iaload, 1) := by decide +kernel
theorem dX5_tries_162 : decode cX5_tries 162 = .ok (.invokevirtual 121, 3) := by decide +kernel
theorem dX5_tries_165 : decode cX5_tries 165 = .ok (.ifCond .ne 33, 3) := by decide +kernel
theorem dX5_tries_168 : decode cX5_tries 168 = .ok (.aload_n 0, 1) := by decide +kernel
theorem dX5_tries_169 : decode cX5_tries 169 = .ok (.iload_n 3, 1) := by decide +kernel
theorem dX5_tries_170 : decode cX5_tries 170 = .ok (.iload_n 1, 1) := by decide +kernel
theorem dX5_tries_171 : decode cX5_tries 171 = .ok (.invokestatic 75, 3) := by decide +kernel
theorem dX5_tries_174 : decode cX5_tries 174 = .ok (.iload 5, 2) := by decide +kernel
theorem dX5_tries_176 : decode cX5_tries 176 = .ok (.invokevirtual 57, 3) := by decide +kernel
theorem dX5_tries_179 : decode cX5_tries 179 = .ok (.ifCond .ne 19, 3) := by decide +kernel
theorem dX5_tries_182 : decode cX5_tries 182 = .ok (.aload_n 0, 1) := by decide +kernel
theorem dX5_tries_183 : decode cX5_tries 183 = .ok (.iload 5, 2) := by decide +kernel
theorem dX5_tries_185 : decode cX5_tries 185 = .ok (.invokevirtual 125, 3) := by decide +kernel
theorem dX5_tries_188 : decode cX5_tries 188 = .ok (.aload_n 0, 1) := by decide +kernel
theorem dX5_tries_189 : decode cX5_tries 189 = .ok (.dup, 1) := by decide +kernel
theorem dX5_tries_190 : decode cX5_tries 190 = .ok (.getfield 118, 3) := by decide +kernel
theorem dX5_tries_193 : decode cX5_tries 193 = .ok (.iconst 1, 1) := by decide +kernel
theorem dX5_tries_194 : decode cX5_tries 194 = .ok (.iadd, 1) := by decide +kernel
theorem dX5_tries_195 : decode cX5_tries 195 = .ok (.putfield 118, 3) := by decide +kernel
theorem dX5_tries_198 : decode cX5_tries 198 = .ok (.iinc 4 1, 3) := by decide +kernel
theorem dX5_tries_201 : decode cX5_tries 201 = .ok (.goto (-78), 3) := by decide +kernel
theorem dX5_tries_204 : decode cX5_tries 204 = .ok (.return_, 1) := by decide +kernel
theorem dX5_pulls_0 : decode cX5_pulls 0 = .ok (.aload_n 0, 1) := by decide +kernel
theorem dX5_pulls_1 : decode cX5_pulls 1 = .ok (.getfield 7, 3) := by decide +kernel
theorem dX5_pulls_4 : decode cX5_pulls 4 = .ok (.iload_n 3, 1) := by decide +kernel
theorem dX5_pulls_5 : decode cX5_pulls 5 = .ok (.iload_n 1, 1) := by decide +kernel
theorem dX5_pulls_6 : decode cX5_pulls 6 = .ok (.invokestatic 43, 3) := by decide +kernel
theorem dX5_pulls_9 : decode cX5_pulls 9 = .ok (.aload_n 0, 1) := by decide +kernel
theorem dX5_pulls_10 : decode cX5_pulls 10 = .ok (.getfield 112, 3) := by decide +kernel
theorem dX5_pulls_13 : decode cX5_pulls 13 = .ok (.iastore, 1) := by decide +kernel
theorem dX5_pulls_14 : decode cX5_pulls 14 = .ok (.iconst 0, 1) := by decide +kernel
theorem dX5_pulls_15 : decode cX5_pulls 15 = .ok (.istore 4, 2) := by decide +kernel
theorem dX5_pulls_17 : decode cX5_pulls 17 = .ok (.iload 4, 2) := by decide +kernel
theorem dX5_pulls_19 : decode cX5_pulls 19 = .ok (.iconst 3, 1) := by decide +kernel
theorem dX5_pulls_20 : decode cX5_pulls 20 = .ok (.aload_n 0, 1) := by decide +kernel
theorem dX5_pulls_21 : decode cX5_pulls 21 = .ok (.getfield 112, 3) := by decide +kernel
theorem dX5_pulls_24 : decode cX5_pulls 24 = .ok (.imul, 1) := by decide +kernel
theorem dX5_pulls_25 : decode cX5_pulls 25 = .ok (.if_icmp .ge 30, 3) := by decide +kernel
theorem dX5_pulls_28 : decode cX5_pulls 28 = .ok (.aload_n 0, 1) := by decide +kernel
theorem dX5_pulls_29 : decode cX5_pulls 29 = .ok (.getfield 7, 3) := by decide +kernel
theorem dX5_pulls_32 : decode cX5_pulls 32 = .ok (.iload_n 3, 1) := by decide +kernel
theorem dX5_pulls_33 : decode cX5_pulls 33 = .ok (.iload_n 1, 1) := by decide +kernel
theorem dX5_pulls_34 : decode cX5_pulls 34 = .ok (.iconst 0, 1) := by decide +kernel
theorem dX5_pulls_35 : decode cX5_pulls 35 = .ok (.invokestatic 50, 3) := by decide +kernel
theorem dX5_pulls_38 : decode cX5_pulls 38 = .ok (.iload 4, 2) := by decide +kernel
theorem dX5_pulls_40 : decode cX5_pulls 40 = .ok (.iadd, 1) := by decide +kernel
theorem dX5_pulls_41 : decode cX5_pulls 41 = .ok (.aload_n 0, 1) := by decide +kernel
theorem dX5_pulls_42 : decode cX5_pulls 42 = .ok (.getfield 22, 3) := by decide +kernel
theorem dX5_pulls_45 : decode cX5_pulls 45 = .ok (.iload 4, 2) := by decide +kernel
theorem dX5_pulls_47 : decode cX5_pulls 47 = .ok (.iaload, 1) := by decide +kernel
theorem dX5_pulls_48 : decode cX5_pulls 48 = .ok (.iastore, 1) := by decide +kernel
theorem dX5_pulls_49 : decode cX5_pulls 49 = .ok (.iinc 4 1, 3) := by decide +kernel
theorem dX5_pulls_52 : decode cX5_pulls 52 = .ok (.goto (-35), 3) := by decide +kernel
theorem dX5_pulls_55 : decode cX5_pulls 55 = .ok (.aload_n 0, 1) := by decide +kernel
theorem dX5_pulls_56 : decode cX5_pulls 56 = .ok (.iload_n 3, 1) := by decide +kernel
theorem dX5_pulls_57 : decode cX5_pulls 57 = .ok (.iload_n 1, 1) := by decide +kernel
theorem dX5_pulls_58 : decode cX5_pulls 58 = .ok (.invokestatic 75, 3) := by decide +kernel
theorem dX5_pulls_61 : decode cX5_pulls 61 = .ok (.iload_n 3, 1) := by decide +kernel
theorem dX5_pulls_62 : decode cX5_pulls 62 = .ok (.iload_n 2, 1) := by decide +kernel
theorem dX5_pulls_63 : decode cX5_pulls 63 = .ok (.invokestatic 75, 3) := by decide +kernel
theorem dX5_pulls_66 : decode cX5_pulls 66 = .ok (.invokevirtual 78, 3) := by decide +kernel
theorem dX5_pulls_69 : decode cX5_pulls 69 = .ok (.aload_n 0, 1) := by decide +kernel
theorem dX5_pulls_70 : decode cX5_pulls 70 = .ok (.getfield 7, 3) := by decide +kernel
theorem dX5_pulls_73 : decode cX5_pulls 73 = .ok (.sipush 308, 3) := by decide +kernel
theorem dX5_pulls_76 : decode cX5_pulls 76 = .ok (.dup2, 1) := by decide +kernel
theorem dX5_pulls_77 : decode cX5_pulls 77 = .ok (.iaload, 1) := by decide +kernel
theorem dX5_pulls_78 : decode cX5_pulls 78 = .ok (.aload_n 0, 1) := by decide +kernel
theorem dX5_pulls_79 : decode cX5_pulls 79 = .ok (.getfield 115, 3) := by decide +kernel
theorem dX5_pulls_82 : decode cX5_pulls 82 = .ok (.iadd, 1) := by decide +kernel
theorem dX5_pulls_83 : decode cX5_pulls 83 = .ok (.iastore, 1) := by decide +kernel
theorem dX5_pulls_84 : decode cX5_pulls 84 = .ok (.aload_n 0, 1) := by decide +kernel
theorem dX5_pulls_85 : decode cX5_pulls 85 = .ok (.getfield 115, 3) := by decide +kernel
theorem dX5_pulls_88 : decode cX5_pulls 88 = .ok (.ireturn, 1) := by decide +kernel
theorem dX5_pull_0 : decode cX5_pull 0 = .ok (.aload_n 0, 1) := by decide +kernel
theorem dX5_pull_1 : decode cX5_pull 1 = .ok (.iconst 0, 1) := by decide +kernel
theorem dX5_pull_2 : decode cX5_pull 2 = .ok (.putfield 32, 3) := by decide +kernel
theorem dX5_pull_5 : decode cX5_pull 5 = .ok (.iload_n 1, 1) := by decide +kernel
theorem dX5_pull_6 : decode cX5_pull 6 = .ok (.invokestatic 89, 3) := by decide +kernel
theorem dX5_pull_9 : decode cX5_pull 9 = .ok (.ifCond .eq 17, 3) := by decide +kernel
theorem dX5_pull_12 : decode cX5_pull 12 = .ok (.iload_n 2, 1) := by decide +kernel
theorem dX5_pull_13 : decode cX5_pull 13 = .ok (.invokestatic 89, 3) := by decide +kernel
theorem dX5_pull_16 : decode cX5_pull 16 = .ok (.ifCond .eq 10, 3) := by decide +kernel
theorem dX5_pull_19 : decode cX5_pull 19 = .ok (.iload_n 3, 1) := by decide +kernel
theorem dX5_pull_20 : decode cX5_pull 20 = .ok (.invokestatic 86, 3) := by decide +kernel
theorem dX5_pull_23 : decode cX5_pull 23 = .ok (.ifCond .ne 9, 3) := by decide +kernel
theorem dX5_pull_26 : decode cX5_pull 26 = .ok (.aload_n 0, 1) := by decide +kernel
theorem dX5_pull_27 : decode cX5_pull 27 = .ok (.iconst 1, 1) := by decide +kernel
theorem dX5_pull_28 : decode cX5_pull 28 = .ok (.invokevirtual 39, 3) := by decide +kernel
theorem dX5_pull_31 : decode cX5_pull 31 = .ok (.ireturn, 1) := by decide +kernel
theorem dX5_pull_32 : decode cX5_pull 32 = .ok (.iload_n 1, 1) := by decide +kernel
theorem dX5_pull_33 : decode cX5_pull 33 = .ok (.iload_n 2, 1) := by decide +kernel
theorem dX5_pull_34 : decode cX5_pull 34 = .ok (.if_icmp .ne 9, 3) := by decide +kernel
theorem dX5_pull_37 : decode cX5_pull 37 = .ok (.aload_n 0, 1) := by decide +kernel
theorem dX5_pull_38 : decode cX5_pull 38 = .ok (.iconst 2, 1) := by decide +kernel
theorem dX5_pull_39 : decode cX5_pull 39 = .ok (.invokevirtual 39, 3) := by decide +kernel
theorem dX5_pull_42 : decode cX5_pull 42 = .ok (.ireturn, 1) := by decide +kernel
theorem dX5_pull_43 : decode cX5_pull 43 = .ok (.aload_n 0, 1) := by decide +kernel
theorem dX5_pull_44 : decode cX5_pull 44 = .ok (.iload_n 1, 1) := by decide +kernel
theorem dX5_pull_45 : decode cX5_pull 45 = .ok (.iload_n 2, 1) := by decide +kernel
theorem dX5_pull_46 : decode cX5_pull 46 = .ok (.iload_n 3, 1) := by decide +kernel
theorem dX5_pull_47 : decode cX5_pull 47 = .ok (.invokevirtual 129, 3) := by decide +kernel
theorem dX5_pull_50 : decode cX5_pull 50 = .ok (.aload_n 0, 1) := by decide +kernel
theorem dX5_pull_51 : decode cX5_pull 51 = .ok (.getfield 112, 3) := by decide +kernel
theorem dX5_pull_54 : decode cX5_pull 54 = .ok (.iconst 4, 1) := by decide +kernel
theorem dX5_pull_55 : decode cX5_pull 55 = .ok (.if_icmp .le 9, 3) := by decide +kernel
theorem dX5_pull_58 : decode cX5_pull 58 = .ok (.aload_n 0, 1) := by decide +kernel
theorem dX5_pull_59 : decode cX5_pull 59 = .ok (.iconst 3, 1) := by decide +kernel
theorem dX5_pull_60 : decode cX5_pull 60 = .ok (.invokevirtual 39, 3) := by decide +kernel
theorem dX5_pull_63 : decode cX5_pull 63 = .ok (.ireturn, 1) := by decide +kernel
theorem dX5_pull_64 : decode cX5_pull 64 = .ok (.aload_n 0, 1) := by decide +kernel
theorem dX5_pull_65 : decode cX5_pull 65 = .ok (.aload_n 0, 1) := by decide +kernel
theorem dX5_pull_66 : decode cX5_pull 66 = .ok (.getfield 7, 3) := by decide +kernel
theorem dX5_pull_69 : decode cX5_pull 69 = .ok (.invokevirtual 95, 3) := by decide +kernel
theorem dX5_pull_72 : decode cX5_pull 72 = .ok (.aload_n 0, 1) := by decide +kernel
theorem dX5_pull_73 : decode cX5_pull 73 = .ok (.iload_n 1, 1) := by decide +kernel
theorem dX5_pull_74 : decode cX5_pull 74 = .ok (.iload_n 2, 1) := by decide +kernel
theorem dX5_pull_75 : decode cX5_pull 75 = .ok (.iload_n 3, 1) := by decide +kernel
theorem dX5_pull_76 : decode cX5_pull 76 = .ok (.invokevirtual 132, 3) := by decide +kernel
theorem dX5_pull_79 : decode cX5_pull 79 = .ok (.ireturn, 1) := by decide +kernel
theorem dX5_pullAll_0 : decode cX5_pullAll 0 = .ok (.aload_n 0, 1) := by decide +kernel
theorem dX5_pullAll_1 : decode cX5_pullAll 1 = .ok (.iconst 0, 1) := by decide +kernel
theorem dX5_pullAll_2 : decode cX5_pullAll 2 = .ok (.putfield 32, 3) := by decide +kernel
theorem dX5_pullAll_5 : decode cX5_pullAll 5 = .ok (.iconst 0, 1) := by decide +kernel
theorem dX5_pullAll_6 : decode cX5_pullAll 6 = .ok (.istore_n 1, 1) := by decide +kernel
theorem dX5_pullAll_7 : decode cX5_pullAll 7 = .ok (.iload_n 1, 1) := by decide +kernel
theorem dX5_pullAll_8 : decode cX5_pullAll 8 = .ok (.sipush 311, 3) := by decide +kernel
theorem dX5_pullAll_11 : decode cX5_pullAll 11 = .ok (.if_icmp .ge 21, 3) := by decide +kernel
theorem dX5_pullAll_14 : decode cX5_pullAll 14 = .ok (.aload_n 0, 1) := by decide +kernel
theorem dX5_pullAll_15 : decode cX5_pullAll 15 = .ok (.getfield 13, 3) := by decide +kernel
theorem dX5_pullAll_18 : decode cX5_pullAll 18 = .ok (.iload_n 1, 1) := by decide +kernel
theorem dX5_pullAll_19 : decode cX5_pullAll 19 = .ok (.aload_n 0, 1) := by decide +kernel
theorem dX5_pullAll_20 : decode cX5_pullAll 20 = .ok (.getfield 7, 3) := by decide +kernel
theorem dX5_pullAll_23 : decode cX5_pullAll 23 = .ok (.iload_n 1, 1) := by decide +kernel
theorem dX5_pullAll_24 : decode cX5_pullAll 24 = .ok (.iaload, 1) := by decide +kernel
theorem dX5_pullAll_25 : decode cX5_pullAll 25 = .ok (.iastore, 1) := by decide +kernel
theorem dX5_pullAll_26 : decode cX5_pullAll 26 = .ok (.iinc 1 1, 3) := by decide +kernel
theorem dX5_pullAll_29 : decode cX5_pullAll 29 = .ok (.goto (-22), 3) := by decide +kernel
theorem dX5_pullAll_32 : decode cX5_pullAll 32 = .ok (.iconst 0, 1) := by decide +kernel
theorem dX5_pullAll_33 : decode cX5_pullAll 33 = .ok (.istore_n 1, 1) := by decide +kernel
theorem dX5_pullAll_34 : decode cX5_pullAll 34 = .ok (.iconst 1, 1) := by decide +kernel
theorem dX5_pullAll_35 : decode cX5_pullAll 35 = .ok (.istore_n 2, 1) := by decide +kernel
theorem dX5_pullAll_36 : decode cX5_pullAll 36 = .ok (.iconst 0, 1) := by decide +kernel
theorem dX5_pullAll_37 : decode cX5_pullAll 37 = .ok (.istore_n 3, 1) := by decide +kernel
theorem dX5_pullAll_38 : decode cX5_pullAll 38 = .ok (.iload_n 3, 1) := by decide +kernel
theorem dX5_pullAll_39 : decode cX5_pullAll 39 = .ok (.bipush 27, 2) := by decide +kernel
theorem dX5_pullAll_41 : decode cX5_pullAll 41 = .ok (.if_icmp .ge 81, 3) := by decide +kernel
theorem dX5_pullAll_44 : decode cX5_pullAll 44 = .ok (.iload_n 2, 1) := by decide +kernel
theorem dX5_pullAll_45 : decode cX5_pullAll 45 = .ok (.ifCond .eq 77, 3) := by decide +kernel
theorem dX5_pullAll_48 : decode cX5_pullAll 48 = .ok (.iload_n 3, 1) := by decide +kernel
theorem dX5_pullAll_49 : decode cX5_pullAll 49 = .ok (.iconst 3, 1) := by decide +kernel
theorem dX5_pullAll_50 : decode cX5_pullAll 50 = .ok (.idiv, 1) := by decide +kernel
theorem dX5_pullAll_51 : decode cX5_pullAll 51 = .ok (.iconst 3, 1) := by decide +kernel
theorem dX5_pullAll_52 : decode cX5_pullAll 52 = .ok (.irem, 1) := by decide +kernel
theorem dX5_pullAll_53 : decode cX5_pullAll 53 = .ok (.istore 4, 2) := by decide +kernel
theorem dX5_pullAll_55 : decode cX5_pullAll 55 = .ok (.iload_n 3, 1) := by decide +kernel
theorem dX5_pullAll_56 : decode cX5_pullAll 56 = .ok (.iconst 3, 1) := by decide +kernel
theorem dX5_pullAll_57 : decode cX5_pullAll 57 = .ok (.irem, 1) := by decide +kernel
theorem dX5_pullAll_58 : decode cX5_pullAll 58 = .ok (.istore 5, 2) := by decide +kernel
theorem dX5_pullAll_60 : decode cX5_pullAll 60 = .ok (.iload 4, 2) := by decide +kernel
theorem dX5_pullAll_62 : decode cX5_pullAll 62 = .ok (.iload 5, 2) := by decide +kernel
theorem dX5_pullAll_64 : decode cX5_pullAll 64 = .ok (.if_icmp .eq 52, 3) := by decide +kernel
theorem dX5_pullAll_67 : decode cX5_pullAll 67 = .ok (.aload_n 0, 1) := by decide +kernel
theorem dX5_pullAll_68 : decode cX5_pullAll 68 = .ok (.iload 4, 2) := by decide +kernel
theorem dX5_pullAll_70 : decode cX5_pullAll 70 = .ok (.iload 5, 2) := by decide +kernel
theorem dX5_pullAll_72 : decode cX5_pullAll 72 = .ok (.iload_n 3, 1) := by decide +kernel
theorem dX5_pullAll_73 : decode cX5_pullAll 73 = .ok (.bipush 9, 2) := by decide +kernel
theorem dX5_pullAll_75 : decode cX5_pullAll 75 = .ok (.idiv, 1) := by decide +kernel
theorem dX5_pullAll_76 : decode cX5_pullAll 76 = .ok (.invokevirtual 129, 3) := by decide +kernel
theorem dX5_pullAll_79 : decode cX5_pullAll 79 = .ok (.aload_n 0, 1) := by decide +kernel
theorem dX5_pullAll_80 : decode cX5_pullAll 80 = .ok (.getfield 112, 3) := by decide +kernel
theorem dX5_pullAll_83 : decode cX5_pullAll 83 = .ok (.iconst 4, 1) := by decide +kernel
theorem dX5_pullAll_84 : decode cX5_pullAll 84 = .ok (.if_icmp .gt 7, 3) := by decide +kernel
theorem dX5_pullAll_87 : decode cX5_pullAll 87 = .ok (.iconst 1, 1) := by decide +kernel
theorem dX5_pullAll_88 : decode cX5_pullAll 88 = .ok (.goto 4, 3) := by decide +kernel
theorem dX5_pullAll_91 : decode cX5_pullAll 91 = .ok (.iconst 0, 1) := by decide +kernel
theorem dX5_pullAll_92 : decode cX5_pullAll 92 = .ok (.istore_n 2, 1) := by decide +kernel
theorem dX5_pullAll_93 : decode cX5_pullAll 93 = .ok (.iload_n 1, 1) := by decide +kernel
theorem dX5_pullAll_94 : decode cX5_pullAll 94 = .ok (.iload_n 2, 1) := by decide +kernel
theorem dX5_pullAll_95 : decode cX5_pullAll 95 = .ok (.ifCond .eq 18, 3) := by decide +kernel
theorem dX5_pullAll_98 : decode cX5_pullAll 98 = .ok (.aload_n 0, 1) := by decide +kernel
theorem dX5_pullAll_99 : decode cX5_pullAll 99 = .ok (.iload 4, 2) := by decide +kernel
theorem dX5_pullAll_101 : decode cX5_pullAll 101 = .ok (.iload 5, 2) := by decide +kernel
theorem dX5_pullAll_103 : decode cX5_pullAll 103 = .ok (.iload_n 3, 1) := by decide +kernel
theorem dX5_pullAll_104 : decode cX5_pullAll 104 = .ok (.bipush 9, 2) := by decide +kernel
theorem dX5_pullAll_106 : decode cX5_pullAll 106 = .ok (.idiv, 1) := by decide +kernel
theorem dX5_pullAll_107 : decode cX5_pullAll 107 = .ok (.invokevirtual 132, 3) := by decide +kernel
theorem dX5_pullAll_110 : decode cX5_pullAll 110 = .ok (.goto 4, 3) := by decide +kernel
theorem dX5_pullAll_113 : decode cX5_pullAll 113 = .ok (.iconst 0, 1) := by decide +kernel
theorem dX5_pullAll_114 : decode cX5_pullAll 114 = .ok (.iadd, 1) := by decide +kernel
theorem dX5_pullAll_115 : decode cX5_pullAll 115 = .ok (.istore_n 1, 1) := by decide +kernel
theorem dX5_pullAll_116 : decode cX5_pullAll 116 = .ok (.iinc 3 1, 3) := by decide +kernel
theorem dX5_pullAll_119 : decode cX5_pullAll 119 = .ok (.goto (-81), 3) := by decide +kernel
theorem dX5_pullAll_122 : decode cX5_pullAll 122 = .ok (.iload_n 2, 1) := by decide +kernel
theorem dX5_pullAll_123 : decode cX5_pullAll 123 = .ok (.ifCond .ne 36, 3) := by decide +kernel
theorem dX5_pullAll_126 : decode cX5_pullAll 126 = .ok (.iconst 0, 1) := by decide +kernel
theorem dX5_pullAll_127 : decode cX5_pullAll 127 = .ok (.istore_n 3, 1) := by decide +kernel
theorem dX5_pullAll_128 : decode cX5_pullAll 128 = .ok (.iload_n 3, 1) := by decide +kernel
theorem dX5_pullAll_129 : decode cX5_pullAll 129 = .ok (.sipush 311, 3) := by decide +kernel
theorem dX5_pullAll_132 : decode cX5_pullAll 132 = .ok (.if_icmp .ge 21, 3) := by decide +kernel
theorem dX5_pullAll_135 : decode cX5_pullAll 135 = .ok (.aload_n 0, 1) := by decide +kernel
theorem dX5_pullAll_136 : decode cX5_pullAll 136 = .ok (.getfield 7, 3) := by decide +kernel
theorem dX5_pullAll_139 : decode cX5_pullAll 139 = .ok (.iload_n 3, 1) := by decide +kernel
theorem dX5_pullAll_140 : decode cX5_pullAll 140 = .ok (.aload_n 0, 1) := by decide +kernel
theorem dX5_pullAll_141 : decode cX5_pullAll 141 = .ok (.getfield 13, 3) := by decide +kernel
theorem dX5_pullAll_144 : decode cX5_pullAll 144 = .ok (.iload_n 3, 1) := by decide +kernel
theorem dX5_pullAll_145 : decode cX5_pullAll 145 = .ok (.iaload, 1) := by decide +kernel
theorem dX5_pullAll_146 : decode cX5_pullAll 146 = .ok (.iastore, 1) := by decide +kernel
theorem dX5_pullAll_147 : decode cX5_pullAll 147 = .ok (.iinc 3 1, 3) := by decide +kernel
theorem dX5_pullAll_150 : decode cX5_pullAll 150 = .ok (.goto (-22), 3) := by decide +kernel
theorem dX5_pullAll_153 : decode cX5_pullAll 153 = .ok (.aload_n 0, 1) := by decide +kernel
theorem dX5_pullAll_154 : decode cX5_pullAll 154 = .ok (.iconst 1, 1) := by decide +kernel
theorem dX5_pullAll_155 : decode cX5_pullAll 155 = .ok (.invokevirtual 39, 3) := by decide +kernel
theorem dX5_pullAll_158 : decode cX5_pullAll 158 = .ok (.ireturn, 1) := by decide +kernel
theorem dX5_pullAll_159 : decode cX5_pullAll 159 = .ok (.aload_n 0, 1) := by decide +kernel
theorem dX5_pullAll_160 : decode cX5_pullAll 160 = .ok (.aload_n 0, 1) := by decide +kernel
theorem dX5_pullAll_161 : decode cX5_pullAll 161 = .ok (.getfield 13, 3) := by decide +kernel
theorem dX5_pullAll_164 : decode cX5_pullAll 164 = .ok (.invokevirtual 95, 3) := by decide +kernel
theorem dX5_pullAll_167 : decode cX5_pullAll 167 = .ok (.iload_n 1, 1) := by decide +kernel
theorem dX5_pullAll_168 : decode cX5_pullAll 168 = .ok (.ireturn, 1) := by decide +kernel
theorem dX5_append_0 : decode cX5_append 0 = .ok (.aload_n 0, 1) := by decide +kernel
theorem dX5_append_1 : decode cX5_append 1 = .ok (.iconst 0, 1) := by decide +kernel
theorem dX5_append_2 : decode cX5_append 2 = .ok (.putfield 32, 3) := by decide +kernel
theorem dX5_append_5 : decode cX5_append 5 = .ok (.iload_n 1, 1) := by decide +kernel
theorem dX5_append_6 : decode cX5_append 6 = .ok (.bipush 33, 2) := by decide +kernel
theorem dX5_append_8 : decode cX5_append 8 = .ok (.bipush 126, 2) := by decide +kernel
theorem dX5_append_10 : decode cX5_append 10 = .ok (.invokestatic 35, 3) := by decide +kernel
theorem dX5_append_13 : decode cX5_append 13 = .ok (.ifCond .ne 9, 3) := by decide +kernel
theorem dX5_append_16 : decode cX5_append 16 = .ok (.aload_n 0, 1) := by decide +kernel
theorem dX5_append_17 : decode cX5_append 17 = .ok (.iconst 1, 1) := by decide +kernel
theorem dX5_append_18 : decode cX5_append 18 = .ok (.invokevirtual 39, 3) := by decide +kernel
theorem dX5_append_21 : decode cX5_append 21 = .ok (.ireturn, 1) := by decide +kernel
theorem dX5_append_22 : decode cX5_append 22 = .ok (.aload_n 0, 1) := by decide +kernel
theorem dX5_append_23 : decode cX5_append 23 = .ok (.getfield 135, 3) := by decide +kernel
theorem dX5_append_26 : decode cX5_append 26 = .ok (.bipush 60, 2) := by decide +kernel
theorem dX5_append_28 : decode cX5_append 28 = .ok (.if_icmp .ne 9, 3) := by decide +kernel
theorem dX5_append_31 : decode cX5_append 31 = .ok (.aload_n 0, 1) := by decide +kernel
theorem dX5_append_32 : decode cX5_append 32 = .ok (.iconst 2, 1) := by decide +kernel
theorem dX5_append_33 : decode cX5_append 33 = .ok (.invokevirtual 39, 3) := by decide +kernel
theorem dX5_append_36 : decode cX5_append 36 = .ok (.ireturn, 1) := by decide +kernel
theorem dX5_append_37 : decode cX5_append 37 = .ok (.aload_n 0, 1) := by decide +kernel
theorem dX5_append_38 : decode cX5_append 38 = .ok (.getfield 19, 3) := by decide +kernel
theorem dX5_append_41 : decode cX5_append 41 = .ok (.aload_n 0, 1) := by decide +kernel
theorem dX5_append_42 : decode cX5_append 42 = .ok (.getfield 135, 3) := by decide +kernel
theorem dX5_append_45 : decode cX5_append 45 = .ok (.iload_n 1, 1) := by decide +kernel
theorem dX5_append_46 : decode cX5_append 46 = .ok (.iastore, 1) := by decide +kernel
theorem dX5_append_47 : decode cX5_append 47 = .ok (.aload_n 0, 1) := by decide +kernel
theorem dX5_append_48 : decode cX5_append 48 = .ok (.dup, 1) := by decide +kernel
theorem dX5_append_49 : decode cX5_append 49 = .ok (.getfield 135, 3) := by decide +kernel
theorem dX5_append_52 : decode cX5_append 52 = .ok (.iconst 1, 1) := by decide +kernel
theorem dX5_append_53 : decode cX5_append 53 = .ok (.iadd, 1) := by decide +kernel
theorem dX5_append_54 : decode cX5_append 54 = .ok (.putfield 135, 3) := by decide +kernel
theorem dX5_append_57 : decode cX5_append 57 = .ok (.aload_n 0, 1) := by decide +kernel
theorem dX5_append_58 : decode cX5_append 58 = .ok (.getfield 135, 3) := by decide +kernel
theorem dX5_append_61 : decode cX5_append 61 = .ok (.ireturn, 1) := by decide +kernel
theorem dX5_clearBuffer_0 : decode cX5_clearBuffer 0 = .ok (.aload_n 0, 1) := by decide +kernel
theorem dX5_clearBuffer_1 : decode cX5_clearBuffer 1 = .ok (.iconst 0, 1) := by decide +kernel
theorem dX5_clearBuffer_2 : decode cX5_clearBuffer 2 = .ok (.putfield 32, 3) := by decide +kernel
theorem dX5_clearBuffer_5 : decode cX5_clearBuffer 5 = .ok (.aload_n 0, 1) := by decide +kernel
theorem dX5_clearBuffer_6 : decode cX5_clearBuffer 6 = .ok (.getfield 135, 3) := by decide +kernel
theorem dX5_clearBuffer_9 : decode cX5_clearBuffer 9 = .ok (.istore_n 1, 1) := by decide +kernel
theorem dX5_clearBuffer_10 : decode cX5_clearBuffer 10 = .ok (.aload_n 0, 1) := by decide +kernel
theorem dX5_clearBuffer_11 : decode cX5_clearBuffer 11 = .ok (.iconst 0, 1) := by decide +kernel
theorem dX5_clearBuffer_12 : decode cX5_clearBuffer 12 = .ok (.putfield 135, 3) := by decide +kernel
theorem dX5_clearBuffer_15 : decode cX5_clearBuffer 15 = .ok (.iload_n 1, 1) := by decide +kernel
theorem dX5_clearBuffer_16 : decode cX5_clearBuffer 16 = .ok (.ireturn, 1) := by decide +kernel
theorem dX5_isAt_0 : decode cX5_isAt 0 = .ok (.aload_n 0, 1) := by decide +kernel
theorem dX5_isAt_1 : decode cX5_isAt 1 = .ok (.getfield 138, 3) := by decide +kernel
theorem dX5_isAt_4 : decode cX5_isAt 4 = .ok (.aload_n 0, 1) := by decide +kernel
theorem dX5_isAt_5 : decode cX5_isAt 5 = .ok (.getfield 135, 3) := by decide +kernel
theorem dX5_isAt_8 : decode cX5_isAt 8 = .ok (.if_icmp .ge 24, 3) := by decide +kernel
theorem dX5_isAt_11 : decode cX5_isAt 11 = .ok (.aload_n 0, 1) := by decide +kernel
theorem dX5_isAt_12 : decode cX5_isAt 12 = .ok (.getfield 19, 3) := by decide +kernel
theorem dX5_isAt_15 : decode cX5_isAt 15 = .ok (.aload_n 0, 1) := by decide +kernel
theorem dX5_isAt_16 : decode cX5_isAt 16 = .ok (.getfield 138, 3) := by decide +kernel
theorem dX5_isAt_19 : decode cX5_isAt 19 = .ok (.iaload, 1) := by decide +kernel
theorem dX5_isAt_20 : decode cX5_isAt 20 = .ok (.iload_n 1, 1) := by decide +kernel
theorem dX5_isAt_21 : decode cX5_isAt 21 = .ok (.iload_n 2, 1) := by decide +kernel
theorem dX5_isAt_22 : decode cX5_isAt 22 = .ok (.invokestatic 35, 3) := by decide +kernel
theorem dX5_isAt_25 : decode cX5_isAt 25 = .ok (.ifCond .eq 7, 3) := by decide +kernel
theorem dX5_isAt_28 : decode cX5_isAt 28 = .ok (.iconst 1, 1) := by decide +kernel
theorem dX5_isAt_29 : decode cX5_isAt 29 = .ok (.goto 4, 3) := by decide +kernel
theorem dX5_isAt_32 : decode cX5_isAt 32 = .ok (.iconst 0, 1) := by decide +kernel
theorem dX5_isAt_33 : decode cX5_isAt 33 = .ok (.ireturn, 1) := by decide +kernel
theorem dX5_stops_0 : decode cX5_stops 0 = .ok (.aload_n 0, 1) := by decide +kernel
theorem dX5_stops_1 : decode cX5_stops 1 = .ok (.aload_n 0, 1) := by decide +kernel
theorem dX5_stops_2 : decode cX5_stops 2 = .ok (.getfield 138, 3) := by decide +kernel
theorem dX5_stops_5 : decode cX5_stops 5 = .ok (.aload_n 0, 1) := by decide +kernel
theorem dX5_stops_6 : decode cX5_stops 6 = .ok (.getfield 135, 3) := by decide +kernel
theorem dX5_stops_9 : decode cX5_stops 9 = .ok (.if_icmp .ge 7, 3) := by decide +kernel
theorem dX5_stops_12 : decode cX5_stops 12 = .ok (.iconst 1, 1) := by decide +kernel
theorem dX5_stops_13 : decode cX5_stops 13 = .ok (.goto 4, 3) := by decide +kernel
theorem dX5_stops_16 : decode cX5_stops 16 = .ok (.iconst 0, 1) := by decide +kernel
theorem dX5_stops_17 : decode cX5_stops 17 = .ok (.putfield 141, 3) := by decide +kernel
theorem dX5_stops_20 : decode cX5_stops 20 = .ok (.iconst 0, 1) := by decide +kernel
theorem dX5_stops_21 : decode cX5_stops 21 = .ok (.ireturn, 1) := by decide +kernel
theorem dX5_takes_0 : decode cX5_takes 0 = .ok (.aload_n 0, 1) := by decide +kernel
theorem dX5_takes_1 : decode cX5_takes 1 = .ok (.iload_n 1, 1) := by decide +kernel
theorem dX5_takes_2 : decode cX5_takes 2 = .ok (.iload_n 1, 1) := by decide +kernel
theorem dX5_takes_3 : decode cX5_takes 3 = .ok (.invokevirtual 145, 3) := by decide +kernel
theorem dX5_takes_6 : decode cX5_takes 6 = .ok (.istore_n 2, 1) := by decide +kernel
theorem dX5_takes_7 : decode cX5_takes 7 = .ok (.aload_n 0, 1) := by decide +kernel
theorem dX5_takes_8 : decode cX5_takes 8 = .ok (.dup, 1) := by decide +kernel
theorem dX5_takes_9 : decode cX5_takes 9 = .ok (.getfield 138, 3) := by decide +kernel
theorem dX5_takes_12 : decode cX5_takes 12 = .ok (.iload_n 2, 1) := by decide +kernel
theorem dX5_takes_13 : decode cX5_takes 13 = .ok (.ifCond .eq 7, 3) := by decide +kernel
theorem dX5_takes_16 : decode cX5_takes 16 = .ok (.iconst 1, 1) := by decide +kernel
theorem dX5_takes_17 : decode cX5_takes 17 = .ok (.goto 4, 3) := by decide +kernel
theorem dX5_takes_20 : decode cX5_takes 20 = .ok (.iconst 0, 1) := by decide +kernel
theorem dX5_takes_21 : decode cX5_takes 21 = .ok (.iadd, 1) := by decide +kernel
theorem dX5_takes_22 : decode cX5_takes 22 = .ok (.putfield 138, 3) := by decide +kernel
theorem dX5_takes_25 : decode cX5_takes 25 = .ok (.iload_n 2, 1) := by decide +kernel
theorem dX5_takes_26 : decode cX5_takes 26 = .ok (.ireturn, 1) := by decide +kernel
theorem dX5_takesPart_0 : decode cX5_takesPart 0 = .ok (.aload_n 0, 1) := by decide +kernel
theorem dX5_takesPart_1 : decode cX5_takesPart 1 = .ok (.bipush 48, 2) := by decide +kernel
theorem dX5_takesPart_3 : decode cX5_takesPart 3 = .ok (.iload_n 2, 1) := by decide +kernel
theorem dX5_takesPart_4 : decode cX5_takesPart 4 = .ok (.invokevirtual 145, 3) := by decide +kernel
theorem dX5_takesPart_7 : decode cX5_takesPart 7 = .ok (.ifCond .ne 8, 3) := by decide +kernel
theorem dX5_takesPart_10 : decode cX5_takesPart 10 = .ok (.aload_n 0, 1) := by decide +kernel
theorem dX5_takesPart_11 : decode cX5_takesPart 11 = .ok (.invokevirtual 148, 3) := by decide +kernel
theorem dX5_takesPart_14 : decode cX5_takesPart 14 = .ok (.ireturn, 1) := by decide +kernel
theorem dX5_takesPart_15 : decode cX5_takesPart 15 = .ok (.aload_n 0, 1) := by decide +kernel
theorem dX5_takesPart_16 : decode cX5_takesPart 16 = .ok (.getfield 25, 3) := by decide +kernel
theorem dX5_takesPart_19 : decode cX5_takesPart 19 = .ok (.iconst 5, 1) := by decide +kernel
theorem dX5_takesPart_20 : decode cX5_takesPart 20 = .ok (.aload_n 0, 1) := by decide +kernel
theorem dX5_takesPart_21 : decode cX5_takesPart 21 = .ok (.getfield 152, 3) := by decide +kernel
theorem dX5_takesPart_24 : decode cX5_takesPart 24 = .ok (.imul, 1) := by decide +kernel
theorem dX5_takesPart_25 : decode cX5_takesPart 25 = .ok (.iload_n 1, 1) := by decide +kernel
theorem dX5_takesPart_26 : decode cX5_takesPart 26 = .ok (.iadd, 1) := by decide +kernel
theorem dX5_takesPart_27 : decode cX5_takesPart 27 = .ok (.aload_n 0, 1) := by decide +kernel
theorem dX5_takesPart_28 : decode cX5_takesPart 28 = .ok (.getfield 19, 3) := by decide +kernel
theorem dX5_takesPart_31 : decode cX5_takesPart 31 = .ok (.aload_n 0, 1) := by decide +kernel
theorem dX5_takesPart_32 : decode cX5_takesPart 32 = .ok (.getfield 138, 3) := by decide +kernel
theorem dX5_takesPart_35 : decode cX5_takesPart 35 = .ok (.iaload, 1) := by decide +kernel
theorem dX5_takesPart_36 : decode cX5_takesPart 36 = .ok (.bipush 48, 2) := by decide +kernel
theorem dX5_takesPart_38 : decode cX5_takesPart 38 = .ok (.isub, 1) := by decide +kernel
theorem dX5_takesPart_39 : decode cX5_takesPart 39 = .ok (.iastore, 1) := by decide +kernel
theorem dX5_takesPart_40 : decode cX5_takesPart 40 = .ok (.aload_n 0, 1) := by decide +kernel
theorem dX5_takesPart_41 : decode cX5_takesPart 41 = .ok (.dup, 1) := by decide +kernel
theorem dX5_takesPart_42 : decode cX5_takesPart 42 = .ok (.getfield 138, 3) := by decide +kernel
theorem dX5_takesPart_45 : decode cX5_takesPart 45 = .ok (.iconst 1, 1) := by decide +kernel
theorem dX5_takesPart_46 : decode cX5_takesPart 46 = .ok (.iadd, 1) := by decide +kernel
theorem dX5_takesPart_47 : decode cX5_takesPart 47 = .ok (.putfield 138, 3) := by decide +kernel
theorem dX5_takesPart_50 : decode cX5_takesPart 50 = .ok (.iconst 1, 1) := by decide +kernel
theorem dX5_takesPart_51 : decode cX5_takesPart 51 = .ok (.ireturn, 1) := by decide +kernel
theorem dX5_takesValue_0 : decode cX5_takesValue 0 = .ok (.aload_n 0, 1) := by decide +kernel
theorem dX5_takesValue_1 : decode cX5_takesValue 1 = .ok (.bipush 48, 2) := by decide +kernel
theorem dX5_takesValue_3 : decode cX5_takesValue 3 = .ok (.bipush 57, 2) := by decide +kernel
theorem dX5_takesValue_5 : decode cX5_takesValue 5 = .ok (.invokevirtual 145, 3) := by decide +kernel
theorem dX5_takesValue_8 : decode cX5_takesValue 8 = .ok (.ifCond .ne 8, 3) := by decide +kernel
theorem dX5_takesValue_11 : decode cX5_takesValue 11 = .ok (.aload_n 0, 1) := by decide +kernel
theorem dX5_takesValue_12 : decode cX5_takesValue 12 = .ok (.invokevirtual 148, 3) := by decide +kernel
theorem dX5_takesValue_15 : decode cX5_takesValue 15 = .ok (.ireturn, 1) := by decide +kernel
theorem dX5_takesValue_16 : decode cX5_takesValue 16 = .ok (.aload_n 0, 1) := by decide +kernel
theorem dX5_takesValue_17 : decode cX5_takesValue 17 = .ok (.getfield 19, 3) := by decide +kernel
theorem dX5_takesValue_20 : decode cX5_takesValue 20 = .ok (.aload_n 0, 1) := by decide +kernel
theorem dX5_takesValue_21 : decode cX5_takesValue 21 = .ok (.getfield 138, 3) := by decide +kernel
theorem dX5_takesValue_24 : decode cX5_takesValue 24 = .ok (.iaload, 1) := by decide +kernel
theorem dX5_takesValue_25 : decode cX5_takesValue 25 = .ok (.bipush 48, 2) := by decide +kernel
theorem dX5_takesValue_27 : decode cX5_takesValue 27 = .ok (.isub, 1) := by decide +kernel
theorem dX5_takesValue_28 : decode cX5_takesValue 28 = .ok (.istore_n 1, 1) := by decide +kernel
theorem dX5_takesValue_29 : decode cX5_takesValue 29 = .ok (.aload_n 0, 1) := by decide +kernel
theorem dX5_takesValue_30 : decode cX5_takesValue 30 = .ok (.dup, 1) := by decide +kernel
theorem dX5_takesValue_31 : decode cX5_takesValue 31 = .ok (.getfield 138, 3) := by decide +kernel
theorem dX5_takesValue_34 : decode cX5_takesValue 34 = .ok (.iconst 1, 1) := by decide +kernel
theorem dX5_takesValue_35 : decode cX5_takesValue 35 = .ok (.iadd, 1) := by decide +kernel
theorem dX5_takesValue_36 : decode cX5_takesValue 36 = .ok (.putfield 138, 3) := by decide +kernel
theorem dX5_takesValue_39 : decode cX5_takesValue 39 = .ok (.iload_n 1, 1) := by decide +kernel
theorem dX5_takesValue_40 : decode cX5_takesValue 40 = .ok (.ifCond .le 42, 3) := by decide +kernel
theorem dX5_takesValue_43 : decode cX5_takesValue 43 = .ok (.aload_n 0, 1) := by decide +kernel
theorem dX5_takesValue_44 : decode cX5_takesValue 44 = .ok (.bipush 48, 2) := by decide +kernel
theorem dX5_takesValue_46 : decode cX5_takesValue 46 = .ok (.bipush 57, 2) := by decide +kernel
theorem dX5_takesValue_48 : decode cX5_takesValue 48 = .ok (.invokevirtual 145, 3) := by decide +kernel
theorem dX5_takesValue_51 : decode cX5_takesValue 51 = .ok (.ifCond .eq 31, 3) := by decide +kernel
theorem dX5_takesValue_54 : decode cX5_takesValue 54 = .ok (.bipush 10, 2) := by decide +kernel
theorem dX5_takesValue_56 : decode cX5_takesValue 56 = .ok (.iload_n 1, 1) := by decide +kernel
theorem dX5_takesValue_57 : decode cX5_takesValue 57 = .ok (.imul, 1) := by decide +kernel
theorem dX5_takesValue_58 : decode cX5_takesValue 58 = .ok (.aload_n 0, 1) := by decide +kernel
theorem dX5_takesValue_59 : decode cX5_takesValue 59 = .ok (.getfield 19, 3) := by decide +kernel
theorem dX5_takesValue_62 : decode cX5_takesValue 62 = .ok (.aload_n 0, 1) := by decide +kernel
theorem dX5_takesValue_63 : decode cX5_takesValue 63 = .ok (.getfield 138, 3) := by decide +kernel
theorem dX5_takesValue_66 : decode cX5_takesValue 66 = .ok (.iaload, 1) := by decide +kernel
theorem dX5_takesValue_67 : decode cX5_takesValue 67 = .ok (.iadd, 1) := by decide +kernel
theorem dX5_takesValue_68 : decode cX5_takesValue 68 = .ok (.bipush 48, 2) := by decide +kernel
theorem dX5_takesValue_70 : decode cX5_takesValue 70 = .ok (.isub, 1) := by decide +kernel
theorem dX5_takesValue_71 : decode cX5_takesValue 71 = .ok (.istore_n 1, 1) := by decide +kernel
theorem dX5_takesValue_72 : decode cX5_takesValue 72 = .ok (.aload_n 0, 1) := by decide +kernel
theorem dX5_takesValue_73 : decode cX5_takesValue 73 = .ok (.dup, 1) := by decide +kernel
theorem dX5_takesValue_74 : decode cX5_takesValue 74 = .ok (.getfield 138, 3) := by decide +kernel
theorem dX5_takesValue_77 : decode cX5_takesValue 77 = .ok (.iconst 1, 1) := by decide +kernel
theorem dX5_takesValue_78 : decode cX5_takesValue 78 = .ok (.iadd, 1) := by decide +kernel
theorem dX5_takesValue_79 : decode cX5_takesValue 79 = .ok (.putfield 138, 3) := by decide +kernel
theorem dX5_takesValue_82 : decode cX5_takesValue 82 = .ok (.aload_n 0, 1) := by decide +kernel
theorem dX5_takesValue_83 : decode cX5_takesValue 83 = .ok (.getfield 25, 3) := by decide +kernel
theorem dX5_takesValue_86 : decode cX5_takesValue 86 = .ok (.iconst 5, 1) := by decide +kernel
theorem dX5_takesValue_87 : decode cX5_takesValue 87 = .ok (.aload_n 0, 1) := by decide +kernel
theorem dX5_takesValue_88 : decode cX5_takesValue 88 = .ok (.getfield 152, 3) := by decide +kernel
theorem dX5_takesValue_91 : decode cX5_takesValue 91 = .ok (.imul, 1) := by decide +kernel
theorem dX5_takesValue_92 : decode cX5_takesValue 92 = .ok (.iconst 4, 1) := by decide +kernel
theorem dX5_takesValue_93 : decode cX5_takesValue 93 = .ok (.iadd, 1) := by decide +kernel
theorem dX5_takesValue_94 : decode cX5_takesValue 94 = .ok (.iload_n 1, 1) := by decide +kernel
theorem dX5_takesValue_95 : decode cX5_takesValue 95 = .ok (.iastore, 1) := by decide +kernel
theorem dX5_takesValue_96 : decode cX5_takesValue 96 = .ok (.iconst 1, 1) := by decide +kernel
theorem dX5_takesValue_97 : decode cX5_takesValue 97 = .ok (.ireturn, 1) := by decide +kernel
theorem dX5_takesOne_0 : decode cX5_takesOne 0 = .ok (.aload_n 0, 1) := by decide +kernel
theorem dX5_takesOne_1 : decode cX5_takesOne 1 = .ok (.bipush 119, 2) := by decide +kernel
theorem dX5_takesOne_3 : decode cX5_takesOne 3 = .ok (.invokevirtual 155, 3) := by decide +kernel
theorem dX5_takesOne_6 : decode cX5_takesOne 6 = .ok (.istore_n 1, 1) := by decide +kernel
theorem dX5_takesOne_7 : decode cX5_takesOne 7 = .ok (.iload_n 1, 1) := by decide +kernel
theorem dX5_takesOne_8 : decode cX5_takesOne 8 = .ok (.ifCond .ne 17, 3) := by decide +kernel
theorem dX5_takesOne_11 : decode cX5_takesOne 11 = .ok (.aload_n 0, 1) := by decide +kernel
theorem dX5_takesOne_12 : decode cX5_takesOne 12 = .ok (.bipush 114, 2) := by decide +kernel
theorem dX5_takesOne_14 : decode cX5_takesOne 14 = .ok (.invokevirtual 155, 3) := by decide +kernel
theorem dX5_takesOne_17 : decode cX5_takesOne 17 = .ok (.ifCond .ne 8, 3) := by decide +kernel
theorem dX5_takesOne_20 : decode cX5_takesOne 20 = .ok (.aload_n 0, 1) := by decide +kernel
theorem dX5_takesOne_21 : decode cX5_takesOne 21 = .ok (.invokevirtual 148, 3) := by decide +kernel
theorem dX5_takesOne_24 : decode cX5_takesOne 24 = .ok (.ireturn, 1) := by decide +kernel
theorem dX5_takesOne_25 : decode cX5_takesOne 25 = .ok (.aload_n 0, 1) := by decide +kernel
theorem dX5_takesOne_26 : decode cX5_takesOne 26 = .ok (.getfield 25, 3) := by decide +kernel
theorem dX5_takesOne_29 : decode cX5_takesOne 29 = .ok (.iconst 5, 1) := by decide +kernel
theorem dX5_takesOne_30 : decode cX5_takesOne 30 = .ok (.aload_n 0, 1) := by decide +kernel
theorem dX5_takesOne_31 : decode cX5_takesOne 31 = .ok (.getfield 152, 3) := by decide +kernel
theorem dX5_takesOne_34 : decode cX5_takesOne 34 = .ok (.imul, 1) := by decide +kernel
theorem dX5_takesOne_35 : decode cX5_takesOne 35 = .ok (.iload_n 1, 1) := by decide +kernel
theorem dX5_takesOne_36 : decode cX5_takesOne 36 = .ok (.ifCond .eq 7, 3) := by decide +kernel
theorem dX5_takesOne_39 : decode cX5_takesOne 39 = .ok (.iconst 1, 1) := by decide +kernel
theorem dX5_takesOne_40 : decode cX5_takesOne 40 = .ok (.goto 4, 3) := by decide +kernel
theorem dX5_takesOne_43 : decode cX5_takesOne 43 = .ok (.iconst 0, 1) := by decide +kernel
theorem dX5_takesOne_44 : decode cX5_takesOne 44 = .ok (.iastore, 1) := by decide +kernel
theorem dX5_takesOne_45 : decode cX5_takesOne 45 = .ok (.aload_n 0, 1) := by decide +kernel
theorem dX5_takesOne_46 : decode cX5_takesOne 46 = .ok (.iconst 1, 1) := by decide +kernel
theorem dX5_takesOne_47 : decode cX5_takesOne 47 = .ok (.bipush 52, 2) := by decide +kernel
theorem dX5_takesOne_49 : decode cX5_takesOne 49 = .ok (.invokevirtual 158, 3) := by decide +kernel
theorem dX5_takesOne_52 : decode cX5_takesOne 52 = .ok (.ifCond .ne 5, 3) := by decide +kernel
theorem dX5_takesOne_55 : decode cX5_takesOne 55 = .ok (.iconst 0, 1) := by decide +kernel
theorem dX5_takesOne_56 : decode cX5_takesOne 56 = .ok (.ireturn, 1) := by decide +kernel
theorem dX5_takesOne_57 : decode cX5_takesOne 57 = .ok (.aload_n 0, 1) := by decide +kernel
theorem dX5_takesOne_58 : decode cX5_takesOne 58 = .ok (.bipush 107, 2) := by decide +kernel
theorem dX5_takesOne_60 : decode cX5_takesOne 60 = .ok (.invokevirtual 155, 3) := by decide +kernel
theorem dX5_takesOne_63 : decode cX5_takesOne 63 = .ok (.ifCond .ne 8, 3) := by decide +kernel
theorem dX5_takesOne_66 : decode cX5_takesOne 66 = .ok (.aload_n 0, 1) := by decide +kernel
theorem dX5_takesOne_67 : decode cX5_takesOne 67 = .ok (.invokevirtual 148, 3) := by decide +kernel
theorem dX5_takesOne_70 : decode cX5_takesOne 70 = .ok (.ireturn, 1) := by decide +kernel
theorem dX5_takesOne_71 : decode cX5_takesOne 71 = .ok (.aload_n 0, 1) := by decide +kernel
theorem dX5_takesOne_72 : decode cX5_takesOne 72 = .ok (.iconst 2, 1) := by decide +kernel
theorem dX5_takesOne_73 : decode cX5_takesOne 73 = .ok (.bipush 50, 2) := by decide +kernel
theorem dX5_takesOne_75 : decode cX5_takesOne 75 = .ok (.invokevirtual 158, 3) := by decide +kernel
theorem dX5_takesOne_78 : decode cX5_takesOne 78 = .ok (.ifCond .ne 5, 3) := by decide +kernel
theorem dX5_takesOne_81 : decode cX5_takesOne 81 = .ok (.iconst 0, 1) := by decide +kernel
theorem dX5_takesOne_82 : decode cX5_takesOne 82 = .ok (.ireturn, 1) := by decide +kernel
theorem dX5_takesOne_83 : decode cX5_takesOne 83 = .ok (.aload_n 0, 1) := by decide +kernel
theorem dX5_takesOne_84 : decode cX5_takesOne 84 = .ok (.bipush 115, 2) := by decide +kernel
theorem dX5_takesOne_86 : decode cX5_takesOne 86 = .ok (.invokevirtual 155, 3) := by decide +kernel
theorem dX5_takesOne_89 : decode cX5_takesOne 89 = .ok (.ifCond .ne 8, 3) := by decide +kernel
theorem dX5_takesOne_92 : decode cX5_takesOne 92 = .ok (.aload_n 0, 1) := by decide +kernel
theorem dX5_takesOne_93 : decode cX5_takesOne 93 = .ok (.invokevirtual 148, 3) := by decide +kernel
theorem dX5_takesOne_96 : decode cX5_takesOne 96 = .ok (.ireturn, 1) := by decide +kernel
theorem dX5_takesOne_97 : decode cX5_takesOne 97 = .ok (.aload_n 0, 1) := by decide +kernel
theorem dX5_takesOne_98 : decode cX5_takesOne 98 = .ok (.iconst 3, 1) := by decide +kernel
theorem dX5_takesOne_99 : decode cX5_takesOne 99 = .ok (.bipush 50, 2) := by decide +kernel
theorem dX5_takesOne_101 : decode cX5_takesOne 101 = .ok (.invokevirtual 158, 3) := by decide +kernel
theorem dX5_takesOne_104 : decode cX5_takesOne 104 = .ok (.ifCond .ne 5, 3) := by decide +kernel
theorem dX5_takesOne_107 : decode cX5_takesOne 107 = .ok (.iconst 0, 1) := by decide +kernel
theorem dX5_takesOne_108 : decode cX5_takesOne 108 = .ok (.ireturn, 1) := by decide +kernel
theorem dX5_takesOne_109 : decode cX5_takesOne 109 = .ok (.iload_n 1, 1) := by decide +kernel
theorem dX5_takesOne_110 : decode cX5_takesOne 110 = .ok (.ifCond .ne 5, 3) := by decide +kernel
theorem dX5_takesOne_113 : decode cX5_takesOne 113 = .ok (.iconst 1, 1) := by decide +kernel
theorem dX5_takesOne_114 : decode cX5_takesOne 114 = .ok (.ireturn, 1) := by decide +kernel
theorem dX5_takesOne_115 : decode cX5_takesOne 115 = .ok (.aload_n 0, 1) := by decide +kernel
theorem dX5_takesOne_116 : decode cX5_takesOne 116 = .ok (.bipush 61, 2) := by decide +kernel
theorem dX5_takesOne_118 : decode cX5_takesOne 118 = .ok (.invokevirtual 155, 3) := by decide +kernel
theorem dX5_takesOne_121 : decode cX5_takesOne 121 = .ok (.ifCond .eq 10, 3) := by decide +kernel
theorem dX5_takesOne_124 : decode cX5_takesOne 124 = .ok (.aload_n 0, 1) := by decide +kernel
theorem dX5_takesOne_125 : decode cX5_takesOne 125 = .ok (.invokevirtual 161, 3) := by decide +kernel
theorem dX5_takesOne_128 : decode cX5_takesOne 128 = .ok (.goto 7, 3) := by decide +kernel
theorem dX5_takesOne_131 : decode cX5_takesOne 131 = .ok (.aload_n 0, 1) := by decide +kernel
theorem dX5_takesOne_132 : decode cX5_takesOne 132 = .ok (.invokevirtual 148, 3) := by decide +kernel
theorem dX5_takesOne_135 : decode cX5_takesOne 135 = .ok (.ireturn, 1) := by decide +kernel
theorem dX5_isText_0 : decode cX5_isText 0 = .ok (.aload_n 0, 1) := by decide +kernel
theorem dX5_isText_1 : decode cX5_isText 1 = .ok (.iconst 0, 1) := by decide +kernel
theorem dX5_isText_2 : decode cX5_isText 2 = .ok (.putfield 138, 3) := by decide +kernel
theorem dX5_isText_5 : decode cX5_isText 5 = .ok (.aload_n 0, 1) := by decide +kernel
theorem dX5_isText_6 : decode cX5_isText 6 = .ok (.iconst 0, 1) := by decide +kernel
theorem dX5_isText_7 : decode cX5_isText 7 = .ok (.putfield 152, 3) := by decide +kernel
theorem dX5_isText_10 : decode cX5_isText 10 = .ok (.aload_n 0, 1) := by decide +kernel
theorem dX5_isText_11 : decode cX5_isText 11 = .ok (.iconst 0, 1) := by decide +kernel
theorem dX5_isText_12 : decode cX5_isText 12 = .ok (.putfield 141, 3) := by decide +kernel
theorem dX5_isText_15 : decode cX5_isText 15 = .ok (.iconst 1, 1) := by decide +kernel
theorem dX5_isText_16 : decode cX5_isText 16 = .ok (.istore_n 1, 1) := by decide +kernel
theorem dX5_isText_17 : decode cX5_isText 17 = .ok (.iload_n 1, 1) := by decide +kernel
theorem dX5_isText_18 : decode cX5_isText 18 = .ok (.ifCond .eq 32, 3) := by decide +kernel
theorem dX5_isText_21 : decode cX5_isText 21 = .ok (.aload_n 0, 1) := by decide +kernel
theorem dX5_isText_22 : decode cX5_isText 22 = .ok (.invokevirtual 164, 3) := by decide +kernel
theorem dX5_isText_25 : decode cX5_isText 25 = .ok (.ifCond .ne 5, 3) := by decide +kernel
theorem dX5_isText_28 : decode cX5_isText 28 = .ok (.iconst 0, 1) := by decide +kernel
theorem dX5_isText_29 : decode cX5_isText 29 = .ok (.ireturn, 1) := by decide +kernel
theorem dX5_isText_30 : decode cX5_isText 30 = .ok (.aload_n 0, 1) := by decide +kernel
theorem dX5_isText_31 : decode cX5_isText 31 = .ok (.dup, 1) := by decide +kernel
theorem dX5_isText_32 : decode cX5_isText 32 = .ok (.getfield 152, 3) := by decide +kernel
theorem dX5_isText_35 : decode cX5_isText 35 = .ok (.iconst 1, 1) := by decide +kernel
theorem dX5_isText_36 : decode cX5_isText 36 = .ok (.iadd, 1) := by decide +kernel
theorem dX5_isText_37 : decode cX5_isText 37 = .ok (.putfield 152, 3) := by decide +kernel
theorem dX5_isText_40 : decode cX5_isText 40 = .ok (.aload_n 0, 1) := by decide +kernel
theorem dX5_isText_41 : decode cX5_isText 41 = .ok (.bipush 59, 2) := by decide +kernel
theorem dX5_isText_43 : decode cX5_isText 43 = .ok (.invokevirtual 155, 3) := by decide +kernel
theorem dX5_isText_46 : decode cX5_isText 46 = .ok (.istore_n 1, 1) := by decide +kernel
theorem dX5_isText_47 : decode cX5_isText 47 = .ok (.goto (-30), 3) := by decide +kernel
theorem dX5_isText_50 : decode cX5_isText 50 = .ok (.aload_n 0, 1) := by decide +kernel
theorem dX5_isText_51 : decode cX5_isText 51 = .ok (.aload_n 0, 1) := by decide +kernel
theorem dX5_isText_52 : decode cX5_isText 52 = .ok (.getfield 138, 3) := by decide +kernel
theorem dX5_isText_55 : decode cX5_isText 55 = .ok (.aload_n 0, 1) := by decide +kernel
theorem dX5_isText_56 : decode cX5_isText 56 = .ok (.getfield 135, 3) := by decide +kernel
theorem dX5_isText_59 : decode cX5_isText 59 = .ok (.if_icmp .ge 7, 3) := by decide +kernel
theorem dX5_isText_62 : decode cX5_isText 62 = .ok (.iconst 1, 1) := by decide +kernel
theorem dX5_isText_63 : decode cX5_isText 63 = .ok (.goto 4, 3) := by decide +kernel
theorem dX5_isText_66 : decode cX5_isText 66 = .ok (.iconst 0, 1) := by decide +kernel
theorem dX5_isText_67 : decode cX5_isText 67 = .ok (.putfield 141, 3) := by decide +kernel
theorem dX5_isText_70 : decode cX5_isText 70 = .ok (.aload_n 0, 1) := by decide +kernel
theorem dX5_isText_71 : decode cX5_isText 71 = .ok (.getfield 138, 3) := by decide +kernel
theorem dX5_isText_74 : decode cX5_isText 74 = .ok (.aload_n 0, 1) := by decide +kernel
theorem dX5_isText_75 : decode cX5_isText 75 = .ok (.getfield 135, 3) := by decide +kernel
theorem dX5_isText_78 : decode cX5_isText 78 = .ok (.if_icmp .ne 7, 3) := by decide +kernel
theorem dX5_isText_81 : decode cX5_isText 81 = .ok (.iconst 1, 1) := by decide +kernel
theorem dX5_isText_82 : decode cX5_isText 82 = .ok (.goto 4, 3) := by decide +kernel
theorem dX5_isText_85 : decode cX5_isText 85 = .ok (.iconst 0, 1) := by decide +kernel
theorem dX5_isText_86 : decode cX5_isText 86 = .ok (.ireturn, 1) := by decide +kernel
theorem dX5_firstError_0 : decode cX5_firstError 0 = .ok (.aload_n 0, 1) := by decide +kernel
theorem dX5_firstError_1 : decode cX5_firstError 1 = .ok (.iconst 0, 1) := by decide +kernel
theorem dX5_firstError_2 : decode cX5_firstError 2 = .ok (.putfield 32, 3) := by decide +kernel
theorem dX5_firstError_5 : decode cX5_firstError 5 = .ok (.aload_n 0, 1) := by decide +kernel
theorem dX5_firstError_6 : decode cX5_firstError 6 = .ok (.invokevirtual 167, 3) := by decide +kernel
theorem dX5_firstError_9 : decode cX5_firstError 9 = .ok (.istore_n 1, 1) := by decide +kernel
theorem dX5_firstError_10 : decode cX5_firstError 10 = .ok (.iload_n 1, 1) := by decide +kernel
theorem dX5_firstError_11 : decode cX5_firstError 11 = .ok (.ifCond .ne 17, 3) := by decide +kernel
theorem dX5_firstError_14 : decode cX5_firstError 14 = .ok (.aload_n 0, 1) := by decide +kernel
theorem dX5_firstError_15 : decode cX5_firstError 15 = .ok (.getfield 141, 3) := by decide +kernel
theorem dX5_firstError_18 : decode cX5_firstError 18 = .ok (.ifCond .eq 10, 3) := by decide +kernel
theorem dX5_firstError_21 : decode cX5_firstError 21 = .ok (.aload_n 0, 1) := by decide +kernel
theorem dX5_firstError_22 : decode cX5_firstError 22 = .ok (.getfield 138, 3) := by decide +kernel
theorem dX5_firstError_25 : decode cX5_firstError 25 = .ok (.goto 7, 3) := by decide +kernel
theorem dX5_firstError_28 : decode cX5_firstError 28 = .ok (.aload_n 0, 1) := by decide +kernel
theorem dX5_firstError_29 : decode cX5_firstError 29 = .ok (.getfield 135, 3) := by decide +kernel
theorem dX5_firstError_32 : decode cX5_firstError 32 = .ok (.ireturn, 1) := by decide +kernel
theorem dX5_does_0 : decode cX5_does 0 = .ok (.iconst 5, 1) := by decide +kernel
theorem dX5_does_1 : decode cX5_does 1 = .ok (.iload_n 1, 1) := by decide +kernel
theorem dX5_does_2 : decode cX5_does 2 = .ok (.imul, 1) := by decide +kernel
theorem dX5_does_3 : decode cX5_does 3 = .ok (.istore_n 2, 1) := by decide +kernel
theorem dX5_does_4 : decode cX5_does 4 = .ok (.aload_n 0, 1) := by decide +kernel
theorem dX5_does_5 : decode cX5_does 5 = .ok (.getfield 25, 3) := by decide +kernel
theorem dX5_does_8 : decode cX5_does 8 = .ok (.iload_n 2, 1) := by decide +kernel
theorem dX5_does_9 : decode cX5_does 9 = .ok (.iconst 1, 1) := by decide +kernel
theorem dX5_does_10 : decode cX5_does 10 = .ok (.iadd, 1) := by decide +kernel
theorem dX5_does_11 : decode cX5_does 11 = .ok (.iaload, 1) := by decide +kernel
theorem dX5_does_12 : decode cX5_does 12 = .ok (.istore_n 3, 1) := by decide +kernel
theorem dX5_does_13 : decode cX5_does 13 = .ok (.aload_n 0, 1) := by decide +kernel
theorem dX5_does_14 : decode cX5_does 14 = .ok (.getfield 25, 3) := by decide +kernel
theorem dX5_does_17 : decode cX5_does 17 = .ok (.iload_n 2, 1) := by decide +kernel
theorem dX5_does_18 : decode cX5_does 18 = .ok (.iconst 2, 1) := by decide +kernel
theorem dX5_does_19 : decode cX5_does 19 = .ok (.iadd, 1) := by decide +kernel
theorem dX5_does_20 : decode cX5_does 20 = .ok (.iaload, 1) := by decide +kernel
theorem dX5_does_21 : decode cX5_does 21 = .ok (.istore 4, 2) := by decide +kernel
theorem dX5_does_23 : decode cX5_does 23 = .ok (.aload_n 0, 1) := by decide +kernel
theorem dX5_does_24 : decode cX5_does 24 = .ok (.getfield 25, 3) := by decide +kernel
theorem dX5_does_27 : decode cX5_does 27 = .ok (.iload_n 2, 1) := by decide +kernel
theorem dX5_does_28 : decode cX5_does 28 = .ok (.iconst 3, 1) := by decide +kernel
theorem dX5_does_29 : decode cX5_does 29 = .ok (.iadd, 1) := by decide +kernel
theorem dX5_does_30 : decode cX5_does 30 = .ok (.iaload, 1) := by decide +kernel
theorem dX5_does_31 : decode cX5_does 31 = .ok (.istore 5, 2) := by decide +kernel
theorem dX5_does_33 : decode cX5_does 33 = .ok (.aload_n 0, 1) := by decide +kernel
theorem dX5_does_34 : decode cX5_does 34 = .ok (.getfield 25, 3) := by decide +kernel
theorem dX5_does_37 : decode cX5_does 37 = .ok (.iload_n 2, 1) := by decide +kernel
theorem dX5_does_38 : decode cX5_does 38 = .ok (.iaload, 1) := by decide +kernel
theorem dX5_does_39 : decode cX5_does 39 = .ok (.ifCond .ne 22, 3) := by decide +kernel
theorem dX5_does_42 : decode cX5_does 42 = .ok (.aload_n 0, 1) := by decide +kernel
theorem dX5_does_43 : decode cX5_does 43 = .ok (.iload 4, 2) := by decide +kernel
theorem dX5_does_45 : decode cX5_does 45 = .ok (.iload_n 3, 1) := by decide +kernel
theorem dX5_does_46 : decode cX5_does 46 = .ok (.invokestatic 54, 3) := by decide +kernel
theorem dX5_does_49 : decode cX5_does 49 = .ok (.iload 4, 2) := by decide +kernel
theorem dX5_does_51 : decode cX5_does 51 = .ok (.iload 5, 2) := by decide +kernel
theorem dX5_does_53 : decode cX5_does 53 = .ok (.invokestatic 75, 3) := by decide +kernel
theorem dX5_does_56 : decode cX5_does 56 = .ok (.invokevirtual 78, 3) := by decide +kernel
theorem dX5_does_59 : decode cX5_does 59 = .ok (.iconst 1, 1) := by decide +kernel
theorem dX5_does_60 : decode cX5_does 60 = .ok (.ireturn, 1) := by decide +kernel
theorem dX5_does_61 : decode cX5_does 61 = .ok (.aload_n 0, 1) := by decide +kernel
theorem dX5_does_62 : decode cX5_does 62 = .ok (.iload_n 3, 1) := by decide +kernel
theorem dX5_does_63 : decode cX5_does 63 = .ok (.iload 4, 2) := by decide +kernel
theorem dX5_does_65 : decode cX5_does 65 = .ok (.iload 5, 2) := by decide +kernel
theorem dX5_does_67 : decode cX5_does 67 = .ok (.invokevirtual 99, 3) := by decide +kernel
theorem dX5_does_70 : decode cX5_does 70 = .ok (.ifCond .eq 27, 3) := by decide +kernel
theorem dX5_does_73 : decode cX5_does 73 = .ok (.aload_n 0, 1) := by decide +kernel
theorem dX5_does_74 : decode cX5_does 74 = .ok (.iload_n 3, 1) := by decide +kernel
theorem dX5_does_75 : decode cX5_does 75 = .ok (.iload 4, 2) := by decide +kernel
theorem dX5_does_77 : decode cX5_does 77 = .ok (.iload 5, 2) := by decide +kernel
theorem dX5_does_79 : decode cX5_does 79 = .ok (.aload_n 0, 1) := by decide +kernel
theorem dX5_does_80 : decode cX5_does 80 = .ok (.getfield 25, 3) := by decide +kernel
theorem dX5_does_83 : decode cX5_does 83 = .ok (.iload_n 2, 1) := by decide +kernel
theorem dX5_does_84 : decode cX5_does 84 = .ok (.iconst 4, 1) := by decide +kernel
theorem dX5_does_85 : decode cX5_does 85 = .ok (.iadd, 1) := by decide +kernel
theorem dX5_does_86 : decode cX5_does 86 = .ok (.iaload, 1) := by decide +kernel
theorem dX5_does_87 : decode cX5_does 87 = .ok (.invokevirtual 102, 3) := by decide +kernel
theorem dX5_does_90 : decode cX5_does 90 = .ok (.ifCond .lt 7, 3) := by decide +kernel
theorem dX5_does_93 : decode cX5_does 93 = .ok (.iconst 1, 1) := by decide +kernel
theorem dX5_does_94 : decode cX5_does 94 = .ok (.goto 4, 3) := by decide +kernel
theorem dX5_does_97 : decode cX5_does 97 = .ok (.iconst 0, 1) := by decide +kernel
theorem dX5_does_98 : decode cX5_does 98 = .ok (.ireturn, 1) := by decide +kernel
theorem dX5_runAll_0 : decode cX5_runAll 0 = .ok (.aload_n 0, 1) := by decide +kernel
theorem dX5_runAll_1 : decode cX5_runAll 1 = .ok (.iconst 0, 1) := by decide +kernel
theorem dX5_runAll_2 : decode cX5_runAll 2 = .ok (.putfield 32, 3) := by decide +kernel
theorem dX5_runAll_5 : decode cX5_runAll 5 = .ok (.aload_n 0, 1) := by decide +kernel
theorem dX5_runAll_6 : decode cX5_runAll 6 = .ok (.invokevirtual 167, 3) := by decide +kernel
theorem dX5_runAll_9 : decode cX5_runAll 9 = .ok (.ifCond .ne 9, 3) := by decide +kernel
theorem dX5_runAll_12 : decode cX5_runAll 12 = .ok (.aload_n 0, 1) := by decide +kernel
theorem dX5_runAll_13 : decode cX5_runAll 13 = .ok (.iconst 1, 1) := by decide +kernel
theorem dX5_runAll_14 : decode cX5_runAll 14 = .ok (.invokevirtual 39, 3) := by decide +kernel
theorem dX5_runAll_17 : decode cX5_runAll 17 = .ok (.ireturn, 1) := by decide +kernel
theorem dX5_runAll_18 : decode cX5_runAll 18 = .ok (.aload_n 0, 1) := by decide +kernel
theorem dX5_runAll_19 : decode cX5_runAll 19 = .ok (.aload_n 0, 1) := by decide +kernel
theorem dX5_runAll_20 : decode cX5_runAll 20 = .ok (.getfield 7, 3) := by decide +kernel
theorem dX5_runAll_23 : decode cX5_runAll 23 = .ok (.invokevirtual 95, 3) := by decide +kernel
theorem dX5_runAll_26 : decode cX5_runAll 26 = .ok (.aload_n 0, 1) := by decide +kernel
theorem dX5_runAll_27 : decode cX5_runAll 27 = .ok (.iconst 0, 1) := by decide +kernel
theorem dX5_runAll_28 : decode cX5_runAll 28 = .ok (.putfield 135, 3) := by decide +kernel
theorem dX5_runAll_31 : decode cX5_runAll 31 = .ok (.iconst 0, 1) := by decide +kernel
theorem dX5_runAll_32 : decode cX5_runAll 32 = .ok (.istore_n 1, 1) := by decide +kernel
theorem dX5_runAll_33 : decode cX5_runAll 33 = .ok (.iload_n 1, 1) := by decide +kernel
theorem dX5_runAll_34 : decode cX5_runAll 34 = .ok (.aload_n 0, 1) := by decide +kernel
theorem dX5_runAll_35 : decode cX5_runAll 35 = .ok (.getfield 152, 3) := by decide +kernel
theorem dX5_runAll_38 : decode cX5_runAll 38 = .ok (.if_icmp .ge 17, 3) := by decide +kernel
theorem dX5_runAll_41 : decode cX5_runAll 41 = .ok (.aload_n 0, 1) := by decide +kernel
theorem dX5_runAll_42 : decode cX5_runAll 42 = .ok (.iload_n 1, 1) := by decide +kernel
theorem dX5_runAll_43 : decode cX5_runAll 43 = .ok (.invokevirtual 170, 3) := by decide +kernel
theorem dX5_runAll_46 : decode cX5_runAll 46 = .ok (.ifCond .eq 9, 3) := by decide +kernel
theorem dX5_runAll_49 : decode cX5_runAll 49 = .ok (.iinc 1 1, 3) := by decide +kernel
theorem dX5_runAll_52 : decode cX5_runAll 52 = .ok (.goto (-19), 3) := by decide +kernel
theorem dX5_runAll_55 : decode cX5_runAll 55 = .ok (.iload_n 1, 1) := by decide +kernel
theorem dX5_runAll_56 : decode cX5_runAll 56 = .ok (.ireturn, 1) := by decide +kernel
theorem dX5_coverers_0 : decode cX5_coverers 0 = .ok (.iconst 0, 1) := by decide +kernel
theorem dX5_coverers_1 : decode cX5_coverers 1 = .ok (.istore_n 3, 1) := by decide +kernel
theorem dX5_coverers_2 : decode cX5_coverers 2 = .ok (.iconst 0, 1) := by decide +kernel
theorem dX5_coverers_3 : decode cX5_coverers 3 = .ok (.istore 4, 2) := by decide +kernel
theorem dX5_coverers_5 : decode cX5_coverers 5 = .ok (.iload 4, 2) := by decide +kernel
theorem dX5_coverers_7 : decode cX5_coverers 7 = .ok (.iconst 5, 1) := by decide +kernel
theorem dX5_coverers_8 : decode cX5_coverers 8 = .ok (.if_icmp .ge 34, 3) := by decide +kernel
theorem dX5_coverers_11 : decode cX5_coverers 11 = .ok (.iload_n 3, 1) := by decide +kernel
theorem dX5_coverers_12 : decode cX5_coverers 12 = .ok (.aload_n 0, 1) := by decide +kernel
theorem dX5_coverers_13 : decode cX5_coverers 13 = .ok (.iload_n 1, 1) := by decide +kernel
theorem dX5_coverers_14 : decode cX5_coverers 14 = .ok (.iload 4, 2) := by decide +kernel
theorem dX5_coverers_16 : decode cX5_coverers 16 = .ok (.invokestatic 54, 3) := by decide +kernel
theorem dX5_coverers_19 : decode cX5_coverers 19 = .ok (.iload_n 2, 1) := by decide +kernel
theorem dX5_coverers_20 : decode cX5_coverers 20 = .ok (.invokevirtual 57, 3) := by decide +kernel
theorem dX5_coverers_23 : decode cX5_coverers 23 = .ok (.ifCond .eq 10, 3) := by decide +kernel
theorem dX5_coverers_26 : decode cX5_coverers 26 = .ok (.iconst 1, 1) := by decide +kernel
theorem dX5_coverers_27 : decode cX5_coverers 27 = .ok (.iload 4, 2) := by decide +kernel
theorem dX5_coverers_29 : decode cX5_coverers 29 = .ok (.ishl, 1) := by decide +kernel
theorem dX5_coverers_30 : decode cX5_coverers 30 = .ok (.goto 4, 3) := by decide +kernel
theorem dX5_coverers_33 : decode cX5_coverers 33 = .ok (.iconst 0, 1) := by decide +kernel
theorem dX5_coverers_34 : decode cX5_coverers 34 = .ok (.ior, 1) := by decide +kernel
theorem dX5_coverers_35 : decode cX5_coverers 35 = .ok (.istore_n 3, 1) := by decide +kernel
theorem dX5_coverers_36 : decode cX5_coverers 36 = .ok (.iinc 4 1, 3) := by decide +kernel
theorem dX5_coverers_39 : decode cX5_coverers 39 = .ok (.goto (-34), 3) := by decide +kernel
theorem dX5_coverers_42 : decode cX5_coverers 42 = .ok (.iload_n 3, 1) := by decide +kernel
theorem dX5_coverers_43 : decode cX5_coverers 43 = .ok (.ireturn, 1) := by decide +kernel
theorem dX5_holders_0 : decode cX5_holders 0 = .ok (.iconst 0, 1) := by decide +kernel
theorem dX5_holders_1 : decode cX5_holders 1 = .ok (.istore_n 3, 1) := by decide +kernel
theorem dX5_holders_2 : decode cX5_holders 2 = .ok (.iconst 0, 1) := by decide +kernel
theorem dX5_holders_3 : decode cX5_holders 3 = .ok (.istore 4, 2) := by decide +kernel
theorem dX5_holders_5 : decode cX5_holders 5 = .ok (.iload 4, 2) := by decide +kernel
theorem dX5_holders_7 : decode cX5_holders 7 = .ok (.iconst 3, 1) := by decide +kernel
theorem dX5_holders_8 : decode cX5_holders 8 = .ok (.if_icmp .ge 44, 3) := by decide +kernel
theorem dX5_holders_11 : decode cX5_holders 11 = .ok (.iload_n 3, 1) := by decide +kernel
theorem dX5_holders_12 : decode cX5_holders 12 = .ok (.aload_n 0, 1) := by decide +kernel
theorem dX5_holders_13 : decode cX5_holders 13 = .ok (.iload_n 1, 1) := by decide +kernel
theorem dX5_holders_14 : decode cX5_holders 14 = .ok (.iload 4, 2) := by decide +kernel
theorem dX5_holders_16 : decode cX5_holders 16 = .ok (.aload_n 0, 1) := by decide +kernel
theorem dX5_holders_17 : decode cX5_holders 17 = .ok (.getfield 7, 3) := by decide +kernel
theorem dX5_holders_20 : decode cX5_holders 20 = .ok (.iload_n 2, 1) := by decide +kernel
theorem dX5_holders_21 : decode cX5_holders 21 = .ok (.iaload, 1) := by decide +kernel
theorem dX5_holders_22 : decode cX5_holders 22 = .ok (.aload_n 0, 1) := by decide +kernel
theorem dX5_holders_23 : decode cX5_holders 23 = .ok (.getfield 7, 3) := by decide +kernel
theorem dX5_holders_26 : decode cX5_holders 26 = .ok (.iload_n 2, 1) := by decide +kernel
theorem dX5_holders_27 : decode cX5_holders 27 = .ok (.iconst 1, 1) := by decide +kernel
theorem dX5_holders_28 : decode cX5_holders 28 = .ok (.iadd, 1) := by decide +kernel
theorem dX5_holders_29 : decode cX5_holders 29 = .ok (.iaload, 1) := by decide +kernel
theorem dX5_holders_30 : decode cX5_holders 30 = .ok (.invokevirtual 121, 3) := by decide +kernel
theorem dX5_holders_33 : decode cX5_holders 33 = .ok (.ifCond .eq 10, 3) := by decide +kernel
theorem dX5_holders_36 : decode cX5_holders 36 = .ok (.iconst 1, 1) := by decide +kernel
theorem dX5_holders_37 : decode cX5_holders 37 = .ok (.iload 4, 2) := by decide +kernel
theorem dX5_holders_39 : decode cX5_holders 39 = .ok (.ishl, 1) := by decide +kernel
theorem dX5_holders_40 : decode cX5_holders 40 = .ok (.goto 4, 3) := by decide +kernel
theorem dX5_holders_43 : decode cX5_holders 43 = .ok (.iconst 0, 1) := by decide +kernel
theorem dX5_holders_44 : decode cX5_holders 44 = .ok (.ior, 1) := by decide +kernel
theorem dX5_holders_45 : decode cX5_holders 45 = .ok (.istore_n 3, 1) := by decide +kernel
theorem dX5_holders_46 : decode cX5_holders 46 = .ok (.iinc 4 1, 3) := by decide +kernel
theorem dX5_holders_49 : decode cX5_holders 49 = .ok (.goto (-44), 3) := by decide +kernel
theorem dX5_holders_52 : decode cX5_holders 52 = .ok (.iload_n 3, 1) := by decide +kernel
theorem dX5_holders_53 : decode cX5_holders 53 = .ok (.ireturn, 1) := by decide +kernel
theorem dX5_ofSibling_0 : decode cX5_ofSibling 0 = .ok (.iload_n 2, 1) := by decide +kernel
theorem dX5_ofSibling_1 : decode cX5_ofSibling 1 = .ok (.iload_n 1, 1) := by decide +kernel
theorem dX5_ofSibling_2 : decode cX5_ofSibling 2 = .ok (.iload_n 3, 1) := by decide +kernel
theorem dX5_ofSibling_3 : decode cX5_ofSibling 3 = .ok (.invokestatic 50, 3) := by decide +kernel
theorem dX5_ofSibling_6 : decode cX5_ofSibling 6 = .ok (.istore 5, 2) := by decide +kernel
theorem dX5_ofSibling_8 : decode cX5_ofSibling 8 = .ok (.iload 4, 2) := by decide +kernel
theorem dX5_ofSibling_10 : decode cX5_ofSibling 10 = .ok (.iconst 3, 1) := by decide +kernel
theorem dX5_ofSibling_11 : decode cX5_ofSibling 11 = .ok (.if_icmp .ge 16, 3) := by decide +kernel
theorem dX5_ofSibling_14 : decode cX5_ofSibling 14 = .ok (.aload_n 0, 1) := by decide +kernel
theorem dX5_ofSibling_15 : decode cX5_ofSibling 15 = .ok (.getfield 7, 3) := by decide +kernel
theorem dX5_ofSibling_18 : decode cX5_ofSibling 18 = .ok (.iload 5, 2) := by decide +kernel
theorem dX5_ofSibling_20 : decode cX5_ofSibling 20 = .ok (.iload 4, 2) := by decide +kernel
theorem dX5_ofSibling_22 : decode cX5_ofSibling 22 = .ok (.iadd, 1) := by decide +kernel
theorem dX5_ofSibling_23 : decode cX5_ofSibling 23 = .ok (.iaload, 1) := by decide +kernel
theorem dX5_ofSibling_24 : decode cX5_ofSibling 24 = .ok (.goto 26, 3) := by decide +kernel
theorem dX5_ofSibling_27 : decode cX5_ofSibling 27 = .ok (.iload 4, 2) := by decide +kernel
theorem dX5_ofSibling_29 : decode cX5_ofSibling 29 = .ok (.iconst 3, 1) := by decide +kernel
theorem dX5_ofSibling_30 : decode cX5_ofSibling 30 = .ok (.if_icmp .ne 13, 3) := by decide +kernel
theorem dX5_ofSibling_33 : decode cX5_ofSibling 33 = .ok (.aload_n 0, 1) := by decide +kernel
theorem dX5_ofSibling_34 : decode cX5_ofSibling 34 = .ok (.iload_n 2, 1) := by decide +kernel
theorem dX5_ofSibling_35 : decode cX5_ofSibling 35 = .ok (.iload 5, 2) := by decide +kernel
theorem dX5_ofSibling_37 : decode cX5_ofSibling 37 = .ok (.invokevirtual 173, 3) := by decide +kernel
theorem dX5_ofSibling_40 : decode cX5_ofSibling 40 = .ok (.goto 10, 3) := by decide +kernel
theorem dX5_ofSibling_43 : decode cX5_ofSibling 43 = .ok (.aload_n 0, 1) := by decide +kernel
theorem dX5_ofSibling_44 : decode cX5_ofSibling 44 = .ok (.iload_n 2, 1) := by decide +kernel
theorem dX5_ofSibling_45 : decode cX5_ofSibling 45 = .ok (.iload 5, 2) := by decide +kernel
theorem dX5_ofSibling_47 : decode cX5_ofSibling 47 = .ok (.invokevirtual 176, 3) := by decide +kernel
theorem dX5_ofSibling_50 : decode cX5_ofSibling 50 = .ok (.ireturn, 1) := by decide +kernel
theorem dX5_sibling_0 : decode cX5_sibling 0 = .ok (.aload_n 0, 1) := by decide +kernel
theorem dX5_sibling_1 : decode cX5_sibling 1 = .ok (.iconst 0, 1) := by decide +kernel
theorem dX5_sibling_2 : decode cX5_sibling 2 = .ok (.putfield 32, 3) := by decide +kernel
theorem dX5_sibling_5 : decode cX5_sibling 5 = .ok (.iload_n 1, 1) := by decide +kernel
theorem dX5_sibling_6 : decode cX5_sibling 6 = .ok (.invokestatic 89, 3) := by decide +kernel
theorem dX5_sibling_9 : decode cX5_sibling 9 = .ok (.ifCond .eq 10, 3) := by decide +kernel
theorem dX5_sibling_12 : decode cX5_sibling 12 = .ok (.iload_n 2, 1) := by decide +kernel
theorem dX5_sibling_13 : decode cX5_sibling 13 = .ok (.invokestatic 86, 3) := by decide +kernel
theorem dX5_sibling_16 : decode cX5_sibling 16 = .ok (.ifCond .ne 9, 3) := by decide +kernel
theorem dX5_sibling_19 : decode cX5_sibling 19 = .ok (.aload_n 0, 1) := by decide +kernel
theorem dX5_sibling_20 : decode cX5_sibling 20 = .ok (.iconst 1, 1) := by decide +kernel
theorem dX5_sibling_21 : decode cX5_sibling 21 = .ok (.invokevirtual 39, 3) := by decide +kernel
theorem dX5_sibling_24 : decode cX5_sibling 24 = .ok (.ireturn, 1) := by decide +kernel
theorem dX5_sibling_25 : decode cX5_sibling 25 = .ok (.iload_n 3, 1) := by decide +kernel
theorem dX5_sibling_26 : decode cX5_sibling 26 = .ok (.iconst 0, 1) := by decide +kernel
theorem dX5_sibling_27 : decode cX5_sibling 27 = .ok (.iconst 3, 1) := by decide +kernel
theorem dX5_sibling_28 : decode cX5_sibling 28 = .ok (.invokestatic 35, 3) := by decide +kernel
theorem dX5_sibling_31 : decode cX5_sibling 31 = .ok (.ifCond .eq 13, 3) := by decide +kernel
theorem dX5_sibling_34 : decode cX5_sibling 34 = .ok (.iload 4, 2) := by decide +kernel
theorem dX5_sibling_36 : decode cX5_sibling 36 = .ok (.iconst 0, 1) := by decide +kernel
theorem dX5_sibling_37 : decode cX5_sibling 37 = .ok (.iconst 4, 1) := by decide +kernel
theorem dX5_sibling_38 : decode cX5_sibling 38 = .ok (.invokestatic 35, 3) := by decide +kernel
theorem dX5_sibling_41 : decode cX5_sibling 41 = .ok (.ifCond .ne 9, 3) := by decide +kernel
theorem dX5_sibling_44 : decode cX5_sibling 44 = .ok (.aload_n 0, 1) := by decide +kernel
theorem dX5_sibling_45 : decode cX5_sibling 45 = .ok (.iconst 2, 1) := by decide +kernel
theorem dX5_sibling_46 : decode cX5_sibling 46 = .ok (.invokevirtual 39, 3) := by decide +kernel
theorem dX5_sibling_49 : decode cX5_sibling 49 = .ok (.ireturn, 1) := by decide +kernel
theorem dX5_sibling_50 : decode cX5_sibling 50 = .ok (.iload_n 3, 1) := by decide +kernel
theorem dX5_sibling_51 : decode cX5_sibling 51 = .ok (.aload_n 0, 1) := by decide +kernel
theorem dX5_sibling_52 : decode cX5_sibling 52 = .ok (.iload_n 2, 1) := by decide +kernel
theorem dX5_sibling_53 : decode cX5_sibling 53 = .ok (.iload_n 1, 1) := by decide +kernel
theorem dX5_sibling_54 : decode cX5_sibling 54 = .ok (.invokevirtual 47, 3) := by decide +kernel
theorem dX5_sibling_57 : decode cX5_sibling 57 = .ok (.if_icmp .ge 15, 3) := by decide +kernel
theorem dX5_sibling_60 : decode cX5_sibling 60 = .ok (.aload_n 0, 1) := by decide +kernel
theorem dX5_sibling_61 : decode cX5_sibling 61 = .ok (.iload_n 1, 1) := by decide +kernel
theorem dX5_sibling_62 : decode cX5_sibling 62 = .ok (.iload_n 2, 1) := by decide +kernel
theorem dX5_sibling_63 : decode cX5_sibling 63 = .ok (.iload_n 3, 1) := by decide +kernel
theorem dX5_sibling_64 : decode cX5_sibling 64 = .ok (.iload 4, 2) := by decide +kernel
theorem dX5_sibling_66 : decode cX5_sibling 66 = .ok (.invokevirtual 179, 3) := by decide +kernel
theorem dX5_sibling_69 : decode cX5_sibling 69 = .ok (.goto 4, 3) := by decide +kernel
theorem dX5_sibling_72 : decode cX5_sibling 72 = .ok (.iconst (-1), 1) := by decide +kernel
theorem dX5_sibling_73 : decode cX5_sibling 73 = .ok (.ireturn, 1) := by decide +kernel
theorem dX5_vector_0 : decode cX5_vector 0 = .ok (.aload_n 0, 1) := by decide +kernel
theorem dX5_vector_1 : decode cX5_vector 1 = .ok (.iconst 0, 1) := by decide +kernel
theorem dX5_vector_2 : decode cX5_vector 2 = .ok (.putfield 32, 3) := by decide +kernel
theorem dX5_vector_5 : decode cX5_vector 5 = .ok (.iload_n 3, 1) := by decide +kernel
theorem dX5_vector_6 : decode cX5_vector 6 = .ok (.iload_n 2, 1) := by decide +kernel
theorem dX5_vector_7 : decode cX5_vector 7 = .ok (.iload_n 1, 1) := by decide +kernel
theorem dX5_vector_8 : decode cX5_vector 8 = .ok (.invokestatic 92, 3) := by decide +kernel
theorem dX5_vector_11 : decode cX5_vector 11 = .ok (.ifCond .eq 18, 3) := by decide +kernel
theorem dX5_vector_14 : decode cX5_vector 14 = .ok (.aload_n 0, 1) := by decide +kernel
theorem dX5_vector_15 : decode cX5_vector 15 = .ok (.getfield 7, 3) := by decide +kernel
theorem dX5_vector_18 : decode cX5_vector 18 = .ok (.iload_n 2, 1) := by decide +kernel
theorem dX5_vector_19 : decode cX5_vector 19 = .ok (.iload_n 1, 1) := by decide +kernel
theorem dX5_vector_20 : decode cX5_vector 20 = .ok (.invokestatic 75, 3) := by decide +kernel
theorem dX5_vector_23 : decode cX5_vector 23 = .ok (.iload_n 3, 1) := by decide +kernel
theorem dX5_vector_24 : decode cX5_vector 24 = .ok (.iadd, 1) := by decide +kernel
theorem dX5_vector_25 : decode cX5_vector 25 = .ok (.iaload, 1) := by decide +kernel
theorem dX5_vector_26 : decode cX5_vector 26 = .ok (.goto 8, 3) := by decide +kernel
theorem dX5_vector_29 : decode cX5_vector 29 = .ok (.aload_n 0, 1) := by decide +kernel
theorem dX5_vector_30 : decode cX5_vector 30 = .ok (.iconst 1, 1) := by decide +kernel
theorem dX5_vector_31 : decode cX5_vector 31 = .ok (.invokevirtual 39, 3) := by decide +kernel
theorem dX5_vector_34 : decode cX5_vector 34 = .ok (.ireturn, 1) := by decide +kernel
theorem dX5_knows_0 : decode cX5_knows 0 = .ok (.aload_n 0, 1) := by decide +kernel
theorem dX5_knows_1 : decode cX5_knows 1 = .ok (.iconst 0, 1) := by decide +kernel
theorem dX5_knows_2 : decode cX5_knows 2 = .ok (.putfield 32, 3) := by decide +kernel
theorem dX5_knows_5 : decode cX5_knows 5 = .ok (.iload_n 1, 1) := by decide +kernel
theorem dX5_knows_6 : decode cX5_knows 6 = .ok (.invokestatic 82, 3) := by decide +kernel
theorem dX5_knows_9 : decode cX5_knows 9 = .ok (.ifCond .eq 32, 3) := by decide +kernel
theorem dX5_knows_12 : decode cX5_knows 12 = .ok (.iload_n 2, 1) := by decide +kernel
theorem dX5_knows_13 : decode cX5_knows 13 = .ok (.invokestatic 86, 3) := by decide +kernel
theorem dX5_knows_16 : decode cX5_knows 16 = .ok (.ifCond .eq 25, 3) := by decide +kernel
theorem dX5_knows_19 : decode cX5_knows 19 = .ok (.iload_n 3, 1) := by decide +kernel
theorem dX5_knows_20 : decode cX5_knows 20 = .ok (.invokestatic 82, 3) := by decide +kernel
theorem dX5_knows_23 : decode cX5_knows 23 = .ok (.ifCond .eq 18, 3) := by decide +kernel
theorem dX5_knows_26 : decode cX5_knows 26 = .ok (.aload_n 0, 1) := by decide +kernel
theorem dX5_knows_27 : decode cX5_knows 27 = .ok (.getfield 7, 3) := by decide +kernel
theorem dX5_knows_30 : decode cX5_knows 30 = .ok (.iload_n 2, 1) := by decide +kernel
theorem dX5_knows_31 : decode cX5_knows 31 = .ok (.iload_n 1, 1) := by decide +kernel
theorem dX5_knows_32 : decode cX5_knows 32 = .ok (.invokestatic 54, 3) := by decide +kernel
theorem dX5_knows_35 : decode cX5_knows 35 = .ok (.iload_n 3, 1) := by decide +kernel
theorem dX5_knows_36 : decode cX5_knows 36 = .ok (.iadd, 1) := by decide +kernel
theorem dX5_knows_37 : decode cX5_knows 37 = .ok (.iaload, 1) := by decide +kernel
theorem dX5_knows_38 : decode cX5_knows 38 = .ok (.goto 8, 3) := by decide +kernel
theorem dX5_knows_41 : decode cX5_knows 41 = .ok (.aload_n 0, 1) := by decide +kernel
theorem dX5_knows_42 : decode cX5_knows 42 = .ok (.iconst 1, 1) := by decide +kernel
theorem dX5_knows_43 : decode cX5_knows 43 = .ok (.invokevirtual 39, 3) := by decide +kernel
theorem dX5_knows_46 : decode cX5_knows 46 = .ok (.ireturn, 1) := by decide +kernel
theorem dX5_areAlike_0 : decode cX5_areAlike 0 = .ok (.aload_n 0, 1) := by decide +kernel
theorem dX5_areAlike_1 : decode cX5_areAlike 1 = .ok (.iload_n 1, 1) := by decide +kernel
theorem dX5_areAlike_2 : decode cX5_areAlike 2 = .ok (.iload_n 2, 1) := by decide +kernel
theorem dX5_areAlike_3 : decode cX5_areAlike 3 = .ok (.invokevirtual 47, 3) := by decide +kernel
theorem dX5_areAlike_6 : decode cX5_areAlike 6 = .ok (.aload_n 0, 1) := by decide +kernel
theorem dX5_areAlike_7 : decode cX5_areAlike 7 = .ok (.iload_n 1, 1) := by decide +kernel
theorem dX5_areAlike_8 : decode cX5_areAlike 8 = .ok (.iload_n 3, 1) := by decide +kernel
theorem dX5_areAlike_9 : decode cX5_areAlike 9 = .ok (.invokevirtual 47, 3) := by decide +kernel
theorem dX5_areAlike_12 : decode cX5_areAlike 12 = .ok (.if_icmp .ne 7, 3) := by decide +kernel
theorem dX5_areAlike_15 : decode cX5_areAlike 15 = .ok (.iconst 1, 1) := by decide +kernel
theorem dX5_areAlike_16 : decode cX5_areAlike 16 = .ok (.goto 4, 3) := by decide +kernel
theorem dX5_areAlike_19 : decode cX5_areAlike 19 = .ok (.iconst 0, 1) := by decide +kernel
theorem dX5_areAlike_20 : decode cX5_areAlike 20 = .ok (.istore 4, 2) := by decide +kernel
theorem dX5_areAlike_22 : decode cX5_areAlike 22 = .ok (.iconst 0, 1) := by decide +kernel
theorem dX5_areAlike_23 : decode cX5_areAlike 23 = .ok (.istore 5, 2) := by decide +kernel
theorem dX5_areAlike_25 : decode cX5_areAlike 25 = .ok (.iload 5, 2) := by decide +kernel
theorem dX5_areAlike_27 : decode cX5_areAlike 27 = .ok (.aload_n 0, 1) := by decide +kernel
theorem dX5_areAlike_28 : decode cX5_areAlike 28 = .ok (.iload_n 1, 1) := by decide +kernel
theorem dX5_areAlike_29 : decode cX5_areAlike 29 = .ok (.iload_n 2, 1) := by decide +kernel
theorem dX5_areAlike_30 : decode cX5_areAlike 30 = .ok (.invokevirtual 47, 3) := by decide +kernel
theorem dX5_areAlike_33 : decode cX5_areAlike 33 = .ok (.if_icmp .ge 55, 3) := by decide +kernel
theorem dX5_areAlike_36 : decode cX5_areAlike 36 = .ok (.iload_n 1, 1) := by decide +kernel
theorem dX5_areAlike_37 : decode cX5_areAlike 37 = .ok (.iload_n 2, 1) := by decide +kernel
theorem dX5_areAlike_38 : decode cX5_areAlike 38 = .ok (.iload 5, 2) := by decide +kernel
theorem dX5_areAlike_40 : decode cX5_areAlike 40 = .ok (.invokestatic 50, 3) := by decide +kernel
theorem dX5_areAlike_43 : decode cX5_areAlike 43 = .ok (.istore 6, 2) := by decide +kernel
theorem dX5_areAlike_45 : decode cX5_areAlike 45 = .ok (.iload 4, 2) := by decide +kernel
theorem dX5_areAlike_47 : decode cX5_areAlike 47 = .ok (.ifCond .eq 32, 3) := by decide +kernel
theorem dX5_areAlike_50 : decode cX5_areAlike 50 = .ok (.aload_n 0, 1) := by decide +kernel
theorem dX5_areAlike_51 : decode cX5_areAlike 51 = .ok (.iload_n 1, 1) := by decide +kernel
theorem dX5_areAlike_52 : decode cX5_areAlike 52 = .ok (.iload_n 3, 1) := by decide +kernel
theorem dX5_areAlike_53 : decode cX5_areAlike 53 = .ok (.aload_n 0, 1) := by decide +kernel
theorem dX5_areAlike_54 : decode cX5_areAlike 54 = .ok (.getfield 7, 3) := by decide +kernel
theorem dX5_areAlike_57 : decode cX5_areAlike 57 = .ok (.iload 6, 2) := by decide +kernel
theorem dX5_areAlike_59 : decode cX5_areAlike 59 = .ok (.iaload, 1) := by decide +kernel
theorem dX5_areAlike_60 : decode cX5_areAlike 60 = .ok (.aload_n 0, 1) := by decide +kernel
theorem dX5_areAlike_61 : decode cX5_areAlike 61 = .ok (.getfield 7, 3) := by decide +kernel
theorem dX5_areAlike_64 : decode cX5_areAlike 64 = .ok (.iload 6, 2) := by decide +kernel
theorem dX5_areAlike_66 : decode cX5_areAlike 66 = .ok (.iconst 1, 1) := by decide +kernel
theorem dX5_areAlike_67 : decode cX5_areAlike 67 = .ok (.iadd, 1) := by decide +kernel
theorem dX5_areAlike_68 : decode cX5_areAlike 68 = .ok (.iaload, 1) := by decide +kernel
theorem dX5_areAlike_69 : decode cX5_areAlike 69 = .ok (.invokevirtual 121, 3) := by decide +kernel
theorem dX5_areAlike_72 : decode cX5_areAlike 72 = .ok (.ifCond .eq 7, 3) := by decide +kernel
theorem dX5_areAlike_75 : decode cX5_areAlike 75 = .ok (.iconst 1, 1) := by decide +kernel
theorem dX5_areAlike_76 : decode cX5_areAlike 76 = .ok (.goto 4, 3) := by decide +kernel
theorem dX5_areAlike_79 : decode cX5_areAlike 79 = .ok (.iconst 0, 1) := by decide +kernel
theorem dX5_areAlike_80 : decode cX5_areAlike 80 = .ok (.istore 4, 2) := by decide +kernel
theorem dX5_areAlike_82 : decode cX5_areAlike 82 = .ok (.iinc 5 1, 3) := by decide +kernel
theorem dX5_areAlike_85 : decode cX5_areAlike 85 = .ok (.goto (-60), 3) := by decide +kernel
theorem dX5_areAlike_88 : decode cX5_areAlike 88 = .ok (.iload 4, 2) := by decide +kernel
theorem dX5_areAlike_90 : decode cX5_areAlike 90 = .ok (.ireturn, 1) := by decide +kernel
theorem dX5_areVectorsAlike_0 : decode cX5_areVectorsAlike 0 = .ok (.iconst 1, 1) := by decide +kernel
theorem dX5_areVectorsAlike_1 : decode cX5_areVectorsAlike 1 = .ok (.istore_n 2, 1) := by decide +kernel
theorem dX5_areVectorsAlike_2 : decode cX5_areVectorsAlike 2 = .ok (.iconst 0, 1) := by decide +kernel
theorem dX5_areVectorsAlike_3 : decode cX5_areVectorsAlike 3 = .ok (.istore_n 3, 1) := by decide +kernel
theorem dX5_areVectorsAlike_4 : decode cX5_areVectorsAlike 4 = .ok (.iload_n 3, 1) := by decide +kernel
theorem dX5_areVectorsAlike_5 : decode cX5_areVectorsAlike 5 = .ok (.iconst 5, 1) := by decide +kernel
theorem dX5_areVectorsAlike_6 : decode cX5_areVectorsAlike 6 = .ok (.if_icmp .ge 67, 3) := by decide +kernel
theorem dX5_areVectorsAlike_9 : decode cX5_areVectorsAlike 9 = .ok (.aload_n 0, 1) := by decide +kernel
theorem dX5_areVectorsAlike_10 : decode cX5_areVectorsAlike 10 = .ok (.getfield 7, 3) := by decide +kernel
theorem dX5_areVectorsAlike_13 : decode cX5_areVectorsAlike 13 = .ok (.iload_n 1, 1) := by decide +kernel
theorem dX5_areVectorsAlike_14 : decode cX5_areVectorsAlike 14 = .ok (.iconst 0, 1) := by decide +kernel
theorem dX5_areVectorsAlike_15 : decode cX5_areVectorsAlike 15 = .ok (.invokestatic 75, 3) := by decide +kernel
theorem dX5_areVectorsAlike_18 : decode cX5_areVectorsAlike 18 = .ok (.iload_n 3, 1) := by decide +kernel
theorem dX5_areVectorsAlike_19 : decode cX5_areVectorsAlike 19 = .ok (.iadd, 1) := by decide +kernel
theorem dX5_areVectorsAlike_20 : decode cX5_areVectorsAlike 20 = .ok (.iaload, 1) := by decide +kernel
theorem dX5_areVectorsAlike_21 : decode cX5_areVectorsAlike 21 = .ok (.istore 4, 2) := by decide +kernel
theorem dX5_areVectorsAlike_23 : decode cX5_areVectorsAlike 23 = .ok (.iload_n 2, 1) := by decide +kernel
theorem dX5_areVectorsAlike_24 : decode cX5_areVectorsAlike 24 = .ok (.ifCond .eq 41, 3) := by decide +kernel
theorem dX5_areVectorsAlike_27 : decode cX5_areVectorsAlike 27 = .ok (.aload_n 0, 1) := by decide +kernel
theorem dX5_areVectorsAlike_28 : decode cX5_areVectorsAlike 28 = .ok (.getfield 7, 3) := by decide +kernel
theorem dX5_areVectorsAlike_31 : decode cX5_areVectorsAlike 31 = .ok (.iload_n 1, 1) := by decide +kernel
theorem dX5_areVectorsAlike_32 : decode cX5_areVectorsAlike 32 = .ok (.iconst 1, 1) := by decide +kernel
theorem dX5_areVectorsAlike_33 : decode cX5_areVectorsAlike 33 = .ok (.invokestatic 75, 3) := by decide +kernel
theorem dX5_areVectorsAlike_36 : decode cX5_areVectorsAlike 36 = .ok (.iload_n 3, 1) := by decide +kernel
theorem dX5_areVectorsAlike_37 : decode cX5_areVectorsAlike 37 = .ok (.iadd, 1) := by decide +kernel
theorem dX5_areVectorsAlike_38 : decode cX5_areVectorsAlike 38 = .ok (.iaload, 1) := by decide +kernel
theorem dX5_areVectorsAlike_39 : decode cX5_areVectorsAlike 39 = .ok (.iload 4, 2) := by decide +kernel
theorem dX5_areVectorsAlike_41 : decode cX5_areVectorsAlike 41 = .ok (.if_icmp .ne 24, 3) := by decide +kernel
theorem dX5_areVectorsAlike_44 : decode cX5_areVectorsAlike 44 = .ok (.aload_n 0, 1) := by decide +kernel
theorem dX5_areVectorsAlike_45 : decode cX5_areVectorsAlike 45 = .ok (.getfield 7, 3) := by decide +kernel
theorem dX5_areVectorsAlike_48 : decode cX5_areVectorsAlike 48 = .ok (.iload_n 1, 1) := by decide +kernel
theorem dX5_areVectorsAlike_49 : decode cX5_areVectorsAlike 49 = .ok (.iconst 2, 1) := by decide +kernel
theorem dX5_areVectorsAlike_50 : decode cX5_areVectorsAlike 50 = .ok (.invokestatic 75, 3) := by decide +kernel
theorem dX5_areVectorsAlike_53 : decode cX5_areVectorsAlike 53 = .ok (.iload_n 3, 1) := by decide +kernel
theorem dX5_areVectorsAlike_54 : decode cX5_areVectorsAlike 54 = .ok (.iadd, 1) := by decide +kernel
theorem dX5_areVectorsAlike_55 : decode cX5_areVectorsAlike 55 = .ok (.iaload, 1) := by decide +kernel
theorem dX5_areVectorsAlike_56 : decode cX5_areVectorsAlike 56 = .ok (.iload 4, 2) := by decide +kernel
theorem dX5_areVectorsAlike_58 : decode cX5_areVectorsAlike 58 = .ok (.if_icmp .ne 7, 3) := by decide +kernel
theorem dX5_areVectorsAlike_61 : decode cX5_areVectorsAlike 61 = .ok (.iconst 1, 1) := by decide +kernel
theorem dX5_areVectorsAlike_62 : decode cX5_areVectorsAlike 62 = .ok (.goto 4, 3) := by decide +kernel
theorem dX5_areVectorsAlike_65 : decode cX5_areVectorsAlike 65 = .ok (.iconst 0, 1) := by decide +kernel
theorem dX5_areVectorsAlike_66 : decode cX5_areVectorsAlike 66 = .ok (.istore_n 2, 1) := by decide +kernel
theorem dX5_areVectorsAlike_67 : decode cX5_areVectorsAlike 67 = .ok (.iinc 3 1, 3) := by decide +kernel
theorem dX5_areVectorsAlike_70 : decode cX5_areVectorsAlike 70 = .ok (.goto (-66), 3) := by decide +kernel
theorem dX5_areVectorsAlike_73 : decode cX5_areVectorsAlike 73 = .ok (.iload_n 2, 1) := by decide +kernel
theorem dX5_areVectorsAlike_74 : decode cX5_areVectorsAlike 74 = .ok (.ireturn, 1) := by decide +kernel
theorem dX5_unlike_0 : decode cX5_unlike 0 = .ok (.iconst 0, 1) := by decide +kernel
theorem dX5_unlike_1 : decode cX5_unlike 1 = .ok (.istore_n 2, 1) := by decide +kernel
theorem dX5_unlike_2 : decode cX5_unlike 2 = .ok (.iconst 0, 1) := by decide +kernel
theorem dX5_unlike_3 : decode cX5_unlike 3 = .ok (.istore_n 3, 1) := by decide +kernel
theorem dX5_unlike_4 : decode cX5_unlike 4 = .ok (.iload_n 3, 1) := by decide +kernel
theorem dX5_unlike_5 : decode cX5_unlike 5 = .ok (.iconst 3, 1) := by decide +kernel
theorem dX5_unlike_6 : decode cX5_unlike 6 = .ok (.if_icmp .ge 62, 3) := by decide +kernel
theorem dX5_unlike_9 : decode cX5_unlike 9 = .ok (.iconst 0, 1) := by decide +kernel
theorem dX5_unlike_10 : decode cX5_unlike 10 = .ok (.istore 4, 2) := by decide +kernel
theorem dX5_unlike_12 : decode cX5_unlike 12 = .ok (.iload 4, 2) := by decide +kernel
theorem dX5_unlike_14 : decode cX5_unlike 14 = .ok (.aload_n 0, 1) := by decide +kernel
theorem dX5_unlike_15 : decode cX5_unlike 15 = .ok (.iload_n 1, 1) := by decide +kernel
theorem dX5_unlike_16 : decode cX5_unlike 16 = .ok (.iload_n 3, 1) := by decide +kernel
theorem dX5_unlike_17 : decode cX5_unlike 17 = .ok (.invokevirtual 47, 3) := by decide +kernel
theorem dX5_unlike_20 : decode cX5_unlike 20 = .ok (.if_icmp .ge 42, 3) := by decide +kernel
theorem dX5_unlike_23 : decode cX5_unlike 23 = .ok (.aload_n 0, 1) := by decide +kernel
theorem dX5_unlike_24 : decode cX5_unlike 24 = .ok (.iload_n 1, 1) := by decide +kernel
theorem dX5_unlike_25 : decode cX5_unlike 25 = .ok (.iload_n 1, 1) := by decide +kernel
theorem dX5_unlike_26 : decode cX5_unlike 26 = .ok (.iload_n 3, 1) := by decide +kernel
theorem dX5_unlike_27 : decode cX5_unlike 27 = .ok (.iload 4, 2) := by decide +kernel
theorem dX5_unlike_29 : decode cX5_unlike 29 = .ok (.invokestatic 50, 3) := by decide +kernel
theorem dX5_unlike_32 : decode cX5_unlike 32 = .ok (.invokevirtual 176, 3) := by decide +kernel
theorem dX5_unlike_35 : decode cX5_unlike 35 = .ok (.istore 5, 2) := by decide +kernel
theorem dX5_unlike_37 : decode cX5_unlike 37 = .ok (.iload_n 2, 1) := by decide +kernel
theorem dX5_unlike_38 : decode cX5_unlike 38 = .ok (.iload 5, 2) := by decide +kernel
theorem dX5_unlike_40 : decode cX5_unlike 40 = .ok (.iconst 1, 1) := by decide +kernel
theorem dX5_unlike_41 : decode cX5_unlike 41 = .ok (.iload_n 3, 1) := by decide +kernel
theorem dX5_unlike_42 : decode cX5_unlike 42 = .ok (.ishl, 1) := by decide +kernel
theorem dX5_unlike_43 : decode cX5_unlike 43 = .ok (.iconst 1, 1) := by decide +kernel
theorem dX5_unlike_44 : decode cX5_unlike 44 = .ok (.isub, 1) := by decide +kernel
theorem dX5_unlike_45 : decode cX5_unlike 45 = .ok (.iand, 1) := by decide +kernel
theorem dX5_unlike_46 : decode cX5_unlike 46 = .ok (.ifCond .ne 7, 3) := by decide +kernel
theorem dX5_unlike_49 : decode cX5_unlike 49 = .ok (.iconst 1, 1) := by decide +kernel
theorem dX5_unlike_50 : decode cX5_unlike 50 = .ok (.goto 4, 3) := by decide +kernel
theorem dX5_unlike_53 : decode cX5_unlike 53 = .ok (.iconst 0, 1) := by decide +kernel
theorem dX5_unlike_54 : decode cX5_unlike 54 = .ok (.iadd, 1) := by decide +kernel
theorem dX5_unlike_55 : decode cX5_unlike 55 = .ok (.istore_n 2, 1) := by decide +kernel
theorem dX5_unlike_56 : decode cX5_unlike 56 = .ok (.iinc 4 1, 3) := by decide +kernel
theorem dX5_unlike_59 : decode cX5_unlike 59 = .ok (.goto (-47), 3) := by decide +kernel
theorem dX5_unlike_62 : decode cX5_unlike 62 = .ok (.iinc 3 1, 3) := by decide +kernel
theorem dX5_unlike_65 : decode cX5_unlike 65 = .ok (.goto (-61), 3) := by decide +kernel
theorem dX5_unlike_68 : decode cX5_unlike 68 = .ok (.iload_n 2, 1) := by decide +kernel
theorem dX5_unlike_69 : decode cX5_unlike 69 = .ok (.ireturn, 1) := by decide +kernel
theorem dX5_forgettable_0 : decode cX5_forgettable 0 = .ok (.iconst 0, 1) := by decide +kernel
theorem dX5_forgettable_1 : decode cX5_forgettable 1 = .ok (.istore_n 2, 1) := by decide +kernel
theorem dX5_forgettable_2 : decode cX5_forgettable 2 = .ok (.iconst 0, 1) := by decide +kernel
theorem dX5_forgettable_3 : decode cX5_forgettable 3 = .ok (.istore_n 3, 1) := by decide +kernel
theorem dX5_forgettable_4 : decode cX5_forgettable 4 = .ok (.iload_n 3, 1) := by decide +kernel
theorem dX5_forgettable_5 : decode cX5_forgettable 5 = .ok (.iconst 5, 1) := by decide +kernel
theorem dX5_forgettable_6 : decode cX5_forgettable 6 = .ok (.if_icmp .ge 43, 3) := by decide +kernel
theorem dX5_forgettable_9 : decode cX5_forgettable 9 = .ok (.iload_n 2, 1) := by decide +kernel
theorem dX5_forgettable_10 : decode cX5_forgettable 10 = .ok (.aload_n 0, 1) := by decide +kernel
theorem dX5_forgettable_11 : decode cX5_forgettable 11 = .ok (.iload_n 3, 1) := by decide +kernel
theorem dX5_forgettable_12 : decode cX5_forgettable 12 = .ok (.iload_n 1, 1) := by decide +kernel
theorem dX5_forgettable_13 : decode cX5_forgettable 13 = .ok (.invokevirtual 109, 3) := by decide +kernel
theorem dX5_forgettable_16 : decode cX5_forgettable 16 = .ok (.ifCond .ne 24, 3) := by decide +kernel
theorem dX5_forgettable_19 : decode cX5_forgettable 19 = .ok (.aload_n 0, 1) := by decide +kernel
theorem dX5_forgettable_20 : decode cX5_forgettable 20 = .ok (.getfield 7, 3) := by decide +kernel
theorem dX5_forgettable_23 : decode cX5_forgettable 23 = .ok (.iload_n 1, 1) := by decide +kernel
theorem dX5_forgettable_24 : decode cX5_forgettable 24 = .ok (.iconst 0, 1) := by decide +kernel
theorem dX5_forgettable_25 : decode cX5_forgettable 25 = .ok (.invokestatic 75, 3) := by decide +kernel
theorem dX5_forgettable_28 : decode cX5_forgettable 28 = .ok (.iload_n 3, 1) := by decide +kernel
theorem dX5_forgettable_29 : decode cX5_forgettable 29 = .ok (.iadd, 1) := by decide +kernel
theorem dX5_forgettable_30 : decode cX5_forgettable 30 = .ok (.iaload, 1) := by decide +kernel
theorem dX5_forgettable_31 : decode cX5_forgettable 31 = .ok (.ifCond .le 9, 3) := by decide +kernel
theorem dX5_forgettable_34 : decode cX5_forgettable 34 = .ok (.iconst 1, 1) := by decide +kernel
theorem dX5_forgettable_35 : decode cX5_forgettable 35 = .ok (.iload_n 3, 1) := by decide +kernel
theorem dX5_forgettable_36 : decode cX5_forgettable 36 = .ok (.ishl, 1) := by decide +kernel
theorem dX5_forgettable_37 : decode cX5_forgettable 37 = .ok (.goto 4, 3) := by decide +kernel
theorem dX5_forgettable_40 : decode cX5_forgettable 40 = .ok (.iconst 0, 1) := by decide +kernel
theorem dX5_forgettable_41 : decode cX5_forgettable 41 = .ok (.ior, 1) := by decide +kernel
theorem dX5_forgettable_42 : decode cX5_forgettable 42 = .ok (.istore_n 2, 1) := by decide +kernel
theorem dX5_forgettable_43 : decode cX5_forgettable 43 = .ok (.iinc 3 1, 3) := by decide +kernel
theorem dX5_forgettable_46 : decode cX5_forgettable 46 = .ok (.goto (-42), 3) := by decide +kernel
theorem dX5_forgettable_49 : decode cX5_forgettable 49 = .ok (.iload_n 2, 1) := by decide +kernel
theorem dX5_forgettable_50 : decode cX5_forgettable 50 = .ok (.ireturn, 1) := by decide +kernel
theorem dX5_counts_0 : decode cX5_counts 0 = .ok (.iconst 0, 1) := by decide +kernel
theorem dX5_counts_1 : decode cX5_counts 1 = .ok (.istore_n 2, 1) := by decide +kernel
theorem dX5_counts_2 : decode cX5_counts 2 = .ok (.iconst 0, 1) := by decide +kernel
theorem dX5_counts_3 : decode cX5_counts 3 = .ok (.istore_n 3, 1) := by decide +kernel
theorem dX5_counts_4 : decode cX5_counts 4 = .ok (.iload_n 3, 1) := by decide +kernel
theorem dX5_counts_5 : decode cX5_counts 5 = .ok (.iconst 5, 1) := by decide +kernel
theorem dX5_counts_6 : decode cX5_counts 6 = .ok (.if_icmp .ge 22, 3) := by decide +kernel
theorem dX5_counts_9 : decode cX5_counts 9 = .ok (.iload_n 2, 1) := by decide +kernel
theorem dX5_counts_10 : decode cX5_counts 10 = .ok (.aload_n 0, 1) := by decide +kernel
theorem dX5_counts_11 : decode cX5_counts 11 = .ok (.getfield 7, 3) := by decide +kernel
theorem dX5_counts_14 : decode cX5_counts 14 = .ok (.iload_n 1, 1) := by decide +kernel
theorem dX5_counts_15 : decode cX5_counts 15 = .ok (.iload_n 3, 1) := by decide +kernel
theorem dX5_counts_16 : decode cX5_counts 16 = .ok (.invokestatic 64, 3) := by decide +kernel
theorem dX5_counts_19 : decode cX5_counts 19 = .ok (.iaload, 1) := by decide +kernel
theorem dX5_counts_20 : decode cX5_counts 20 = .ok (.iadd, 1) := by decide +kernel
theorem dX5_counts_21 : decode cX5_counts 21 = .ok (.istore_n 2, 1) := by decide +kernel
theorem dX5_counts_22 : decode cX5_counts 22 = .ok (.iinc 3 1, 3) := by decide +kernel
theorem dX5_counts_25 : decode cX5_counts 25 = .ok (.goto (-21), 3) := by decide +kernel
theorem dX5_counts_28 : decode cX5_counts 28 = .ok (.iload_n 2, 1) := by decide +kernel
theorem dX5_counts_29 : decode cX5_counts 29 = .ok (.ireturn, 1) := by decide +kernel
theorem dX5_ofKey_0 : decode cX5_ofKey 0 = .ok (.iload_n 2, 1) := by decide +kernel
theorem dX5_ofKey_1 : decode cX5_ofKey 1 = .ok (.tableswitch 102 0 6 #[43, 43, 43, 50, 56, 62, 88], 43) := by decide +kernel
theorem dX5_ofKey_44 : decode cX5_ofKey 44 = .ok (.aload_n 0, 1) := by decide +kernel
theorem dX5_ofKey_45 : decode cX5_ofKey 45 = .ok (.iload_n 1, 1) := by decide +kernel
theorem dX5_ofKey_46 : decode cX5_ofKey 46 = .ok (.iload_n 2, 1) := by decide +kernel
theorem dX5_ofKey_47 : decode cX5_ofKey 47 = .ok (.invokevirtual 47, 3) := by decide +kernel
theorem dX5_ofKey_50 : decode cX5_ofKey 50 = .ok (.ireturn, 1) := by decide +kernel
theorem dX5_ofKey_51 : decode cX5_ofKey 51 = .ok (.aload_n 0, 1) := by decide +kernel
theorem dX5_ofKey_52 : decode cX5_ofKey 52 = .ok (.iload_n 1, 1) := by decide +kernel
theorem dX5_ofKey_53 : decode cX5_ofKey 53 = .ok (.invokevirtual 182, 3) := by decide +kernel
theorem dX5_ofKey_56 : decode cX5_ofKey 56 = .ok (.ireturn, 1) := by decide +kernel
theorem dX5_ofKey_57 : decode cX5_ofKey 57 = .ok (.aload_n 0, 1) := by decide +kernel
theorem dX5_ofKey_58 : decode cX5_ofKey 58 = .ok (.iload_n 1, 1) := by decide +kernel
theorem dX5_ofKey_59 : decode cX5_ofKey 59 = .ok (.invokevirtual 185, 3) := by decide +kernel
theorem dX5_ofKey_62 : decode cX5_ofKey 62 = .ok (.ireturn, 1) := by decide +kernel
theorem dX5_ofKey_63 : decode cX5_ofKey 63 = .ok (.aload_n 0, 1) := by decide +kernel
theorem dX5_ofKey_64 : decode cX5_ofKey 64 = .ok (.iload_n 1, 1) := by decide +kernel
theorem dX5_ofKey_65 : decode cX5_ofKey 65 = .ok (.iconst 0, 1) := by decide +kernel
theorem dX5_ofKey_66 : decode cX5_ofKey 66 = .ok (.iconst 1, 1) := by decide +kernel
theorem dX5_ofKey_67 : decode cX5_ofKey 67 = .ok (.invokevirtual 188, 3) := by decide +kernel
theorem dX5_ofKey_70 : decode cX5_ofKey 70 = .ok (.ifCond .eq 17, 3) := by decide +kernel
theorem dX5_ofKey_73 : decode cX5_ofKey 73 = .ok (.aload_n 0, 1) := by decide +kernel
theorem dX5_ofKey_74 : decode cX5_ofKey 74 = .ok (.iload_n 1, 1) := by decide +kernel
theorem dX5_ofKey_75 : decode cX5_ofKey 75 = .ok (.iconst 0, 1) := by decide +kernel
theorem dX5_ofKey_76 : decode cX5_ofKey 76 = .ok (.iconst 2, 1) := by decide +kernel
theorem dX5_ofKey_77 : decode cX5_ofKey 77 = .ok (.invokevirtual 188, 3) := by decide +kernel
theorem dX5_ofKey_80 : decode cX5_ofKey 80 = .ok (.ifCond .eq 7, 3) := by decide +kernel
theorem dX5_ofKey_83 : decode cX5_ofKey 83 = .ok (.iconst 1, 1) := by decide +kernel
theorem dX5_ofKey_84 : decode cX5_ofKey 84 = .ok (.goto 4, 3) := by decide +kernel
theorem dX5_ofKey_87 : decode cX5_ofKey 87 = .ok (.iconst 0, 1) := by decide +kernel
theorem dX5_ofKey_88 : decode cX5_ofKey 88 = .ok (.ireturn, 1) := by decide +kernel
theorem dX5_ofKey_89 : decode cX5_ofKey 89 = .ok (.aload_n 0, 1) := by decide +kernel
theorem dX5_ofKey_90 : decode cX5_ofKey 90 = .ok (.iload_n 1, 1) := by decide +kernel
theorem dX5_ofKey_91 : decode cX5_ofKey 91 = .ok (.invokevirtual 191, 3) := by decide +kernel
theorem dX5_ofKey_94 : decode cX5_ofKey 94 = .ok (.ifCond .eq 7, 3) := by decide +kernel
theorem dX5_ofKey_97 : decode cX5_ofKey 97 = .ok (.iconst 1, 1) := by decide +kernel
theorem dX5_ofKey_98 : decode cX5_ofKey 98 = .ok (.goto 4, 3) := by decide +kernel
theorem dX5_ofKey_101 : decode cX5_ofKey 101 = .ok (.iconst 0, 1) := by decide +kernel
theorem dX5_ofKey_102 : decode cX5_ofKey 102 = .ok (.ireturn, 1) := by decide +kernel
theorem dX5_ofKey_103 : decode cX5_ofKey 103 = .ok (.aload_n 0, 1) := by decide +kernel
theorem dX5_ofKey_104 : decode cX5_ofKey 104 = .ok (.iload_n 1, 1) := by decide +kernel
theorem dX5_ofKey_105 : decode cX5_ofKey 105 = .ok (.invokevirtual 194, 3) := by decide +kernel
theorem dX5_ofKey_108 : decode cX5_ofKey 108 = .ok (.ireturn, 1) := by decide +kernel
theorem dX5_key_0 : decode cX5_key 0 = .ok (.aload_n 0, 1) := by decide +kernel
theorem dX5_key_1 : decode cX5_key 1 = .ok (.iconst 0, 1) := by decide +kernel
theorem dX5_key_2 : decode cX5_key 2 = .ok (.putfield 32, 3) := by decide +kernel
theorem dX5_key_5 : decode cX5_key 5 = .ok (.iload_n 1, 1) := by decide +kernel
theorem dX5_key_6 : decode cX5_key 6 = .ok (.invokestatic 86, 3) := by decide +kernel
theorem dX5_key_9 : decode cX5_key 9 = .ok (.ifCond .ne 9, 3) := by decide +kernel
theorem dX5_key_12 : decode cX5_key 12 = .ok (.aload_n 0, 1) := by decide +kernel
theorem dX5_key_13 : decode cX5_key 13 = .ok (.iconst 1, 1) := by decide +kernel
theorem dX5_key_14 : decode cX5_key 14 = .ok (.invokevirtual 39, 3) := by decide +kernel
theorem dX5_key_17 : decode cX5_key 17 = .ok (.ireturn, 1) := by decide +kernel
theorem dX5_key_18 : decode cX5_key 18 = .ok (.iload_n 2, 1) := by decide +kernel
theorem dX5_key_19 : decode cX5_key 19 = .ok (.iconst 0, 1) := by decide +kernel
theorem dX5_key_20 : decode cX5_key 20 = .ok (.bipush 7, 2) := by decide +kernel
theorem dX5_key_22 : decode cX5_key 22 = .ok (.invokestatic 35, 3) := by decide +kernel
theorem dX5_key_25 : decode cX5_key 25 = .ok (.ifCond .eq 12, 3) := by decide +kernel
theorem dX5_key_28 : decode cX5_key 28 = .ok (.aload_n 0, 1) := by decide +kernel
theorem dX5_key_29 : decode cX5_key 29 = .ok (.iload_n 1, 1) := by decide +kernel
theorem dX5_key_30 : decode cX5_key 30 = .ok (.iload_n 2, 1) := by decide +kernel
theorem dX5_key_31 : decode cX5_key 31 = .ok (.invokevirtual 197, 3) := by decide +kernel
theorem dX5_key_34 : decode cX5_key 34 = .ok (.goto 8, 3) := by decide +kernel
theorem dX5_key_37 : decode cX5_key 37 = .ok (.aload_n 0, 1) := by decide +kernel
theorem dX5_key_38 : decode cX5_key 38 = .ok (.iconst 2, 1) := by decide +kernel
theorem dX5_key_39 : decode cX5_key 39 = .ok (.invokevirtual 39, 3) := by decide +kernel
theorem dX5_key_42 : decode cX5_key 42 = .ok (.ireturn, 1) := by decide +kernel
theorem dX5_counted_0 : decode cX5_counted 0 = .ok (.iconst 0, 1) := by decide +kernel
theorem dX5_counted_1 : decode cX5_counted 1 = .ok (.istore_n 2, 1) := by decide +kernel
theorem dX5_counted_2 : decode cX5_counted 2 = .ok (.iconst 0, 1) := by decide +kernel
theorem dX5_counted_3 : decode cX5_counted 3 = .ok (.istore_n 3, 1) := by decide +kernel
theorem dX5_counted_4 : decode cX5_counted 4 = .ok (.iconst 0, 1) := by decide +kernel
theorem dX5_counted_5 : decode cX5_counted 5 = .ok (.istore 4, 2) := by decide +kernel
theorem dX5_counted_7 : decode cX5_counted 7 = .ok (.iload 4, 2) := by decide +kernel
theorem dX5_counted_9 : decode cX5_counted 9 = .ok (.bipush 9, 2) := by decide +kernel
theorem dX5_counted_11 : decode cX5_counted 11 = .ok (.if_icmp .ge 41, 3) := by decide +kernel
theorem dX5_counted_14 : decode cX5_counted 14 = .ok (.aload_n 0, 1) := by decide +kernel
theorem dX5_counted_15 : decode cX5_counted 15 = .ok (.iload 4, 2) := by decide +kernel
theorem dX5_counted_17 : decode cX5_counted 17 = .ok (.iconst 3, 1) := by decide +kernel
theorem dX5_counted_18 : decode cX5_counted 18 = .ok (.idiv, 1) := by decide +kernel
theorem dX5_counted_19 : decode cX5_counted 19 = .ok (.iload 4, 2) := by decide +kernel
theorem dX5_counted_21 : decode cX5_counted 21 = .ok (.iconst 3, 1) := by decide +kernel
theorem dX5_counted_22 : decode cX5_counted 22 = .ok (.irem, 1) := by decide +kernel
theorem dX5_counted_23 : decode cX5_counted 23 = .ok (.invokevirtual 47, 3) := by decide +kernel
theorem dX5_counted_26 : decode cX5_counted 26 = .ok (.istore 5, 2) := by decide +kernel
theorem dX5_counted_28 : decode cX5_counted 28 = .ok (.iload_n 2, 1) := by decide +kernel
theorem dX5_counted_29 : decode cX5_counted 29 = .ok (.iload 5, 2) := by decide +kernel
theorem dX5_counted_31 : decode cX5_counted 31 = .ok (.iadd, 1) := by decide +kernel
theorem dX5_counted_32 : decode cX5_counted 32 = .ok (.istore_n 2, 1) := by decide +kernel
theorem dX5_counted_33 : decode cX5_counted 33 = .ok (.iload 5, 2) := by decide +kernel
theorem dX5_counted_35 : decode cX5_counted 35 = .ok (.iload_n 3, 1) := by decide +kernel
theorem dX5_counted_36 : decode cX5_counted 36 = .ok (.if_icmp .le 8, 3) := by decide +kernel
theorem dX5_counted_39 : decode cX5_counted 39 = .ok (.iload 5, 2) := by decide +kernel
theorem dX5_counted_41 : decode cX5_counted 41 = .ok (.goto 4, 3) := by decide +kernel
theorem dX5_counted_44 : decode cX5_counted 44 = .ok (.iload_n 3, 1) := by decide +kernel
theorem dX5_counted_45 : decode cX5_counted 45 = .ok (.istore_n 3, 1) := by decide +kernel
theorem dX5_counted_46 : decode cX5_counted 46 = .ok (.iinc 4 1, 3) := by decide +kernel
theorem dX5_counted_49 : decode cX5_counted 49 = .ok (.goto (-42), 3) := by decide +kernel
theorem dX5_counted_52 : decode cX5_counted 52 = .ok (.iload_n 1, 1) := by decide +kernel
theorem dX5_counted_53 : decode cX5_counted 53 = .ok (.ifCond .ne 7, 3) := by decide +kernel
theorem dX5_counted_56 : decode cX5_counted 56 = .ok (.iload_n 2, 1) := by decide +kernel
theorem dX5_counted_57 : decode cX5_counted 57 = .ok (.goto 37, 3) := by decide +kernel
theorem dX5_counted_60 : decode cX5_counted 60 = .ok (.iload_n 1, 1) := by decide +kernel
theorem dX5_counted_61 : decode cX5_counted 61 = .ok (.iconst 1, 1) := by decide +kernel
theorem dX5_counted_62 : decode cX5_counted 62 = .ok (.if_icmp .ne 7, 3) := by decide +kernel
theorem dX5_counted_65 : decode cX5_counted 65 = .ok (.iload_n 3, 1) := by decide +kernel
theorem dX5_counted_66 : decode cX5_counted 66 = .ok (.goto 28, 3) := by decide +kernel
theorem dX5_counted_69 : decode cX5_counted 69 = .ok (.iload_n 1, 1) := by decide +kernel
theorem dX5_counted_70 : decode cX5_counted 70 = .ok (.bipush 7, 2) := by decide +kernel
theorem dX5_counted_72 : decode cX5_counted 72 = .ok (.if_icmp .ne 10, 3) := by decide +kernel
theorem dX5_counted_75 : decode cX5_counted 75 = .ok (.aload_n 0, 1) := by decide +kernel
theorem dX5_counted_76 : decode cX5_counted 76 = .ok (.getfield 28, 3) := by decide +kernel
theorem dX5_counted_79 : decode cX5_counted 79 = .ok (.goto 15, 3) := by decide +kernel
theorem dX5_counted_82 : decode cX5_counted 82 = .ok (.aload_n 0, 1) := by decide +kernel
theorem dX5_counted_83 : decode cX5_counted 83 = .ok (.getfield 7, 3) := by decide +kernel
theorem dX5_counted_86 : decode cX5_counted 86 = .ok (.sipush 306, 3) := by decide +kernel
theorem dX5_counted_89 : decode cX5_counted 89 = .ok (.iload_n 1, 1) := by decide +kernel
theorem dX5_counted_90 : decode cX5_counted 90 = .ok (.iadd, 1) := by decide +kernel
theorem dX5_counted_91 : decode cX5_counted 91 = .ok (.iconst 2, 1) := by decide +kernel
theorem dX5_counted_92 : decode cX5_counted 92 = .ok (.isub, 1) := by decide +kernel
theorem dX5_counted_93 : decode cX5_counted 93 = .ok (.iaload, 1) := by decide +kernel
theorem dX5_counted_94 : decode cX5_counted 94 = .ok (.ireturn, 1) := by decide +kernel
theorem dX5_count_0 : decode cX5_count 0 = .ok (.aload_n 0, 1) := by decide +kernel
theorem dX5_count_1 : decode cX5_count 1 = .ok (.iconst 0, 1) := by decide +kernel
theorem dX5_count_2 : decode cX5_count 2 = .ok (.putfield 32, 3) := by decide +kernel
theorem dX5_count_5 : decode cX5_count 5 = .ok (.iload_n 1, 1) := by decide +kernel
theorem dX5_count_6 : decode cX5_count 6 = .ok (.iconst 0, 1) := by decide +kernel
theorem dX5_count_7 : decode cX5_count 7 = .ok (.bipush 7, 2) := by decide +kernel
theorem dX5_count_9 : decode cX5_count 9 = .ok (.invokestatic 35, 3) := by decide +kernel
theorem dX5_count_12 : decode cX5_count 12 = .ok (.ifCond .eq 11, 3) := by decide +kernel
theorem dX5_count_15 : decode cX5_count 15 = .ok (.aload_n 0, 1) := by decide +kernel
theorem dX5_count_16 : decode cX5_count 16 = .ok (.iload_n 1, 1) := by decide +kernel
theorem dX5_count_17 : decode cX5_count 17 = .ok (.invokevirtual 200, 3) := by decide +kernel
theorem dX5_count_20 : decode cX5_count 20 = .ok (.goto 8, 3) := by decide +kernel
theorem dX5_count_23 : decode cX5_count 23 = .ok (.aload_n 0, 1) := by decide +kernel
theorem dX5_count_24 : decode cX5_count 24 = .ok (.iconst 1, 1) := by decide +kernel
theorem dX5_count_25 : decode cX5_count 25 = .ok (.invokevirtual 39, 3) := by decide +kernel
theorem dX5_count_28 : decode cX5_count 28 = .ok (.ireturn, 1) := by decide +kernel
theorem dX5_written_0 : decode cX5_written 0 = .ok (.aload_n 0, 1) := by decide +kernel
theorem dX5_written_1 : decode cX5_written 1 = .ok (.iload_n 1, 1) := by decide +kernel
theorem dX5_written_2 : decode cX5_written 2 = .ok (.iload_n 2, 1) := by decide +kernel
theorem dX5_written_3 : decode cX5_written 3 = .ok (.iload_n 3, 1) := by decide +kernel
theorem dX5_written_4 : decode cX5_written 4 = .ok (.invokevirtual 61, 3) := by decide +kernel
theorem dX5_written_7 : decode cX5_written 7 = .ok (.istore 5, 2) := by decide +kernel
theorem dX5_written_9 : decode cX5_written 9 = .ok (.iload 4, 2) := by decide +kernel
theorem dX5_written_11 : decode cX5_written 11 = .ok (.ifCond .ne 8, 3) := by decide +kernel
theorem dX5_written_14 : decode cX5_written 14 = .ok (.iload 5, 2) := by decide +kernel
theorem dX5_written_16 : decode cX5_written 16 = .ok (.goto 14, 3) := by decide +kernel
theorem dX5_written_19 : decode cX5_written 19 = .ok (.aload_n 0, 1) := by decide +kernel
theorem dX5_written_20 : decode cX5_written 20 = .ok (.iload_n 2, 1) := by decide +kernel
theorem dX5_written_21 : decode cX5_written 21 = .ok (.iload_n 3, 1) := by decide +kernel
theorem dX5_written_22 : decode cX5_written 22 = .ok (.invokevirtual 47, 3) := by decide +kernel
theorem dX5_written_25 : decode cX5_written 25 = .ok (.iload 5, 2) := by decide +kernel
theorem dX5_written_27 : decode cX5_written 27 = .ok (.isub, 1) := by decide +kernel
theorem dX5_written_28 : decode cX5_written 28 = .ok (.iconst 1, 1) := by decide +kernel
theorem dX5_written_29 : decode cX5_written 29 = .ok (.iadd, 1) := by decide +kernel
theorem dX5_written_30 : decode cX5_written 30 = .ok (.ireturn, 1) := by decide +kernel
theorem dX5_ifWritten_0 : decode cX5_ifWritten 0 = .ok (.aload_n 0, 1) := by decide +kernel
theorem dX5_ifWritten_1 : decode cX5_ifWritten 1 = .ok (.iconst 0, 1) := by decide +kernel
theorem dX5_ifWritten_2 : decode cX5_ifWritten 2 = .ok (.putfield 32, 3) := by decide +kernel
theorem dX5_ifWritten_5 : decode cX5_ifWritten 5 = .ok (.iload_n 1, 1) := by decide +kernel
theorem dX5_ifWritten_6 : decode cX5_ifWritten 6 = .ok (.iload_n 2, 1) := by decide +kernel
theorem dX5_ifWritten_7 : decode cX5_ifWritten 7 = .ok (.iload_n 3, 1) := by decide +kernel
theorem dX5_ifWritten_8 : decode cX5_ifWritten 8 = .ok (.invokestatic 92, 3) := by decide +kernel
theorem dX5_ifWritten_11 : decode cX5_ifWritten 11 = .ok (.ifCond .ne 9, 3) := by decide +kernel
theorem dX5_ifWritten_14 : decode cX5_ifWritten 14 = .ok (.aload_n 0, 1) := by decide +kernel
theorem dX5_ifWritten_15 : decode cX5_ifWritten 15 = .ok (.iconst 1, 1) := by decide +kernel
theorem dX5_ifWritten_16 : decode cX5_ifWritten 16 = .ok (.invokevirtual 39, 3) := by decide +kernel
theorem dX5_ifWritten_19 : decode cX5_ifWritten 19 = .ok (.ireturn, 1) := by decide +kernel
theorem dX5_ifWritten_20 : decode cX5_ifWritten 20 = .ok (.iload 4, 2) := by decide +kernel
theorem dX5_ifWritten_22 : decode cX5_ifWritten 22 = .ok (.iconst 0, 1) := by decide +kernel
theorem dX5_ifWritten_23 : decode cX5_ifWritten 23 = .ok (.iconst 1, 1) := by decide +kernel
theorem dX5_ifWritten_24 : decode cX5_ifWritten 24 = .ok (.invokestatic 35, 3) := by decide +kernel
theorem dX5_ifWritten_27 : decode cX5_ifWritten 27 = .ok (.ifCond .eq 15, 3) := by decide +kernel
theorem dX5_ifWritten_30 : decode cX5_ifWritten 30 = .ok (.aload_n 0, 1) := by decide +kernel
theorem dX5_ifWritten_31 : decode cX5_ifWritten 31 = .ok (.iload_n 1, 1) := by decide +kernel
theorem dX5_ifWritten_32 : decode cX5_ifWritten 32 = .ok (.iload_n 2, 1) := by decide +kernel
theorem dX5_ifWritten_33 : decode cX5_ifWritten 33 = .ok (.iload_n 3, 1) := by decide +kernel
theorem dX5_ifWritten_34 : decode cX5_ifWritten 34 = .ok (.iload 4, 2) := by decide +kernel
theorem dX5_ifWritten_36 : decode cX5_ifWritten 36 = .ok (.invokevirtual 203, 3) := by decide +kernel
theorem dX5_ifWritten_39 : decode cX5_ifWritten 39 = .ok (.goto 8, 3) := by decide +kernel
theorem dX5_ifWritten_42 : decode cX5_ifWritten 42 = .ok (.aload_n 0, 1) := by decide +kernel
theorem dX5_ifWritten_43 : decode cX5_ifWritten 43 = .ok (.iconst 2, 1) := by decide +kernel
theorem dX5_ifWritten_44 : decode cX5_ifWritten 44 = .ok (.invokevirtual 39, 3) := by decide +kernel
theorem dX5_ifWritten_47 : decode cX5_ifWritten 47 = .ok (.ireturn, 1) := by decide +kernel
theorem dX5_pulled_0 : decode cX5_pulled 0 = .ok (.aload_n 0, 1) := by decide +kernel
theorem dX5_pulled_1 : decode cX5_pulled 1 = .ok (.iload_n 1, 1) := by decide +kernel
theorem dX5_pulled_2 : decode cX5_pulled 2 = .ok (.iload_n 2, 1) := by decide +kernel
theorem dX5_pulled_3 : decode cX5_pulled 3 = .ok (.iload_n 3, 1) := by decide +kernel
theorem dX5_pulled_4 : decode cX5_pulled 4 = .ok (.invokevirtual 129, 3) := by decide +kernel
theorem dX5_pulled_7 : decode cX5_pulled 7 = .ok (.iload 4, 2) := by decide +kernel
theorem dX5_pulled_9 : decode cX5_pulled 9 = .ok (.ifCond .ne 10, 3) := by decide +kernel
theorem dX5_pulled_12 : decode cX5_pulled 12 = .ok (.aload_n 0, 1) := by decide +kernel
theorem dX5_pulled_13 : decode cX5_pulled 13 = .ok (.getfield 115, 3) := by decide +kernel
theorem dX5_pulled_16 : decode cX5_pulled 16 = .ok (.goto 20, 3) := by decide +kernel
theorem dX5_pulled_19 : decode cX5_pulled 19 = .ok (.iload 4, 2) := by decide +kernel
theorem dX5_pulled_21 : decode cX5_pulled 21 = .ok (.iconst 1, 1) := by decide +kernel
theorem dX5_pulled_22 : decode cX5_pulled 22 = .ok (.if_icmp .ne 10, 3) := by decide +kernel
theorem dX5_pulled_25 : decode cX5_pulled 25 = .ok (.aload_n 0, 1) := by decide +kernel
theorem dX5_pulled_26 : decode cX5_pulled 26 = .ok (.getfield 118, 3) := by decide +kernel
theorem dX5_pulled_29 : decode cX5_pulled 29 = .ok (.goto 7, 3) := by decide +kernel
theorem dX5_pulled_32 : decode cX5_pulled 32 = .ok (.aload_n 0, 1) := by decide +kernel
theorem dX5_pulled_33 : decode cX5_pulled 33 = .ok (.getfield 112, 3) := by decide +kernel
theorem dX5_pulled_36 : decode cX5_pulled 36 = .ok (.ireturn, 1) := by decide +kernel
theorem dX5_ifPulled_0 : decode cX5_ifPulled 0 = .ok (.aload_n 0, 1) := by decide +kernel
theorem dX5_ifPulled_1 : decode cX5_ifPulled 1 = .ok (.iconst 0, 1) := by decide +kernel
theorem dX5_ifPulled_2 : decode cX5_ifPulled 2 = .ok (.putfield 32, 3) := by decide +kernel
theorem dX5_ifPulled_5 : decode cX5_ifPulled 5 = .ok (.iload_n 1, 1) := by decide +kernel
theorem dX5_ifPulled_6 : decode cX5_ifPulled 6 = .ok (.invokestatic 89, 3) := by decide +kernel
theorem dX5_ifPulled_9 : decode cX5_ifPulled 9 = .ok (.ifCond .eq 17, 3) := by decide +kernel
theorem dX5_ifPulled_12 : decode cX5_ifPulled 12 = .ok (.iload_n 2, 1) := by decide +kernel
theorem dX5_ifPulled_13 : decode cX5_ifPulled 13 = .ok (.invokestatic 89, 3) := by decide +kernel
theorem dX5_ifPulled_16 : decode cX5_ifPulled 16 = .ok (.ifCond .eq 10, 3) := by decide +kernel
theorem dX5_ifPulled_19 : decode cX5_ifPulled 19 = .ok (.iload_n 3, 1) := by decide +kernel
theorem dX5_ifPulled_20 : decode cX5_ifPulled 20 = .ok (.invokestatic 86, 3) := by decide +kernel
theorem dX5_ifPulled_23 : decode cX5_ifPulled 23 = .ok (.ifCond .ne 9, 3) := by decide +kernel
theorem dX5_ifPulled_26 : decode cX5_ifPulled 26 = .ok (.aload_n 0, 1) := by decide +kernel
theorem dX5_ifPulled_27 : decode cX5_ifPulled 27 = .ok (.iconst 1, 1) := by decide +kernel
theorem dX5_ifPulled_28 : decode cX5_ifPulled 28 = .ok (.invokevirtual 39, 3) := by decide +kernel
theorem dX5_ifPulled_31 : decode cX5_ifPulled 31 = .ok (.ireturn, 1) := by decide +kernel
theorem dX5_ifPulled_32 : decode cX5_ifPulled 32 = .ok (.iload_n 1, 1) := by decide +kernel
theorem dX5_ifPulled_33 : decode cX5_ifPulled 33 = .ok (.iload_n 2, 1) := by decide +kernel
theorem dX5_ifPulled_34 : decode cX5_ifPulled 34 = .ok (.if_icmp .eq 25, 3) := by decide +kernel
theorem dX5_ifPulled_37 : decode cX5_ifPulled 37 = .ok (.iload 4, 2) := by decide +kernel
theorem dX5_ifPulled_39 : decode cX5_ifPulled 39 = .ok (.iconst 0, 1) := by decide +kernel
theorem dX5_ifPulled_40 : decode cX5_ifPulled 40 = .ok (.iconst 2, 1) := by decide +kernel
theorem dX5_ifPulled_41 : decode cX5_ifPulled 41 = .ok (.invokestatic 35, 3) := by decide +kernel
theorem dX5_ifPulled_44 : decode cX5_ifPulled 44 = .ok (.ifCond .eq 15, 3) := by decide +kernel
theorem dX5_ifPulled_47 : decode cX5_ifPulled 47 = .ok (.aload_n 0, 1) := by decide +kernel
theorem dX5_ifPulled_48 : decode cX5_ifPulled 48 = .ok (.iload_n 1, 1) := by decide +kernel
theorem dX5_ifPulled_49 : decode cX5_ifPulled 49 = .ok (.iload_n 2, 1) := by decide +kernel
theorem dX5_ifPulled_50 : decode cX5_ifPulled 50 = .ok (.iload_n 3, 1) := by decide +kernel
theorem dX5_ifPulled_51 : decode cX5_ifPulled 51 = .ok (.iload 4, 2) := by decide +kernel
theorem dX5_ifPulled_53 : decode cX5_ifPulled 53 = .ok (.invokevirtual 206, 3) := by decide +kernel
theorem dX5_ifPulled_56 : decode cX5_ifPulled 56 = .ok (.goto 8, 3) := by decide +kernel
theorem dX5_ifPulled_59 : decode cX5_ifPulled 59 = .ok (.aload_n 0, 1) := by decide +kernel
theorem dX5_ifPulled_60 : decode cX5_ifPulled 60 = .ok (.iconst 2, 1) := by decide +kernel
theorem dX5_ifPulled_61 : decode cX5_ifPulled 61 = .ok (.invokevirtual 39, 3) := by decide +kernel
theorem dX5_ifPulled_64 : decode cX5_ifPulled 64 = .ok (.ireturn, 1) := by decide +kernel
theorem dX5_agrees_0 : decode cX5_agrees 0 = .ok (.iconst 0, 1) := by decide +kernel
theorem dX5_agrees_1 : decode cX5_agrees 1 = .ok (.istore_n 1, 1) := by decide +kernel
theorem dX5_agrees_2 : decode cX5_agrees 2 = .ok (.iconst 0, 1) := by decide +kernel
theorem dX5_agrees_3 : decode cX5_agrees 3 = .ok (.istore_n 2, 1) := by decide +kernel
theorem dX5_agrees_4 : decode cX5_agrees 4 = .ok (.iload_n 2, 1) := by decide +kernel
theorem dX5_agrees_5 : decode cX5_agrees 5 = .ok (.iconst 3, 1) := by decide +kernel
theorem dX5_agrees_6 : decode cX5_agrees 6 = .ok (.if_icmp .ge 63, 3) := by decide +kernel
theorem dX5_agrees_9 : decode cX5_agrees 9 = .ok (.iload_n 1, 1) := by decide +kernel
theorem dX5_agrees_10 : decode cX5_agrees 10 = .ok (.aload_n 0, 1) := by decide +kernel
theorem dX5_agrees_11 : decode cX5_agrees 11 = .ok (.iload_n 2, 1) := by decide +kernel
theorem dX5_agrees_12 : decode cX5_agrees 12 = .ok (.iconst 0, 1) := by decide +kernel
theorem dX5_agrees_13 : decode cX5_agrees 13 = .ok (.iconst 1, 1) := by decide +kernel
theorem dX5_agrees_14 : decode cX5_agrees 14 = .ok (.invokevirtual 188, 3) := by decide +kernel
theorem dX5_agrees_17 : decode cX5_agrees 17 = .ok (.ifCond .eq 7, 3) := by decide +kernel
theorem dX5_agrees_20 : decode cX5_agrees 20 = .ok (.iconst 1, 1) := by decide +kernel
theorem dX5_agrees_21 : decode cX5_agrees 21 = .ok (.goto 4, 3) := by decide +kernel
theorem dX5_agrees_24 : decode cX5_agrees 24 = .ok (.iconst 0, 1) := by decide +kernel
theorem dX5_agrees_25 : decode cX5_agrees 25 = .ok (.iadd, 1) := by decide +kernel
theorem dX5_agrees_26 : decode cX5_agrees 26 = .ok (.istore_n 1, 1) := by decide +kernel
theorem dX5_agrees_27 : decode cX5_agrees 27 = .ok (.iload_n 1, 1) := by decide +kernel
theorem dX5_agrees_28 : decode cX5_agrees 28 = .ok (.aload_n 0, 1) := by decide +kernel
theorem dX5_agrees_29 : decode cX5_agrees 29 = .ok (.iload_n 2, 1) := by decide +kernel
theorem dX5_agrees_30 : decode cX5_agrees 30 = .ok (.iconst 0, 1) := by decide +kernel
theorem dX5_agrees_31 : decode cX5_agrees 31 = .ok (.iconst 2, 1) := by decide +kernel
theorem dX5_agrees_32 : decode cX5_agrees 32 = .ok (.invokevirtual 188, 3) := by decide +kernel
theorem dX5_agrees_35 : decode cX5_agrees 35 = .ok (.ifCond .eq 7, 3) := by decide +kernel
theorem dX5_agrees_38 : decode cX5_agrees 38 = .ok (.iconst 1, 1) := by decide +kernel
theorem dX5_agrees_39 : decode cX5_agrees 39 = .ok (.goto 4, 3) := by decide +kernel
theorem dX5_agrees_42 : decode cX5_agrees 42 = .ok (.iconst 0, 1) := by decide +kernel
theorem dX5_agrees_43 : decode cX5_agrees 43 = .ok (.iadd, 1) := by decide +kernel
theorem dX5_agrees_44 : decode cX5_agrees 44 = .ok (.istore_n 1, 1) := by decide +kernel
theorem dX5_agrees_45 : decode cX5_agrees 45 = .ok (.iload_n 1, 1) := by decide +kernel
theorem dX5_agrees_46 : decode cX5_agrees 46 = .ok (.aload_n 0, 1) := by decide +kernel
theorem dX5_agrees_47 : decode cX5_agrees 47 = .ok (.iload_n 2, 1) := by decide +kernel
theorem dX5_agrees_48 : decode cX5_agrees 48 = .ok (.iconst 1, 1) := by decide +kernel
theorem dX5_agrees_49 : decode cX5_agrees 49 = .ok (.iconst 2, 1) := by decide +kernel
theorem dX5_agrees_50 : decode cX5_agrees 50 = .ok (.invokevirtual 188, 3) := by decide +kernel
theorem dX5_agrees_53 : decode cX5_agrees 53 = .ok (.ifCond .eq 7, 3) := by decide +kernel
theorem dX5_agrees_56 : decode cX5_agrees 56 = .ok (.iconst 1, 1) := by decide +kernel
theorem dX5_agrees_57 : decode cX5_agrees 57 = .ok (.goto 4, 3) := by decide +kernel
theorem dX5_agrees_60 : decode cX5_agrees 60 = .ok (.iconst 0, 1) := by decide +kernel
theorem dX5_agrees_61 : decode cX5_agrees 61 = .ok (.iadd, 1) := by decide +kernel
theorem dX5_agrees_62 : decode cX5_agrees 62 = .ok (.istore_n 1, 1) := by decide +kernel
theorem dX5_agrees_63 : decode cX5_agrees 63 = .ok (.iinc 2 1, 3) := by decide +kernel
theorem dX5_agrees_66 : decode cX5_agrees 66 = .ok (.goto (-62), 3) := by decide +kernel
theorem dX5_agrees_69 : decode cX5_agrees 69 = .ok (.iload_n 1, 1) := by decide +kernel
theorem dX5_agrees_70 : decode cX5_agrees 70 = .ok (.i2d, 1) := by decide +kernel
theorem dX5_agrees_71 : decode cX5_agrees 71 = .ok (.ldc2_w 209, 3) := by decide +kernel
theorem dX5_agrees_74 : decode cX5_agrees 74 = .ok (.ddiv, 1) := by decide +kernel
theorem dX5_agrees_75 : decode cX5_agrees 75 = .ok (.dreturn, 1) := by decide +kernel
theorem dX5_agreement_0 : decode cX5_agreement 0 = .ok (.aload_n 0, 1) := by decide +kernel
theorem dX5_agreement_1 : decode cX5_agreement 1 = .ok (.iconst 0, 1) := by decide +kernel
theorem dX5_agreement_2 : decode cX5_agreement 2 = .ok (.putfield 32, 3) := by decide +kernel
theorem dX5_agreement_5 : decode cX5_agreement 5 = .ok (.aload_n 0, 1) := by decide +kernel
theorem dX5_agreement_6 : decode cX5_agreement 6 = .ok (.invokevirtual 211, 3) := by decide +kernel
theorem dX5_agreement_9 : decode cX5_agreement 9 = .ok (.dreturn, 1) := by decide +kernel
theorem dX5_mixes_0 : decode cX5_mixes 0 = .ok (.aload_n 0, 1) := by decide +kernel
theorem dX5_mixes_1 : decode cX5_mixes 1 = .ok (.ldc2_w 215, 3) := by decide +kernel
theorem dX5_mixes_4 : decode cX5_mixes 4 = .ok (.aload_n 0, 1) := by decide +kernel
theorem dX5_mixes_5 : decode cX5_mixes 5 = .ok (.getfield 217, 3) := by decide +kernel
theorem dX5_mixes_8 : decode cX5_mixes 8 = .ok (.lmul, 1) := by decide +kernel
theorem dX5_mixes_9 : decode cX5_mixes 9 = .ok (.lload_n 1, 1) := by decide +kernel
theorem dX5_mixes_10 : decode cX5_mixes 10 = .ok (.ladd, 1) := by decide +kernel
theorem dX5_mixes_11 : decode cX5_mixes 11 = .ok (.putfield 217, 3) := by decide +kernel
theorem dX5_mixes_14 : decode cX5_mixes 14 = .ok (.return_, 1) := by decide +kernel
theorem dX5_mixesKey_0 : decode cX5_mixesKey 0 = .ok (.iconst 0, 1) := by decide +kernel
theorem dX5_mixesKey_1 : decode cX5_mixesKey 1 = .ok (.istore_n 2, 1) := by decide +kernel
theorem dX5_mixesKey_2 : decode cX5_mixesKey 2 = .ok (.iload_n 2, 1) := by decide +kernel
theorem dX5_mixesKey_3 : decode cX5_mixesKey 3 = .ok (.bipush 8, 2) := by decide +kernel
theorem dX5_mixesKey_5 : decode cX5_mixesKey 5 = .ok (.if_icmp .ge 20, 3) := by decide +kernel
theorem dX5_mixesKey_8 : decode cX5_mixesKey 8 = .ok (.aload_n 0, 1) := by decide +kernel
theorem dX5_mixesKey_9 : decode cX5_mixesKey 9 = .ok (.aload_n 0, 1) := by decide +kernel
theorem dX5_mixesKey_10 : decode cX5_mixesKey 10 = .ok (.iload_n 1, 1) := by decide +kernel
theorem dX5_mixesKey_11 : decode cX5_mixesKey 11 = .ok (.iload_n 2, 1) := by decide +kernel
theorem dX5_mixesKey_12 : decode cX5_mixesKey 12 = .ok (.invokevirtual 197, 3) := by decide +kernel
theorem dX5_mixesKey_15 : decode cX5_mixesKey 15 = .ok (.i2l, 1) := by decide +kernel
theorem dX5_mixesKey_16 : decode cX5_mixesKey 16 = .ok (.invokevirtual 221, 3) := by decide +kernel
theorem dX5_mixesKey_19 : decode cX5_mixesKey 19 = .ok (.iinc 2 1, 3) := by decide +kernel
theorem dX5_mixesKey_22 : decode cX5_mixesKey 22 = .ok (.goto (-20), 3) := by decide +kernel
theorem dX5_mixesKey_25 : decode cX5_mixesKey 25 = .ok (.iconst 0, 1) := by decide +kernel
theorem dX5_mixesKey_26 : decode cX5_mixesKey 26 = .ok (.istore_n 2, 1) := by decide +kernel
theorem dX5_mixesKey_27 : decode cX5_mixesKey 27 = .ok (.iload_n 2, 1) := by decide +kernel
theorem dX5_mixesKey_28 : decode cX5_mixesKey 28 = .ok (.iconst 3, 1) := by decide +kernel
theorem dX5_mixesKey_29 : decode cX5_mixesKey 29 = .ok (.if_icmp .ge 76, 3) := by decide +kernel
theorem dX5_mixesKey_32 : decode cX5_mixesKey 32 = .ok (.iconst 0, 1) := by decide +kernel
theorem dX5_mixesKey_33 : decode cX5_mixesKey 33 = .ok (.istore_n 3, 1) := by decide +kernel
theorem dX5_mixesKey_34 : decode cX5_mixesKey 34 = .ok (.iload_n 3, 1) := by decide +kernel
theorem dX5_mixesKey_35 : decode cX5_mixesKey 35 = .ok (.iconst 5, 1) := by decide +kernel
theorem dX5_mixesKey_36 : decode cX5_mixesKey 36 = .ok (.aload_n 0, 1) := by decide +kernel
theorem dX5_mixesKey_37 : decode cX5_mixesKey 37 = .ok (.iload_n 1, 1) := by decide +kernel
theorem dX5_mixesKey_38 : decode cX5_mixesKey 38 = .ok (.iload_n 2, 1) := by decide +kernel
theorem dX5_mixesKey_39 : decode cX5_mixesKey 39 = .ok (.invokevirtual 47, 3) := by decide +kernel
theorem dX5_mixesKey_42 : decode cX5_mixesKey 42 = .ok (.imul, 1) := by decide +kernel
theorem dX5_mixesKey_43 : decode cX5_mixesKey 43 = .ok (.if_icmp .ge 26, 3) := by decide +kernel
theorem dX5_mixesKey_46 : decode cX5_mixesKey 46 = .ok (.aload_n 0, 1) := by decide +kernel
theorem dX5_mixesKey_47 : decode cX5_mixesKey 47 = .ok (.aload_n 0, 1) := by decide +kernel
theorem dX5_mixesKey_48 : decode cX5_mixesKey 48 = .ok (.iload_n 2, 1) := by decide +kernel
theorem dX5_mixesKey_49 : decode cX5_mixesKey 49 = .ok (.iload_n 1, 1) := by decide +kernel
theorem dX5_mixesKey_50 : decode cX5_mixesKey 50 = .ok (.iload_n 3, 1) := by decide +kernel
theorem dX5_mixesKey_51 : decode cX5_mixesKey 51 = .ok (.iconst 5, 1) := by decide +kernel
theorem dX5_mixesKey_52 : decode cX5_mixesKey 52 = .ok (.idiv, 1) := by decide +kernel
theorem dX5_mixesKey_53 : decode cX5_mixesKey 53 = .ok (.iload_n 3, 1) := by decide +kernel
theorem dX5_mixesKey_54 : decode cX5_mixesKey 54 = .ok (.iconst 5, 1) := by decide +kernel
theorem dX5_mixesKey_55 : decode cX5_mixesKey 55 = .ok (.irem, 1) := by decide +kernel
theorem dX5_mixesKey_56 : decode cX5_mixesKey 56 = .ok (.invokevirtual 179, 3) := by decide +kernel
theorem dX5_mixesKey_59 : decode cX5_mixesKey 59 = .ok (.i2l, 1) := by decide +kernel
theorem dX5_mixesKey_60 : decode cX5_mixesKey 60 = .ok (.invokevirtual 221, 3) := by decide +kernel
theorem dX5_mixesKey_63 : decode cX5_mixesKey 63 = .ok (.iinc 3 1, 3) := by decide +kernel
theorem dX5_mixesKey_66 : decode cX5_mixesKey 66 = .ok (.goto (-32), 3) := by decide +kernel
theorem dX5_mixesKey_69 : decode cX5_mixesKey 69 = .ok (.iconst 0, 1) := by decide +kernel
theorem dX5_mixesKey_70 : decode cX5_mixesKey 70 = .ok (.istore_n 3, 1) := by decide +kernel
theorem dX5_mixesKey_71 : decode cX5_mixesKey 71 = .ok (.iload_n 3, 1) := by decide +kernel
theorem dX5_mixesKey_72 : decode cX5_mixesKey 72 = .ok (.iconst 5, 1) := by decide +kernel
theorem dX5_mixesKey_73 : decode cX5_mixesKey 73 = .ok (.if_icmp .ge 26, 3) := by decide +kernel
theorem dX5_mixesKey_76 : decode cX5_mixesKey 76 = .ok (.aload_n 0, 1) := by decide +kernel
theorem dX5_mixesKey_77 : decode cX5_mixesKey 77 = .ok (.aload_n 0, 1) := by decide +kernel
theorem dX5_mixesKey_78 : decode cX5_mixesKey 78 = .ok (.getfield 7, 3) := by decide +kernel
theorem dX5_mixesKey_81 : decode cX5_mixesKey 81 = .ok (.iload_n 1, 1) := by decide +kernel
theorem dX5_mixesKey_82 : decode cX5_mixesKey 82 = .ok (.iload_n 2, 1) := by decide +kernel
theorem dX5_mixesKey_83 : decode cX5_mixesKey 83 = .ok (.invokestatic 75, 3) := by decide +kernel
theorem dX5_mixesKey_86 : decode cX5_mixesKey 86 = .ok (.iload_n 3, 1) := by decide +kernel
theorem dX5_mixesKey_87 : decode cX5_mixesKey 87 = .ok (.iadd, 1) := by decide +kernel
theorem dX5_mixesKey_88 : decode cX5_mixesKey 88 = .ok (.iaload, 1) := by decide +kernel
theorem dX5_mixesKey_89 : decode cX5_mixesKey 89 = .ok (.i2l, 1) := by decide +kernel
theorem dX5_mixesKey_90 : decode cX5_mixesKey 90 = .ok (.invokevirtual 221, 3) := by decide +kernel
theorem dX5_mixesKey_93 : decode cX5_mixesKey 93 = .ok (.iinc 3 1, 3) := by decide +kernel
theorem dX5_mixesKey_96 : decode cX5_mixesKey 96 = .ok (.goto (-25), 3) := by decide +kernel
theorem dX5_mixesKey_99 : decode cX5_mixesKey 99 = .ok (.iinc 2 1, 3) := by decide +kernel
theorem dX5_mixesKey_102 : decode cX5_mixesKey 102 = .ok (.goto (-75), 3) := by decide +kernel
theorem dX5_mixesKey_105 : decode cX5_mixesKey 105 = .ok (.iconst 0, 1) := by decide +kernel
theorem dX5_mixesKey_106 : decode cX5_mixesKey 106 = .ok (.istore_n 2, 1) := by decide +kernel
theorem dX5_mixesKey_107 : decode cX5_mixesKey 107 = .ok (.iload_n 2, 1) := by decide +kernel
theorem dX5_mixesKey_108 : decode cX5_mixesKey 108 = .ok (.iconst 5, 1) := by decide +kernel
theorem dX5_mixesKey_109 : decode cX5_mixesKey 109 = .ok (.if_icmp .ge 76, 3) := by decide +kernel
theorem dX5_mixesKey_112 : decode cX5_mixesKey 112 = .ok (.iconst 0, 1) := by decide +kernel
theorem dX5_mixesKey_113 : decode cX5_mixesKey 113 = .ok (.istore_n 3, 1) := by decide +kernel
theorem dX5_mixesKey_114 : decode cX5_mixesKey 114 = .ok (.iload_n 3, 1) := by decide +kernel
theorem dX5_mixesKey_115 : decode cX5_mixesKey 115 = .ok (.iconst 5, 1) := by decide +kernel
theorem dX5_mixesKey_116 : decode cX5_mixesKey 116 = .ok (.if_icmp .ge 26, 3) := by decide +kernel
theorem dX5_mixesKey_119 : decode cX5_mixesKey 119 = .ok (.aload_n 0, 1) := by decide +kernel
theorem dX5_mixesKey_120 : decode cX5_mixesKey 120 = .ok (.aload_n 0, 1) := by decide +kernel
theorem dX5_mixesKey_121 : decode cX5_mixesKey 121 = .ok (.getfield 7, 3) := by decide +kernel
theorem dX5_mixesKey_124 : decode cX5_mixesKey 124 = .ok (.iload_n 1, 1) := by decide +kernel
theorem dX5_mixesKey_125 : decode cX5_mixesKey 125 = .ok (.iload_n 2, 1) := by decide +kernel
theorem dX5_mixesKey_126 : decode cX5_mixesKey 126 = .ok (.invokestatic 54, 3) := by decide +kernel
theorem dX5_mixesKey_129 : decode cX5_mixesKey 129 = .ok (.iload_n 3, 1) := by decide +kernel
theorem dX5_mixesKey_130 : decode cX5_mixesKey 130 = .ok (.iadd, 1) := by decide +kernel
theorem dX5_mixesKey_131 : decode cX5_mixesKey 131 = .ok (.iaload, 1) := by decide +kernel
theorem dX5_mixesKey_132 : decode cX5_mixesKey 132 = .ok (.i2l, 1) := by decide +kernel
theorem dX5_mixesKey_133 : decode cX5_mixesKey 133 = .ok (.invokevirtual 221, 3) := by decide +kernel
theorem dX5_mixesKey_136 : decode cX5_mixesKey 136 = .ok (.iinc 3 1, 3) := by decide +kernel
theorem dX5_mixesKey_139 : decode cX5_mixesKey 139 = .ok (.goto (-25), 3) := by decide +kernel
theorem dX5_mixesKey_142 : decode cX5_mixesKey 142 = .ok (.aload_n 0, 1) := by decide +kernel
theorem dX5_mixesKey_143 : decode cX5_mixesKey 143 = .ok (.aload_n 0, 1) := by decide +kernel
theorem dX5_mixesKey_144 : decode cX5_mixesKey 144 = .ok (.iload_n 2, 1) := by decide +kernel
theorem dX5_mixesKey_145 : decode cX5_mixesKey 145 = .ok (.iload_n 1, 1) := by decide +kernel
theorem dX5_mixesKey_146 : decode cX5_mixesKey 146 = .ok (.invokevirtual 109, 3) := by decide +kernel
theorem dX5_mixesKey_149 : decode cX5_mixesKey 149 = .ok (.i2l, 1) := by decide +kernel
theorem dX5_mixesKey_150 : decode cX5_mixesKey 150 = .ok (.invokevirtual 221, 3) := by decide +kernel
theorem dX5_mixesKey_153 : decode cX5_mixesKey 153 = .ok (.aload_n 0, 1) := by decide +kernel
theorem dX5_mixesKey_154 : decode cX5_mixesKey 154 = .ok (.aload_n 0, 1) := by decide +kernel
theorem dX5_mixesKey_155 : decode cX5_mixesKey 155 = .ok (.iload_n 2, 1) := by decide +kernel
theorem dX5_mixesKey_156 : decode cX5_mixesKey 156 = .ok (.iload_n 1, 1) := by decide +kernel
theorem dX5_mixesKey_157 : decode cX5_mixesKey 157 = .ok (.iconst 0, 1) := by decide +kernel
theorem dX5_mixesKey_158 : decode cX5_mixesKey 158 = .ok (.iconst 0, 1) := by decide +kernel
theorem dX5_mixesKey_159 : decode cX5_mixesKey 159 = .ok (.invokevirtual 203, 3) := by decide +kernel
theorem dX5_mixesKey_162 : decode cX5_mixesKey 162 = .ok (.i2l, 1) := by decide +kernel
theorem dX5_mixesKey_163 : decode cX5_mixesKey 163 = .ok (.invokevirtual 221, 3) := by decide +kernel
theorem dX5_mixesKey_166 : decode cX5_mixesKey 166 = .ok (.aload_n 0, 1) := by decide +kernel
theorem dX5_mixesKey_167 : decode cX5_mixesKey 167 = .ok (.aload_n 0, 1) := by decide +kernel
theorem dX5_mixesKey_168 : decode cX5_mixesKey 168 = .ok (.iload_n 2, 1) := by decide +kernel
theorem dX5_mixesKey_169 : decode cX5_mixesKey 169 = .ok (.iload_n 1, 1) := by decide +kernel
theorem dX5_mixesKey_170 : decode cX5_mixesKey 170 = .ok (.iconst 0, 1) := by decide +kernel
theorem dX5_mixesKey_171 : decode cX5_mixesKey 171 = .ok (.iconst 1, 1) := by decide +kernel
theorem dX5_mixesKey_172 : decode cX5_mixesKey 172 = .ok (.invokevirtual 203, 3) := by decide +kernel
theorem dX5_mixesKey_175 : decode cX5_mixesKey 175 = .ok (.i2l, 1) := by decide +kernel
theorem dX5_mixesKey_176 : decode cX5_mixesKey 176 = .ok (.invokevirtual 221, 3) := by decide +kernel
theorem dX5_mixesKey_179 : decode cX5_mixesKey 179 = .ok (.iinc 2 1, 3) := by decide +kernel
theorem dX5_mixesKey_182 : decode cX5_mixesKey 182 = .ok (.goto (-75), 3) := by decide +kernel
theorem dX5_mixesKey_185 : decode cX5_mixesKey 185 = .ok (.return_, 1) := by decide +kernel
theorem dX5_digest_0 : decode cX5_digest 0 = .ok (.aload_n 0, 1) := by decide +kernel
theorem dX5_digest_1 : decode cX5_digest 1 = .ok (.iconst 0, 1) := by decide +kernel
theorem dX5_digest_2 : decode cX5_digest 2 = .ok (.putfield 32, 3) := by decide +kernel
theorem dX5_digest_5 : decode cX5_digest 5 = .ok (.aload_n 0, 1) := by decide +kernel
theorem dX5_digest_6 : decode cX5_digest 6 = .ok (.ldc2_w 225, 3) := by decide +kernel
theorem dX5_digest_9 : decode cX5_digest 9 = .ok (.putfield 217, 3) := by decide +kernel
theorem dX5_digest_12 : decode cX5_digest 12 = .ok (.iconst 0, 1) := by decide +kernel
theorem dX5_digest_13 : decode cX5_digest 13 = .ok (.istore_n 1, 1) := by decide +kernel
theorem dX5_digest_14 : decode cX5_digest 14 = .ok (.iload_n 1, 1) := by decide +kernel
theorem dX5_digest_15 : decode cX5_digest 15 = .ok (.bipush 8, 2) := by decide +kernel
theorem dX5_digest_17 : decode cX5_digest 17 = .ok (.if_icmp .ge 19, 3) := by decide +kernel
theorem dX5_digest_20 : decode cX5_digest 20 = .ok (.aload_n 0, 1) := by decide +kernel
theorem dX5_digest_21 : decode cX5_digest 21 = .ok (.aload_n 0, 1) := by decide +kernel
theorem dX5_digest_22 : decode cX5_digest 22 = .ok (.iload_n 1, 1) := by decide +kernel
theorem dX5_digest_23 : decode cX5_digest 23 = .ok (.invokevirtual 200, 3) := by decide +kernel
theorem dX5_digest_26 : decode cX5_digest 26 = .ok (.i2l, 1) := by decide +kernel
theorem dX5_digest_27 : decode cX5_digest 27 = .ok (.invokevirtual 221, 3) := by decide +kernel
theorem dX5_digest_30 : decode cX5_digest 30 = .ok (.iinc 1 1, 3) := by decide +kernel
theorem dX5_digest_33 : decode cX5_digest 33 = .ok (.goto (-19), 3) := by decide +kernel
theorem dX5_digest_36 : decode cX5_digest 36 = .ok (.iconst 0, 1) := by decide +kernel
theorem dX5_digest_37 : decode cX5_digest 37 = .ok (.istore_n 1, 1) := by decide +kernel
theorem dX5_digest_38 : decode cX5_digest 38 = .ok (.iload_n 1, 1) := by decide +kernel
theorem dX5_digest_39 : decode cX5_digest 39 = .ok (.iconst 3, 1) := by decide +kernel
theorem dX5_digest_40 : decode cX5_digest 40 = .ok (.if_icmp .ge 14, 3) := by decide +kernel
theorem dX5_digest_43 : decode cX5_digest 43 = .ok (.aload_n 0, 1) := by decide +kernel
theorem dX5_digest_44 : decode cX5_digest 44 = .ok (.iload_n 1, 1) := by decide +kernel
theorem dX5_digest_45 : decode cX5_digest 45 = .ok (.invokevirtual 227, 3) := by decide +kernel
theorem dX5_digest_48 : decode cX5_digest 48 = .ok (.iinc 1 1, 3) := by decide +kernel
theorem dX5_digest_51 : decode cX5_digest 51 = .ok (.goto (-13), 3) := by decide +kernel
theorem dX5_digest_54 : decode cX5_digest 54 = .ok (.iconst 0, 1) := by decide +kernel
theorem dX5_digest_55 : decode cX5_digest 55 = .ok (.istore_n 1, 1) := by decide +kernel
theorem dX5_digest_56 : decode cX5_digest 56 = .ok (.iload_n 1, 1) := by decide +kernel
theorem dX5_digest_57 : decode cX5_digest 57 = .ok (.bipush 9, 2) := by decide +kernel
theorem dX5_digest_59 : decode cX5_digest 59 = .ok (.if_icmp .ge 26, 3) := by decide +kernel
theorem dX5_digest_62 : decode cX5_digest 62 = .ok (.aload_n 0, 1) := by decide +kernel
theorem dX5_digest_63 : decode cX5_digest 63 = .ok (.aload_n 0, 1) := by decide +kernel
theorem dX5_digest_64 : decode cX5_digest 64 = .ok (.iconst 1, 1) := by decide +kernel
theorem dX5_digest_65 : decode cX5_digest 65 = .ok (.iconst 0, 1) := by decide +kernel
theorem dX5_digest_66 : decode cX5_digest 66 = .ok (.iload_n 1, 1) := by decide +kernel
theorem dX5_digest_67 : decode cX5_digest 67 = .ok (.iconst 3, 1) := by decide +kernel
theorem dX5_digest_68 : decode cX5_digest 68 = .ok (.idiv, 1) := by decide +kernel
theorem dX5_digest_69 : decode cX5_digest 69 = .ok (.iload_n 1, 1) := by decide +kernel
theorem dX5_digest_70 : decode cX5_digest 70 = .ok (.iconst 3, 1) := by decide +kernel
theorem dX5_digest_71 : decode cX5_digest 71 = .ok (.irem, 1) := by decide +kernel
theorem dX5_digest_72 : decode cX5_digest 72 = .ok (.invokevirtual 206, 3) := by decide +kernel
theorem dX5_digest_75 : decode cX5_digest 75 = .ok (.i2l, 1) := by decide +kernel
theorem dX5_digest_76 : decode cX5_digest 76 = .ok (.invokevirtual 221, 3) := by decide +kernel
theorem dX5_digest_79 : decode cX5_digest 79 = .ok (.iinc 1 1, 3) := by decide +kernel
theorem dX5_digest_82 : decode cX5_digest 82 = .ok (.goto (-26), 3) := by decide +kernel
theorem dX5_digest_85 : decode cX5_digest 85 = .ok (.aload_n 0, 1) := by decide +kernel
theorem dX5_digest_86 : decode cX5_digest 86 = .ok (.aload_n 0, 1) := by decide +kernel
theorem dX5_digest_87 : decode cX5_digest 87 = .ok (.invokevirtual 211, 3) := by decide +kernel
theorem dX5_digest_90 : decode cX5_digest 90 = .ok (.invokestatic 230, 3) := by decide +kernel
theorem dX5_digest_93 : decode cX5_digest 93 = .ok (.invokevirtual 221, 3) := by decide +kernel
theorem dX5_digest_96 : decode cX5_digest 96 = .ok (.aload_n 0, 1) := by decide +kernel
theorem dX5_digest_97 : decode cX5_digest 97 = .ok (.aload_n 0, 1) := by decide +kernel
theorem dX5_digest_98 : decode cX5_digest 98 = .ok (.getfield 135, 3) := by decide +kernel
theorem dX5_digest_101 : decode cX5_digest 101 = .ok (.i2l, 1) := by decide +kernel
theorem dX5_digest_102 : decode cX5_digest 102 = .ok (.invokevirtual 221, 3) := by decide +kernel
theorem dX5_digest_105 : decode cX5_digest 105 = .ok (.iconst 0, 1) := by decide +kernel
theorem dX5_digest_106 : decode cX5_digest 106 = .ok (.istore_n 1, 1) := by decide +kernel
theorem dX5_digest_107 : decode cX5_digest 107 = .ok (.iload_n 1, 1) := by decide +kernel
theorem dX5_digest_108 : decode cX5_digest 108 = .ok (.aload_n 0, 1) := by decide +kernel
theorem dX5_digest_109 : decode cX5_digest 109 = .ok (.getfield 135, 3) := by decide +kernel
theorem dX5_digest_112 : decode cX5_digest 112 = .ok (.if_icmp .ge 20, 3) := by decide +kernel
theorem dX5_digest_115 : decode cX5_digest 115 = .ok (.aload_n 0, 1) := by decide +kernel
theorem dX5_digest_116 : decode cX5_digest 116 = .ok (.aload_n 0, 1) := by decide +kernel
theorem dX5_digest_117 : decode cX5_digest 117 = .ok (.getfield 19, 3) := by decide +kernel
theorem dX5_digest_120 : decode cX5_digest 120 = .ok (.iload_n 1, 1) := by decide +kernel
theorem dX5_digest_121 : decode cX5_digest 121 = .ok (.iaload, 1) := by decide +kernel
theorem dX5_digest_122 : decode cX5_digest 122 = .ok (.i2l, 1) := by decide +kernel
theorem dX5_digest_123 : decode cX5_digest 123 = .ok (.invokevirtual 221, 3) := by decide +kernel
theorem dX5_digest_126 : decode cX5_digest 126 = .ok (.iinc 1 1, 3) := by decide +kernel
theorem dX5_digest_129 : decode cX5_digest 129 = .ok (.goto (-22), 3) := by decide +kernel
theorem dX5_digest_132 : decode cX5_digest 132 = .ok (.aload_n 0, 1) := by decide +kernel
theorem dX5_digest_133 : decode cX5_digest 133 = .ok (.getfield 217, 3) := by decide +kernel
theorem dX5_digest_136 : decode cX5_digest 136 = .ok (.lreturn, 1) := by decide +kernel
