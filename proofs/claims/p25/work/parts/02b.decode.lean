theorem dX4_pull_26 : decode cX4_pull 26 = .ok (.dup, 1) := by decide +kernel
theorem dX4_pull_27 : decode cX4_pull 27 = .ok (.ldc 85, 2) := by decide +kernel
theorem dX4_pull_29 : decode cX4_pull 29 = .ok (.invokespecial 72, 3) := by decide +kernel
theorem dX4_pull_32 : decode cX4_pull 32 = .ok (.athrow, 1) := by decide +kernel
theorem dX4_pull_33 : decode cX4_pull 33 = .ok (.aload_n 0, 1) := by decide +kernel
theorem dX4_pull_34 : decode cX4_pull 34 = .ok (.invokevirtual 38, 3) := by decide +kernel
theorem dX4_pull_37 : decode cX4_pull 37 = .ok (.aload_n 0, 1) := by decide +kernel
theorem dX4_pull_38 : decode cX4_pull 38 = .ok (.getfield 10, 3) := by decide +kernel
theorem dX4_pull_41 : decode cX4_pull 41 = .ok (.iload_n 1, 1) := by decide +kernel
theorem dX4_pull_42 : decode cX4_pull 42 = .ok (.iload_n 2, 1) := by decide +kernel
theorem dX4_pull_43 : decode cX4_pull 43 = .ok (.iload_n 3, 1) := by decide +kernel
theorem dX4_pull_44 : decode cX4_pull 44 = .ok (.invokevirtual 87, 3) := by decide +kernel
theorem dX4_pull_47 : decode cX4_pull 47 = .ok (.ireturn, 1) := by decide +kernel
theorem dX4_join_0 : decode cX4_join 0 = .ok (.iload_n 1, 1) := by decide +kernel
theorem dX4_join_1 : decode cX4_join 1 = .ok (.iload_n 2, 1) := by decide +kernel
theorem dX4_join_2 : decode cX4_join 2 = .ok (.iload_n 3, 1) := by decide +kernel
theorem dX4_join_3 : decode cX4_join 3 = .ok (.invokestatic 34, 3) := by decide +kernel
theorem dX4_join_6 : decode cX4_join 6 = .ok (.iload 4, 2) := by decide +kernel
theorem dX4_join_8 : decode cX4_join 8 = .ok (.iconst 3, 1) := by decide +kernel
theorem dX4_join_9 : decode cX4_join 9 = .ok (.invokestatic 61, 3) := by decide +kernel
theorem dX4_join_12 : decode cX4_join 12 = .ok (.aload_n 0, 1) := by decide +kernel
theorem dX4_join_13 : decode cX4_join 13 = .ok (.getfield 10, 3) := by decide +kernel
theorem dX4_join_16 : decode cX4_join 16 = .ok (.getfield 41, 3) := by decide +kernel
theorem dX4_join_19 : decode cX4_join 19 = .ok (.iload_n 2, 1) := by decide +kernel
theorem dX4_join_20 : decode cX4_join 20 = .ok (.aaload, 1) := by decide +kernel
theorem dX4_join_21 : decode cX4_join 21 = .ok (.astore 5, 2) := by decide +kernel
theorem dX4_join_23 : decode cX4_join 23 = .ok (.aload 5, 2) := by decide +kernel
theorem dX4_join_25 : decode cX4_join 25 = .ok (.getfield 51, 3) := by decide +kernel
theorem dX4_join_28 : decode cX4_join 28 = .ok (.iload_n 3, 1) := by decide +kernel
theorem dX4_join_29 : decode cX4_join 29 = .ok (.aaload, 1) := by decide +kernel
theorem dX4_join_30 : decode cX4_join 30 = .ok (.getfield 55, 3) := by decide +kernel
theorem dX4_join_33 : decode cX4_join 33 = .ok (.ifCond .eq 16, 3) := by decide +kernel
theorem dX4_join_36 : decode cX4_join 36 = .ok (.aload 5, 2) := by decide +kernel
theorem dX4_join_38 : decode cX4_join 38 = .ok (.getfield 91, 3) := by decide +kernel
theorem dX4_join_41 : decode cX4_join 41 = .ok (.iload_n 1, 1) := by decide +kernel
theorem dX4_join_42 : decode cX4_join 42 = .ok (.iaload, 1) := by decide +kernel
theorem dX4_join_43 : decode cX4_join 43 = .ok (.sipush 999, 3) := by decide +kernel
theorem dX4_join_46 : decode cX4_join 46 = .ok (.if_icmp .lt 13, 3) := by decide +kernel
theorem dX4_join_49 : decode cX4_join 49 = .ok (.new 68, 3) := by decide +kernel
theorem dX4_join_52 : decode cX4_join 52 = .ok (.dup, 1) := by decide +kernel
theorem dX4_join_53 : decode cX4_join 53 = .ok (.ldc 94, 2) := by decide +kernel
theorem dX4_join_55 : decode cX4_join 55 = .ok (.invokespecial 72, 3) := by decide +kernel
theorem dX4_join_58 : decode cX4_join 58 = .ok (.athrow, 1) := by decide +kernel
theorem dX4_join_59 : decode cX4_join 59 = .ok (.aload_n 0, 1) := by decide +kernel
theorem dX4_join_60 : decode cX4_join 60 = .ok (.invokevirtual 38, 3) := by decide +kernel
theorem dX4_join_63 : decode cX4_join 63 = .ok (.aload 5, 2) := by decide +kernel
theorem dX4_join_65 : decode cX4_join 65 = .ok (.getfield 51, 3) := by decide +kernel
theorem dX4_join_68 : decode cX4_join 68 = .ok (.iload_n 3, 1) := by decide +kernel
theorem dX4_join_69 : decode cX4_join 69 = .ok (.aaload, 1) := by decide +kernel
theorem dX4_join_70 : decode cX4_join 70 = .ok (.iload 4, 2) := by decide +kernel
theorem dX4_join_72 : decode cX4_join 72 = .ok (.invokevirtual 96, 3) := by decide +kernel
theorem dX4_join_75 : decode cX4_join 75 = .ok (.istore 6, 2) := by decide +kernel
theorem dX4_join_77 : decode cX4_join 77 = .ok (.aload 5, 2) := by decide +kernel
theorem dX4_join_79 : decode cX4_join 79 = .ok (.iload_n 1, 1) := by decide +kernel
theorem dX4_join_80 : decode cX4_join 80 = .ok (.iload_n 3, 1) := by decide +kernel
theorem dX4_join_81 : decode cX4_join 81 = .ok (.invokevirtual 45, 3) := by decide +kernel
theorem dX4_join_84 : decode cX4_join 84 = .ok (.aload_n 0, 1) := by decide +kernel
theorem dX4_join_85 : decode cX4_join 85 = .ok (.getfield 10, 3) := by decide +kernel
theorem dX4_join_88 : decode cX4_join 88 = .ok (.iload_n 1, 1) := by decide +kernel
theorem dX4_join_89 : decode cX4_join 89 = .ok (.iload_n 2, 1) := by decide +kernel
theorem dX4_join_90 : decode cX4_join 90 = .ok (.iload_n 3, 1) := by decide +kernel
theorem dX4_join_91 : decode cX4_join 91 = .ok (.iload 6, 2) := by decide +kernel
theorem dX4_join_93 : decode cX4_join 93 = .ok (.invokevirtual 75, 3) := by decide +kernel
theorem dX4_join_96 : decode cX4_join 96 = .ok (.pop, 1) := by decide +kernel
theorem dX4_join_97 : decode cX4_join 97 = .ok (.aload_n 0, 1) := by decide +kernel
theorem dX4_join_98 : decode cX4_join 98 = .ok (.getfield 10, 3) := by decide +kernel
theorem dX4_join_101 : decode cX4_join 101 = .ok (.dup, 1) := by decide +kernel
theorem dX4_join_102 : decode cX4_join 102 = .ok (.getfield 100, 3) := by decide +kernel
theorem dX4_join_105 : decode cX4_join 105 = .ok (.iconst 1, 1) := by decide +kernel
theorem dX4_join_106 : decode cX4_join 106 = .ok (.iadd, 1) := by decide +kernel
theorem dX4_join_107 : decode cX4_join 107 = .ok (.putfield 100, 3) := by decide +kernel
theorem dX4_join_110 : decode cX4_join 110 = .ok (.iload 6, 2) := by decide +kernel
theorem dX4_join_112 : decode cX4_join 112 = .ok (.ireturn, 1) := by decide +kernel
theorem dX4_lose_0 : decode cX4_lose 0 = .ok (.iload_n 1, 1) := by decide +kernel
theorem dX4_lose_1 : decode cX4_lose 1 = .ok (.iconst 5, 1) := by decide +kernel
theorem dX4_lose_2 : decode cX4_lose 2 = .ok (.invokestatic 103, 3) := by decide +kernel
theorem dX4_lose_5 : decode cX4_lose 5 = .ok (.iload_n 2, 1) := by decide +kernel
theorem dX4_lose_6 : decode cX4_lose 6 = .ok (.iconst 3, 1) := by decide +kernel
theorem dX4_lose_7 : decode cX4_lose 7 = .ok (.invokestatic 103, 3) := by decide +kernel
theorem dX4_lose_10 : decode cX4_lose 10 = .ok (.aload_n 0, 1) := by decide +kernel
theorem dX4_lose_11 : decode cX4_lose 11 = .ok (.invokevirtual 38, 3) := by decide +kernel
theorem dX4_lose_14 : decode cX4_lose 14 = .ok (.aload_n 0, 1) := by decide +kernel
theorem dX4_lose_15 : decode cX4_lose 15 = .ok (.getfield 10, 3) := by decide +kernel
theorem dX4_lose_18 : decode cX4_lose 18 = .ok (.getfield 41, 3) := by decide +kernel
theorem dX4_lose_21 : decode cX4_lose 21 = .ok (.iload_n 2, 1) := by decide +kernel
theorem dX4_lose_22 : decode cX4_lose 22 = .ok (.aaload, 1) := by decide +kernel
theorem dX4_lose_23 : decode cX4_lose 23 = .ok (.iload_n 1, 1) := by decide +kernel
theorem dX4_lose_24 : decode cX4_lose 24 = .ok (.invokevirtual 106, 3) := by decide +kernel
theorem dX4_lose_27 : decode cX4_lose 27 = .ok (.ireturn, 1) := by decide +kernel
theorem dX4_forget_0 : decode cX4_forget 0 = .ok (.iload_n 1, 1) := by decide +kernel
theorem dX4_forget_1 : decode cX4_forget 1 = .ok (.iconst 5, 1) := by decide +kernel
theorem dX4_forget_2 : decode cX4_forget 2 = .ok (.invokestatic 103, 3) := by decide +kernel
theorem dX4_forget_5 : decode cX4_forget 5 = .ok (.iload_n 2, 1) := by decide +kernel
theorem dX4_forget_6 : decode cX4_forget 6 = .ok (.iconst 3, 1) := by decide +kernel
theorem dX4_forget_7 : decode cX4_forget 7 = .ok (.invokestatic 103, 3) := by decide +kernel
theorem dX4_forget_10 : decode cX4_forget 10 = .ok (.aload_n 0, 1) := by decide +kernel
theorem dX4_forget_11 : decode cX4_forget 11 = .ok (.getfield 10, 3) := by decide +kernel
theorem dX4_forget_14 : decode cX4_forget 14 = .ok (.getfield 41, 3) := by decide +kernel
theorem dX4_forget_17 : decode cX4_forget 17 = .ok (.iload_n 2, 1) := by decide +kernel
theorem dX4_forget_18 : decode cX4_forget 18 = .ok (.aaload, 1) := by decide +kernel
theorem dX4_forget_19 : decode cX4_forget 19 = .ok (.astore_n 3, 1) := by decide +kernel
theorem dX4_forget_20 : decode cX4_forget 20 = .ok (.aload_n 3, 1) := by decide +kernel
theorem dX4_forget_21 : decode cX4_forget 21 = .ok (.iload_n 1, 1) := by decide +kernel
theorem dX4_forget_22 : decode cX4_forget 22 = .ok (.invokevirtual 109, 3) := by decide +kernel
theorem dX4_forget_25 : decode cX4_forget 25 = .ok (.ifCond .eq 13, 3) := by decide +kernel
theorem dX4_forget_28 : decode cX4_forget 28 = .ok (.new 68, 3) := by decide +kernel
theorem dX4_forget_31 : decode cX4_forget 31 = .ok (.dup, 1) := by decide +kernel
theorem dX4_forget_32 : decode cX4_forget 32 = .ok (.ldc 112, 2) := by decide +kernel
theorem dX4_forget_34 : decode cX4_forget 34 = .ok (.invokespecial 72, 3) := by decide +kernel
theorem dX4_forget_37 : decode cX4_forget 37 = .ok (.athrow, 1) := by decide +kernel
theorem dX4_forget_38 : decode cX4_forget 38 = .ok (.aload_n 0, 1) := by decide +kernel
theorem dX4_forget_39 : decode cX4_forget 39 = .ok (.invokevirtual 38, 3) := by decide +kernel
theorem dX4_forget_42 : decode cX4_forget 42 = .ok (.aload_n 3, 1) := by decide +kernel
theorem dX4_forget_43 : decode cX4_forget 43 = .ok (.getfield 91, 3) := by decide +kernel
theorem dX4_forget_46 : decode cX4_forget 46 = .ok (.iload_n 1, 1) := by decide +kernel
theorem dX4_forget_47 : decode cX4_forget 47 = .ok (.iaload, 1) := by decide +kernel
theorem dX4_forget_48 : decode cX4_forget 48 = .ok (.istore 4, 2) := by decide +kernel
theorem dX4_forget_50 : decode cX4_forget 50 = .ok (.aload_n 3, 1) := by decide +kernel
theorem dX4_forget_51 : decode cX4_forget 51 = .ok (.iload_n 1, 1) := by decide +kernel
theorem dX4_forget_52 : decode cX4_forget 52 = .ok (.invokevirtual 114, 3) := by decide +kernel
theorem dX4_forget_55 : decode cX4_forget 55 = .ok (.aload_n 0, 1) := by decide +kernel
theorem dX4_forget_56 : decode cX4_forget 56 = .ok (.getfield 10, 3) := by decide +kernel
theorem dX4_forget_59 : decode cX4_forget 59 = .ok (.dup, 1) := by decide +kernel
theorem dX4_forget_60 : decode cX4_forget 60 = .ok (.getfield 118, 3) := by decide +kernel
theorem dX4_forget_63 : decode cX4_forget 63 = .ok (.iconst 1, 1) := by decide +kernel
theorem dX4_forget_64 : decode cX4_forget 64 = .ok (.iadd, 1) := by decide +kernel
theorem dX4_forget_65 : decode cX4_forget 65 = .ok (.putfield 118, 3) := by decide +kernel
theorem dX4_forget_68 : decode cX4_forget 68 = .ok (.iload 4, 2) := by decide +kernel
theorem dX4_forget_70 : decode cX4_forget 70 = .ok (.ireturn, 1) := by decide +kernel
theorem dX4_pullAll_0 : decode cX4_pullAll 0 = .ok (.aload_n 0, 1) := by decide +kernel
theorem dX4_pullAll_1 : decode cX4_pullAll 1 = .ok (.getfield 16, 3) := by decide +kernel
theorem dX4_pullAll_4 : decode cX4_pullAll 4 = .ok (.aload_n 0, 1) := by decide +kernel
theorem dX4_pullAll_5 : decode cX4_pullAll 5 = .ok (.getfield 10, 3) := by decide +kernel
theorem dX4_pullAll_8 : decode cX4_pullAll 8 = .ok (.invokevirtual 121, 3) := by decide +kernel
theorem dX4_pullAll_11 : decode cX4_pullAll 11 = .ok (.aload_n 0, 1) := by decide +kernel
theorem dX4_pullAll_12 : decode cX4_pullAll 12 = .ok (.getfield 16, 3) := by decide +kernel
theorem dX4_pullAll_15 : decode cX4_pullAll 15 = .ok (.invokevirtual 125, 3) := by decide +kernel
theorem dX4_pullAll_18 : decode cX4_pullAll 18 = .ok (.ifCond .ne 13, 3) := by decide +kernel
theorem dX4_pullAll_21 : decode cX4_pullAll 21 = .ok (.new 68, 3) := by decide +kernel
theorem dX4_pullAll_24 : decode cX4_pullAll 24 = .ok (.dup, 1) := by decide +kernel
theorem dX4_pullAll_25 : decode cX4_pullAll 25 = .ok (.ldc 85, 2) := by decide +kernel
theorem dX4_pullAll_27 : decode cX4_pullAll 27 = .ok (.invokespecial 72, 3) := by decide +kernel
theorem dX4_pullAll_30 : decode cX4_pullAll 30 = .ok (.athrow, 1) := by decide +kernel
theorem dX4_pullAll_31 : decode cX4_pullAll 31 = .ok (.aload_n 0, 1) := by decide +kernel
theorem dX4_pullAll_32 : decode cX4_pullAll 32 = .ok (.getfield 16, 3) := by decide +kernel
theorem dX4_pullAll_35 : decode cX4_pullAll 35 = .ok (.getfield 129, 3) := by decide +kernel
theorem dX4_pullAll_38 : decode cX4_pullAll 38 = .ok (.aload_n 0, 1) := by decide +kernel
theorem dX4_pullAll_39 : decode cX4_pullAll 39 = .ok (.getfield 10, 3) := by decide +kernel
theorem dX4_pullAll_42 : decode cX4_pullAll 42 = .ok (.getfield 129, 3) := by decide +kernel
theorem dX4_pullAll_45 : decode cX4_pullAll 45 = .ok (.isub, 1) := by decide +kernel
theorem dX4_pullAll_46 : decode cX4_pullAll 46 = .ok (.istore_n 1, 1) := by decide +kernel
theorem dX4_pullAll_47 : decode cX4_pullAll 47 = .ok (.aload_n 0, 1) := by decide +kernel
theorem dX4_pullAll_48 : decode cX4_pullAll 48 = .ok (.invokevirtual 38, 3) := by decide +kernel
theorem dX4_pullAll_51 : decode cX4_pullAll 51 = .ok (.aload_n 0, 1) := by decide +kernel
theorem dX4_pullAll_52 : decode cX4_pullAll 52 = .ok (.getfield 10, 3) := by decide +kernel
theorem dX4_pullAll_55 : decode cX4_pullAll 55 = .ok (.aload_n 0, 1) := by decide +kernel
theorem dX4_pullAll_56 : decode cX4_pullAll 56 = .ok (.getfield 16, 3) := by decide +kernel
theorem dX4_pullAll_59 : decode cX4_pullAll 59 = .ok (.invokevirtual 121, 3) := by decide +kernel
theorem dX4_pullAll_62 : decode cX4_pullAll 62 = .ok (.iload_n 1, 1) := by decide +kernel
theorem dX4_pullAll_63 : decode cX4_pullAll 63 = .ok (.ireturn, 1) := by decide +kernel
theorem dX4_append_0 : decode cX4_append 0 = .ok (.iload_n 1, 1) := by decide +kernel
theorem dX4_append_1 : decode cX4_append 1 = .ok (.bipush 33, 2) := by decide +kernel
theorem dX4_append_3 : decode cX4_append 3 = .ok (.if_icmp .lt 9, 3) := by decide +kernel
theorem dX4_append_6 : decode cX4_append 6 = .ok (.iload_n 1, 1) := by decide +kernel
theorem dX4_append_7 : decode cX4_append 7 = .ok (.bipush 126, 2) := by decide +kernel
theorem dX4_append_9 : decode cX4_append 9 = .ok (.if_icmp .le 13, 3) := by decide +kernel
theorem dX4_append_12 : decode cX4_append 12 = .ok (.new 132, 3) := by decide +kernel
theorem dX4_append_15 : decode cX4_append 15 = .ok (.dup, 1) := by decide +kernel
theorem dX4_append_16 : decode cX4_append 16 = .ok (.ldc 134, 2) := by decide +kernel
theorem dX4_append_18 : decode cX4_append 18 = .ok (.invokespecial 136, 3) := by decide +kernel
theorem dX4_append_21 : decode cX4_append 21 = .ok (.athrow, 1) := by decide +kernel
theorem dX4_append_22 : decode cX4_append 22 = .ok (.aload_n 0, 1) := by decide +kernel
theorem dX4_append_23 : decode cX4_append 23 = .ok (.getfield 137, 3) := by decide +kernel
theorem dX4_append_26 : decode cX4_append 26 = .ok (.bipush 60, 2) := by decide +kernel
theorem dX4_append_28 : decode cX4_append 28 = .ok (.if_icmp .lt 13, 3) := by decide +kernel
theorem dX4_append_31 : decode cX4_append 31 = .ok (.new 68, 3) := by decide +kernel
theorem dX4_append_34 : decode cX4_append 34 = .ok (.dup, 1) := by decide +kernel
theorem dX4_append_35 : decode cX4_append 35 = .ok (.ldc 140, 2) := by decide +kernel
theorem dX4_append_37 : decode cX4_append 37 = .ok (.invokespecial 72, 3) := by decide +kernel
theorem dX4_append_40 : decode cX4_append 40 = .ok (.athrow, 1) := by decide +kernel
theorem dX4_append_41 : decode cX4_append 41 = .ok (.aload_n 0, 1) := by decide +kernel
theorem dX4_append_42 : decode cX4_append 42 = .ok (.getfield 23, 3) := by decide +kernel
theorem dX4_append_45 : decode cX4_append 45 = .ok (.aload_n 0, 1) := by decide +kernel
theorem dX4_append_46 : decode cX4_append 46 = .ok (.getfield 137, 3) := by decide +kernel
theorem dX4_append_49 : decode cX4_append 49 = .ok (.iload_n 1, 1) := by decide +kernel
theorem dX4_append_50 : decode cX4_append 50 = .ok (.iastore, 1) := by decide +kernel
theorem dX4_append_51 : decode cX4_append 51 = .ok (.aload_n 0, 1) := by decide +kernel
theorem dX4_append_52 : decode cX4_append 52 = .ok (.dup, 1) := by decide +kernel
theorem dX4_append_53 : decode cX4_append 53 = .ok (.getfield 137, 3) := by decide +kernel
theorem dX4_append_56 : decode cX4_append 56 = .ok (.iconst 1, 1) := by decide +kernel
theorem dX4_append_57 : decode cX4_append 57 = .ok (.iadd, 1) := by decide +kernel
theorem dX4_append_58 : decode cX4_append 58 = .ok (.putfield 137, 3) := by decide +kernel
theorem dX4_append_61 : decode cX4_append 61 = .ok (.aload_n 0, 1) := by decide +kernel
theorem dX4_append_62 : decode cX4_append 62 = .ok (.getfield 137, 3) := by decide +kernel
theorem dX4_append_65 : decode cX4_append 65 = .ok (.ireturn, 1) := by decide +kernel
theorem dX4_clearBuffer_0 : decode cX4_clearBuffer 0 = .ok (.aload_n 0, 1) := by decide +kernel
theorem dX4_clearBuffer_1 : decode cX4_clearBuffer 1 = .ok (.getfield 137, 3) := by decide +kernel
theorem dX4_clearBuffer_4 : decode cX4_clearBuffer 4 = .ok (.istore_n 1, 1) := by decide +kernel
theorem dX4_clearBuffer_5 : decode cX4_clearBuffer 5 = .ok (.aload_n 0, 1) := by decide +kernel
theorem dX4_clearBuffer_6 : decode cX4_clearBuffer 6 = .ok (.iconst 0, 1) := by decide +kernel
theorem dX4_clearBuffer_7 : decode cX4_clearBuffer 7 = .ok (.putfield 137, 3) := by decide +kernel
theorem dX4_clearBuffer_10 : decode cX4_clearBuffer 10 = .ok (.iload_n 1, 1) := by decide +kernel
theorem dX4_clearBuffer_11 : decode cX4_clearBuffer 11 = .ok (.ireturn, 1) := by decide +kernel
theorem dX4_firstError_0 : decode cX4_firstError 0 = .ok (.aload_n 0, 1) := by decide +kernel
theorem dX4_firstError_1 : decode cX4_firstError 1 = .ok (.invokevirtual 142, 3) := by decide +kernel
theorem dX4_firstError_4 : decode cX4_firstError 4 = .ok (.ireturn, 1) := by decide +kernel
theorem dX4_runAll_0 : decode cX4_runAll 0 = .ok (.aload_n 0, 1) := by decide +kernel
theorem dX4_runAll_1 : decode cX4_runAll 1 = .ok (.invokevirtual 142, 3) := by decide +kernel
theorem dX4_runAll_4 : decode cX4_runAll 4 = .ok (.aload_n 0, 1) := by decide +kernel
theorem dX4_runAll_5 : decode cX4_runAll 5 = .ok (.getfield 137, 3) := by decide +kernel
theorem dX4_runAll_8 : decode cX4_runAll 8 = .ok (.if_icmp .lt 13, 3) := by decide +kernel
theorem dX4_runAll_11 : decode cX4_runAll 11 = .ok (.aload_n 0, 1) := by decide +kernel
theorem dX4_runAll_12 : decode cX4_runAll 12 = .ok (.getfield 30, 3) := by decide +kernel
theorem dX4_runAll_15 : decode cX4_runAll 15 = .ok (.invokevirtual 146, 3) := by decide +kernel
theorem dX4_runAll_18 : decode cX4_runAll 18 = .ok (.ifCond .ne 13, 3) := by decide +kernel
theorem dX4_runAll_21 : decode cX4_runAll 21 = .ok (.new 132, 3) := by decide +kernel
theorem dX4_runAll_24 : decode cX4_runAll 24 = .ok (.dup, 1) := by decide +kernel
theorem dX4_runAll_25 : decode cX4_runAll 25 = .ok (.ldc 149, 2) := by decide +kernel
theorem dX4_runAll_27 : decode cX4_runAll 27 = .ok (.invokespecial 136, 3) := by decide +kernel
theorem dX4_runAll_30 : decode cX4_runAll 30 = .ok (.athrow, 1) := by decide +kernel
theorem dX4_runAll_31 : decode cX4_runAll 31 = .ok (.aload_n 0, 1) := by decide +kernel
theorem dX4_runAll_32 : decode cX4_runAll 32 = .ok (.invokevirtual 38, 3) := by decide +kernel
theorem dX4_runAll_35 : decode cX4_runAll 35 = .ok (.aload_n 0, 1) := by decide +kernel
theorem dX4_runAll_36 : decode cX4_runAll 36 = .ok (.invokevirtual 151, 3) := by decide +kernel
theorem dX4_runAll_39 : decode cX4_runAll 39 = .ok (.istore_n 1, 1) := by decide +kernel
theorem dX4_runAll_40 : decode cX4_runAll 40 = .ok (.aload_n 0, 1) := by decide +kernel
theorem dX4_runAll_41 : decode cX4_runAll 41 = .ok (.iconst 0, 1) := by decide +kernel
theorem dX4_runAll_42 : decode cX4_runAll 42 = .ok (.putfield 137, 3) := by decide +kernel
theorem dX4_runAll_45 : decode cX4_runAll 45 = .ok (.iload_n 1, 1) := by decide +kernel
theorem dX4_runAll_46 : decode cX4_runAll 46 = .ok (.ireturn, 1) := by decide +kernel
theorem dX4_undo_0 : decode cX4_undo 0 = .ok (.aload_n 0, 1) := by decide +kernel
theorem dX4_undo_1 : decode cX4_undo 1 = .ok (.getfield 154, 3) := by decide +kernel
theorem dX4_undo_4 : decode cX4_undo 4 = .ok (.ifCond .ne 13, 3) := by decide +kernel
theorem dX4_undo_7 : decode cX4_undo 7 = .ok (.new 68, 3) := by decide +kernel
theorem dX4_undo_10 : decode cX4_undo 10 = .ok (.dup, 1) := by decide +kernel
theorem dX4_undo_11 : decode cX4_undo 11 = .ok (.ldc 157, 2) := by decide +kernel
theorem dX4_undo_13 : decode cX4_undo 13 = .ok (.invokespecial 72, 3) := by decide +kernel
theorem dX4_undo_16 : decode cX4_undo 16 = .ok (.athrow, 1) := by decide +kernel
theorem dX4_undo_17 : decode cX4_undo 17 = .ok (.aload_n 0, 1) := by decide +kernel
theorem dX4_undo_18 : decode cX4_undo 18 = .ok (.dup, 1) := by decide +kernel
theorem dX4_undo_19 : decode cX4_undo 19 = .ok (.getfield 154, 3) := by decide +kernel
theorem dX4_undo_22 : decode cX4_undo 22 = .ok (.iconst 1, 1) := by decide +kernel
theorem dX4_undo_23 : decode cX4_undo 23 = .ok (.isub, 1) := by decide +kernel
theorem dX4_undo_24 : decode cX4_undo 24 = .ok (.putfield 154, 3) := by decide +kernel
theorem dX4_undo_27 : decode cX4_undo 27 = .ok (.aload_n 0, 1) := by decide +kernel
theorem dX4_undo_28 : decode cX4_undo 28 = .ok (.getfield 10, 3) := by decide +kernel
theorem dX4_undo_31 : decode cX4_undo 31 = .ok (.aload_n 0, 1) := by decide +kernel
theorem dX4_undo_32 : decode cX4_undo 32 = .ok (.getfield 19, 3) := by decide +kernel
theorem dX4_undo_35 : decode cX4_undo 35 = .ok (.aload_n 0, 1) := by decide +kernel
theorem dX4_undo_36 : decode cX4_undo 36 = .ok (.getfield 154, 3) := by decide +kernel
theorem dX4_undo_39 : decode cX4_undo 39 = .ok (.aaload, 1) := by decide +kernel
theorem dX4_undo_40 : decode cX4_undo 40 = .ok (.invokevirtual 121, 3) := by decide +kernel
theorem dX4_undo_43 : decode cX4_undo 43 = .ok (.aload_n 0, 1) := by decide +kernel
theorem dX4_undo_44 : decode cX4_undo 44 = .ok (.getfield 154, 3) := by decide +kernel
theorem dX4_undo_47 : decode cX4_undo 47 = .ok (.ireturn, 1) := by decide +kernel
theorem dX4_sibling_0 : decode cX4_sibling 0 = .ok (.iload_n 1, 1) := by decide +kernel
theorem dX4_sibling_1 : decode cX4_sibling 1 = .ok (.iconst 3, 1) := by decide +kernel
theorem dX4_sibling_2 : decode cX4_sibling 2 = .ok (.invokestatic 103, 3) := by decide +kernel
theorem dX4_sibling_5 : decode cX4_sibling 5 = .ok (.iload_n 2, 1) := by decide +kernel
theorem dX4_sibling_6 : decode cX4_sibling 6 = .ok (.iconst 3, 1) := by decide +kernel
theorem dX4_sibling_7 : decode cX4_sibling 7 = .ok (.invokestatic 103, 3) := by decide +kernel
theorem dX4_sibling_10 : decode cX4_sibling 10 = .ok (.iload_n 3, 1) := by decide +kernel
theorem dX4_sibling_11 : decode cX4_sibling 11 = .ok (.iconst 3, 1) := by decide +kernel
theorem dX4_sibling_12 : decode cX4_sibling 12 = .ok (.invokestatic 61, 3) := by decide +kernel
theorem dX4_sibling_15 : decode cX4_sibling 15 = .ok (.iload 4, 2) := by decide +kernel
theorem dX4_sibling_17 : decode cX4_sibling 17 = .ok (.iconst 4, 1) := by decide +kernel
theorem dX4_sibling_18 : decode cX4_sibling 18 = .ok (.invokestatic 61, 3) := by decide +kernel
theorem dX4_sibling_21 : decode cX4_sibling 21 = .ok (.aload_n 0, 1) := by decide +kernel
theorem dX4_sibling_22 : decode cX4_sibling 22 = .ok (.getfield 10, 3) := by decide +kernel
theorem dX4_sibling_25 : decode cX4_sibling 25 = .ok (.getfield 41, 3) := by decide +kernel
theorem dX4_sibling_28 : decode cX4_sibling 28 = .ok (.iload_n 2, 1) := by decide +kernel
theorem dX4_sibling_29 : decode cX4_sibling 29 = .ok (.aaload, 1) := by decide +kernel
theorem dX4_sibling_30 : decode cX4_sibling 30 = .ok (.iload_n 1, 1) := by decide +kernel
theorem dX4_sibling_31 : decode cX4_sibling 31 = .ok (.iload_n 3, 1) := by decide +kernel
theorem dX4_sibling_32 : decode cX4_sibling 32 = .ok (.iload 4, 2) := by decide +kernel
theorem dX4_sibling_34 : decode cX4_sibling 34 = .ok (.invokevirtual 159, 3) := by decide +kernel
theorem dX4_sibling_37 : decode cX4_sibling 37 = .ok (.ireturn, 1) := by decide +kernel
theorem dX4_vector_0 : decode cX4_vector 0 = .ok (.iload_n 3, 1) := by decide +kernel
theorem dX4_vector_1 : decode cX4_vector 1 = .ok (.iload_n 2, 1) := by decide +kernel
theorem dX4_vector_2 : decode cX4_vector 2 = .ok (.iload_n 1, 1) := by decide +kernel
theorem dX4_vector_3 : decode cX4_vector 3 = .ok (.invokestatic 34, 3) := by decide +kernel
theorem dX4_vector_6 : decode cX4_vector 6 = .ok (.aload_n 0, 1) := by decide +kernel
theorem dX4_vector_7 : decode cX4_vector 7 = .ok (.getfield 10, 3) := by decide +kernel
theorem dX4_vector_10 : decode cX4_vector 10 = .ok (.getfield 41, 3) := by decide +kernel
theorem dX4_vector_13 : decode cX4_vector 13 = .ok (.iload_n 2, 1) := by decide +kernel
theorem dX4_vector_14 : decode cX4_vector 14 = .ok (.aaload, 1) := by decide +kernel
theorem dX4_vector_15 : decode cX4_vector 15 = .ok (.getfield 51, 3) := by decide +kernel
theorem dX4_vector_18 : decode cX4_vector 18 = .ok (.iload_n 1, 1) := by decide +kernel
theorem dX4_vector_19 : decode cX4_vector 19 = .ok (.aaload, 1) := by decide +kernel
theorem dX4_vector_20 : decode cX4_vector 20 = .ok (.getfield 162, 3) := by decide +kernel
theorem dX4_vector_23 : decode cX4_vector 23 = .ok (.iload_n 3, 1) := by decide +kernel
theorem dX4_vector_24 : decode cX4_vector 24 = .ok (.iaload, 1) := by decide +kernel
theorem dX4_vector_25 : decode cX4_vector 25 = .ok (.ireturn, 1) := by decide +kernel
theorem dX4_knows_0 : decode cX4_knows 0 = .ok (.iload_n 1, 1) := by decide +kernel
theorem dX4_knows_1 : decode cX4_knows 1 = .ok (.iconst 5, 1) := by decide +kernel
theorem dX4_knows_2 : decode cX4_knows 2 = .ok (.invokestatic 103, 3) := by decide +kernel
theorem dX4_knows_5 : decode cX4_knows 5 = .ok (.iload_n 2, 1) := by decide +kernel
theorem dX4_knows_6 : decode cX4_knows 6 = .ok (.iconst 3, 1) := by decide +kernel
theorem dX4_knows_7 : decode cX4_knows 7 = .ok (.invokestatic 103, 3) := by decide +kernel
theorem dX4_knows_10 : decode cX4_knows 10 = .ok (.iload_n 3, 1) := by decide +kernel
theorem dX4_knows_11 : decode cX4_knows 11 = .ok (.iconst 5, 1) := by decide +kernel
theorem dX4_knows_12 : decode cX4_knows 12 = .ok (.invokestatic 103, 3) := by decide +kernel
theorem dX4_knows_15 : decode cX4_knows 15 = .ok (.aload_n 0, 1) := by decide +kernel
theorem dX4_knows_16 : decode cX4_knows 16 = .ok (.getfield 10, 3) := by decide +kernel
theorem dX4_knows_19 : decode cX4_knows 19 = .ok (.getfield 41, 3) := by decide +kernel
theorem dX4_knows_22 : decode cX4_knows 22 = .ok (.iload_n 2, 1) := by decide +kernel
theorem dX4_knows_23 : decode cX4_knows 23 = .ok (.aaload, 1) := by decide +kernel
theorem dX4_knows_24 : decode cX4_knows 24 = .ok (.getfield 165, 3) := by decide +kernel
theorem dX4_knows_27 : decode cX4_knows 27 = .ok (.iload_n 1, 1) := by decide +kernel
theorem dX4_knows_28 : decode cX4_knows 28 = .ok (.aaload, 1) := by decide +kernel
theorem dX4_knows_29 : decode cX4_knows 29 = .ok (.iload_n 3, 1) := by decide +kernel
theorem dX4_knows_30 : decode cX4_knows 30 = .ok (.iaload, 1) := by decide +kernel
theorem dX4_knows_31 : decode cX4_knows 31 = .ok (.ireturn, 1) := by decide +kernel
theorem dX4_key_0 : decode cX4_key 0 = .ok (.iload_n 1, 1) := by decide +kernel
theorem dX4_key_1 : decode cX4_key 1 = .ok (.iconst 3, 1) := by decide +kernel
theorem dX4_key_2 : decode cX4_key 2 = .ok (.invokestatic 103, 3) := by decide +kernel
theorem dX4_key_5 : decode cX4_key 5 = .ok (.iload_n 2, 1) := by decide +kernel
theorem dX4_key_6 : decode cX4_key 6 = .ok (.bipush 7, 2) := by decide +kernel
theorem dX4_key_8 : decode cX4_key 8 = .ok (.invokestatic 61, 3) := by decide +kernel
theorem dX4_key_11 : decode cX4_key 11 = .ok (.aload_n 0, 1) := by decide +kernel
theorem dX4_key_12 : decode cX4_key 12 = .ok (.getfield 10, 3) := by decide +kernel
theorem dX4_key_15 : decode cX4_key 15 = .ok (.getfield 41, 3) := by decide +kernel
theorem dX4_key_18 : decode cX4_key 18 = .ok (.iload_n 1, 1) := by decide +kernel
theorem dX4_key_19 : decode cX4_key 19 = .ok (.aaload, 1) := by decide +kernel
theorem dX4_key_20 : decode cX4_key 20 = .ok (.iload_n 2, 1) := by decide +kernel
theorem dX4_key_21 : decode cX4_key 21 = .ok (.invokevirtual 169, 3) := by decide +kernel
theorem dX4_key_24 : decode cX4_key 24 = .ok (.ireturn, 1) := by decide +kernel
theorem dX4_count_0 : decode cX4_count 0 = .ok (.iload_n 1, 1) := by decide +kernel
theorem dX4_count_1 : decode cX4_count 1 = .ok (.bipush 7, 2) := by decide +kernel
theorem dX4_count_3 : decode cX4_count 3 = .ok (.invokestatic 61, 3) := by decide +kernel
theorem dX4_count_6 : decode cX4_count 6 = .ok (.aload_n 0, 1) := by decide +kernel
theorem dX4_count_7 : decode cX4_count 7 = .ok (.iload_n 1, 1) := by decide +kernel
theorem dX4_count_8 : decode cX4_count 8 = .ok (.invokevirtual 172, 3) := by decide +kernel
theorem dX4_count_11 : decode cX4_count 11 = .ok (.ireturn, 1) := by decide +kernel
theorem dX4_ifWritten_0 : decode cX4_ifWritten 0 = .ok (.iload_n 1, 1) := by decide +kernel
theorem dX4_ifWritten_1 : decode cX4_ifWritten 1 = .ok (.iload_n 2, 1) := by decide +kernel
theorem dX4_ifWritten_2 : decode cX4_ifWritten 2 = .ok (.iload_n 3, 1) := by decide +kernel
theorem dX4_ifWritten_3 : decode cX4_ifWritten 3 = .ok (.invokestatic 34, 3) := by decide +kernel
theorem dX4_ifWritten_6 : decode cX4_ifWritten 6 = .ok (.iload 4, 2) := by decide +kernel
theorem dX4_ifWritten_8 : decode cX4_ifWritten 8 = .ok (.iconst 1, 1) := by decide +kernel
theorem dX4_ifWritten_9 : decode cX4_ifWritten 9 = .ok (.invokestatic 61, 3) := by decide +kernel
theorem dX4_ifWritten_12 : decode cX4_ifWritten 12 = .ok (.aload_n 0, 1) := by decide +kernel
theorem dX4_ifWritten_13 : decode cX4_ifWritten 13 = .ok (.getfield 10, 3) := by decide +kernel
theorem dX4_ifWritten_16 : decode cX4_ifWritten 16 = .ok (.getfield 41, 3) := by decide +kernel
theorem dX4_ifWritten_19 : decode cX4_ifWritten 19 = .ok (.iload_n 2, 1) := by decide +kernel
theorem dX4_ifWritten_20 : decode cX4_ifWritten 20 = .ok (.aaload, 1) := by decide +kernel
theorem dX4_ifWritten_21 : decode cX4_ifWritten 21 = .ok (.iload_n 1, 1) := by decide +kernel
theorem dX4_ifWritten_22 : decode cX4_ifWritten 22 = .ok (.iload_n 3, 1) := by decide +kernel
theorem dX4_ifWritten_23 : decode cX4_ifWritten 23 = .ok (.iload 4, 2) := by decide +kernel
theorem dX4_ifWritten_25 : decode cX4_ifWritten 25 = .ok (.invokevirtual 175, 3) := by decide +kernel
theorem dX4_ifWritten_28 : decode cX4_ifWritten 28 = .ok (.ireturn, 1) := by decide +kernel
theorem dX4_ifPulled_0 : decode cX4_ifPulled 0 = .ok (.iload_n 1, 1) := by decide +kernel
theorem dX4_ifPulled_1 : decode cX4_ifPulled 1 = .ok (.iload_n 2, 1) := by decide +kernel
theorem dX4_ifPulled_2 : decode cX4_ifPulled 2 = .ok (.iload_n 3, 1) := by decide +kernel
theorem dX4_ifPulled_3 : decode cX4_ifPulled 3 = .ok (.invokestatic 79, 3) := by decide +kernel
theorem dX4_ifPulled_6 : decode cX4_ifPulled 6 = .ok (.iload 4, 2) := by decide +kernel
theorem dX4_ifPulled_8 : decode cX4_ifPulled 8 = .ok (.iconst 2, 1) := by decide +kernel
theorem dX4_ifPulled_9 : decode cX4_ifPulled 9 = .ok (.invokestatic 61, 3) := by decide +kernel
theorem dX4_ifPulled_12 : decode cX4_ifPulled 12 = .ok (.aload_n 0, 1) := by decide +kernel
theorem dX4_ifPulled_13 : decode cX4_ifPulled 13 = .ok (.getfield 10, 3) := by decide +kernel
theorem dX4_ifPulled_16 : decode cX4_ifPulled 16 = .ok (.getfield 41, 3) := by decide +kernel
theorem dX4_ifPulled_19 : decode cX4_ifPulled 19 = .ok (.iload_n 3, 1) := by decide +kernel
theorem dX4_ifPulled_20 : decode cX4_ifPulled 20 = .ok (.aaload, 1) := by decide +kernel
theorem dX4_ifPulled_21 : decode cX4_ifPulled 21 = .ok (.iload_n 1, 1) := by decide +kernel
theorem dX4_ifPulled_22 : decode cX4_ifPulled 22 = .ok (.iload_n 2, 1) := by decide +kernel
theorem dX4_ifPulled_23 : decode cX4_ifPulled 23 = .ok (.iload 4, 2) := by decide +kernel
theorem dX4_ifPulled_25 : decode cX4_ifPulled 25 = .ok (.invokevirtual 178, 3) := by decide +kernel
theorem dX4_ifPulled_28 : decode cX4_ifPulled 28 = .ok (.ireturn, 1) := by decide +kernel
theorem dX4_whyNot_0 : decode cX4_whyNot 0 = .ok (.iload_n 1, 1) := by decide +kernel
theorem dX4_whyNot_1 : decode cX4_whyNot 1 = .ok (.iconst 5, 1) := by decide +kernel
theorem dX4_whyNot_2 : decode cX4_whyNot 2 = .ok (.invokestatic 103, 3) := by decide +kernel
theorem dX4_whyNot_5 : decode cX4_whyNot 5 = .ok (.iload_n 2, 1) := by decide +kernel
theorem dX4_whyNot_6 : decode cX4_whyNot 6 = .ok (.iconst 3, 1) := by decide +kernel
theorem dX4_whyNot_7 : decode cX4_whyNot 7 = .ok (.invokestatic 103, 3) := by decide +kernel
theorem dX4_whyNot_10 : decode cX4_whyNot 10 = .ok (.aload_n 0, 1) := by decide +kernel
theorem dX4_whyNot_11 : decode cX4_whyNot 11 = .ok (.getfield 10, 3) := by decide +kernel
theorem dX4_whyNot_14 : decode cX4_whyNot 14 = .ok (.getfield 41, 3) := by decide +kernel
theorem dX4_whyNot_17 : decode cX4_whyNot 17 = .ok (.iload_n 2, 1) := by decide +kernel
theorem dX4_whyNot_18 : decode cX4_whyNot 18 = .ok (.aaload, 1) := by decide +kernel
theorem dX4_whyNot_19 : decode cX4_whyNot 19 = .ok (.iload_n 1, 1) := by decide +kernel
theorem dX4_whyNot_20 : decode cX4_whyNot 20 = .ok (.invokevirtual 109, 3) := by decide +kernel
theorem dX4_whyNot_23 : decode cX4_whyNot 23 = .ok (.ireturn, 1) := by decide +kernel
theorem dX4_agreement_0 : decode cX4_agreement 0 = .ok (.aload_n 0, 1) := by decide +kernel
theorem dX4_agreement_1 : decode cX4_agreement 1 = .ok (.invokevirtual 181, 3) := by decide +kernel
theorem dX4_agreement_4 : decode cX4_agreement 4 = .ok (.dreturn, 1) := by decide +kernel
theorem dX4_digest_0 : decode cX4_digest 0 = .ok (.ldc2_w 185, 3) := by decide +kernel
theorem dX4_digest_3 : decode cX4_digest 3 = .ok (.lstore_n 1, 1) := by decide +kernel
theorem dX4_digest_4 : decode cX4_digest 4 = .ok (.iconst 0, 1) := by decide +kernel
theorem dX4_digest_5 : decode cX4_digest 5 = .ok (.istore_n 3, 1) := by decide +kernel
theorem dX4_digest_6 : decode cX4_digest 6 = .ok (.iload_n 3, 1) := by decide +kernel
theorem dX4_digest_7 : decode cX4_digest 7 = .ok (.bipush 7, 2) := by decide +kernel
theorem dX4_digest_9 : decode cX4_digest 9 = .ok (.if_icmp .gt 20, 3) := by decide +kernel
theorem dX4_digest_12 : decode cX4_digest 12 = .ok (.lload_n 1, 1) := by decide +kernel
theorem dX4_digest_13 : decode cX4_digest 13 = .ok (.aload_n 0, 1) := by decide +kernel
theorem dX4_digest_14 : decode cX4_digest 14 = .ok (.iload_n 3, 1) := by decide +kernel
theorem dX4_digest_15 : decode cX4_digest 15 = .ok (.invokevirtual 172, 3) := by decide +kernel
theorem dX4_digest_18 : decode cX4_digest 18 = .ok (.i2l, 1) := by decide +kernel
theorem dX4_digest_19 : decode cX4_digest 19 = .ok (.invokestatic 187, 3) := by decide +kernel
theorem dX4_digest_22 : decode cX4_digest 22 = .ok (.lstore_n 1, 1) := by decide +kernel
theorem dX4_digest_23 : decode cX4_digest 23 = .ok (.iinc 3 1, 3) := by decide +kernel
theorem dX4_digest_26 : decode cX4_digest 26 = .ok (.goto (-20), 3) := by decide +kernel
theorem dX4_digest_29 : decode cX4_digest 29 = .ok (.iconst 0, 1) := by decide +kernel
theorem dX4_digest_30 : decode cX4_digest 30 = .ok (.istore_n 3, 1) := by decide +kernel
theorem dX4_digest_31 : decode cX4_digest 31 = .ok (.iload_n 3, 1) := by decide +kernel
theorem dX4_digest_32 : decode cX4_digest 32 = .ok (.iconst 3, 1) := by decide +kernel
theorem dX4_digest_33 : decode cX4_digest 33 = .ok (.if_icmp .ge 23, 3) := by decide +kernel
theorem dX4_digest_36 : decode cX4_digest 36 = .ok (.lload_n 1, 1) := by decide +kernel
theorem dX4_digest_37 : decode cX4_digest 37 = .ok (.aload_n 0, 1) := by decide +kernel
theorem dX4_digest_38 : decode cX4_digest 38 = .ok (.getfield 10, 3) := by decide +kernel
theorem dX4_digest_41 : decode cX4_digest 41 = .ok (.getfield 41, 3) := by decide +kernel
theorem dX4_digest_44 : decode cX4_digest 44 = .ok (.iload_n 3, 1) := by decide +kernel
theorem dX4_digest_45 : decode cX4_digest 45 = .ok (.aaload, 1) := by decide +kernel
theorem dX4_digest_46 : decode cX4_digest 46 = .ok (.invokestatic 191, 3) := by decide +kernel
theorem dX4_digest_49 : decode cX4_digest 49 = .ok (.lstore_n 1, 1) := by decide +kernel
theorem dX4_digest_50 : decode cX4_digest 50 = .ok (.iinc 3 1, 3) := by decide +kernel
theorem dX4_digest_53 : decode cX4_digest 53 = .ok (.goto (-22), 3) := by decide +kernel
theorem dX4_digest_56 : decode cX4_digest 56 = .ok (.iconst 0, 1) := by decide +kernel
theorem dX4_digest_57 : decode cX4_digest 57 = .ok (.istore_n 3, 1) := by decide +kernel
theorem dX4_digest_58 : decode cX4_digest 58 = .ok (.iload_n 3, 1) := by decide +kernel
theorem dX4_digest_59 : decode cX4_digest 59 = .ok (.iconst 3, 1) := by decide +kernel
theorem dX4_digest_60 : decode cX4_digest 60 = .ok (.if_icmp .ge 46, 3) := by decide +kernel
theorem dX4_digest_63 : decode cX4_digest 63 = .ok (.iconst 0, 1) := by decide +kernel
theorem dX4_digest_64 : decode cX4_digest 64 = .ok (.istore 4, 2) := by decide +kernel
theorem dX4_digest_66 : decode cX4_digest 66 = .ok (.iload 4, 2) := by decide +kernel
theorem dX4_digest_68 : decode cX4_digest 68 = .ok (.iconst 2, 1) := by decide +kernel
theorem dX4_digest_69 : decode cX4_digest 69 = .ok (.if_icmp .gt 31, 3) := by decide +kernel
theorem dX4_digest_72 : decode cX4_digest 72 = .ok (.lload_n 1, 1) := by decide +kernel
theorem dX4_digest_73 : decode cX4_digest 73 = .ok (.aload_n 0, 1) := by decide +kernel
theorem dX4_digest_74 : decode cX4_digest 74 = .ok (.getfield 10, 3) := by decide +kernel
theorem dX4_digest_77 : decode cX4_digest 77 = .ok (.getfield 41, 3) := by decide +kernel
theorem dX4_digest_80 : decode cX4_digest 80 = .ok (.iload_n 3, 1) := by decide +kernel
theorem dX4_digest_81 : decode cX4_digest 81 = .ok (.aaload, 1) := by decide +kernel
theorem dX4_digest_82 : decode cX4_digest 82 = .ok (.iconst 1, 1) := by decide +kernel
theorem dX4_digest_83 : decode cX4_digest 83 = .ok (.iconst 0, 1) := by decide +kernel
theorem dX4_digest_84 : decode cX4_digest 84 = .ok (.iload 4, 2) := by decide +kernel
theorem dX4_digest_86 : decode cX4_digest 86 = .ok (.invokevirtual 178, 3) := by decide +kernel
theorem dX4_digest_89 : decode cX4_digest 89 = .ok (.i2l, 1) := by decide +kernel
theorem dX4_digest_90 : decode cX4_digest 90 = .ok (.invokestatic 187, 3) := by decide +kernel
theorem dX4_digest_93 : decode cX4_digest 93 = .ok (.lstore_n 1, 1) := by decide +kernel
theorem dX4_digest_94 : decode cX4_digest 94 = .ok (.iinc 4 1, 3) := by decide +kernel
theorem dX4_digest_97 : decode cX4_digest 97 = .ok (.goto (-31), 3) := by decide +kernel
theorem dX4_digest_100 : decode cX4_digest 100 = .ok (.iinc 3 1, 3) := by decide +kernel
theorem dX4_digest_103 : decode cX4_digest 103 = .ok (.goto (-45), 3) := by decide +kernel
theorem dX4_digest_106 : decode cX4_digest 106 = .ok (.lload_n 1, 1) := by decide +kernel
theorem dX4_digest_107 : decode cX4_digest 107 = .ok (.aload_n 0, 1) := by decide +kernel
theorem dX4_digest_108 : decode cX4_digest 108 = .ok (.invokevirtual 181, 3) := by decide +kernel
theorem dX4_digest_111 : decode cX4_digest 111 = .ok (.invokestatic 195, 3) := by decide +kernel
theorem dX4_digest_114 : decode cX4_digest 114 = .ok (.invokestatic 187, 3) := by decide +kernel
theorem dX4_digest_117 : decode cX4_digest 117 = .ok (.lstore_n 1, 1) := by decide +kernel
theorem dX4_digest_118 : decode cX4_digest 118 = .ok (.lload_n 1, 1) := by decide +kernel
theorem dX4_digest_119 : decode cX4_digest 119 = .ok (.aload_n 0, 1) := by decide +kernel
theorem dX4_digest_120 : decode cX4_digest 120 = .ok (.getfield 137, 3) := by decide +kernel
theorem dX4_digest_123 : decode cX4_digest 123 = .ok (.i2l, 1) := by decide +kernel
theorem dX4_digest_124 : decode cX4_digest 124 = .ok (.invokestatic 187, 3) := by decide +kernel
theorem dX4_digest_127 : decode cX4_digest 127 = .ok (.lstore_n 1, 1) := by decide +kernel
theorem dX4_digest_128 : decode cX4_digest 128 = .ok (.iconst 0, 1) := by decide +kernel
theorem dX4_digest_129 : decode cX4_digest 129 = .ok (.istore_n 3, 1) := by decide +kernel
theorem dX4_digest_130 : decode cX4_digest 130 = .ok (.iload_n 3, 1) := by decide +kernel
theorem dX4_digest_131 : decode cX4_digest 131 = .ok (.aload_n 0, 1) := by decide +kernel
theorem dX4_digest_132 : decode cX4_digest 132 = .ok (.getfield 137, 3) := by decide +kernel
theorem dX4_digest_135 : decode cX4_digest 135 = .ok (.if_icmp .ge 21, 3) := by decide +kernel
theorem dX4_digest_138 : decode cX4_digest 138 = .ok (.lload_n 1, 1) := by decide +kernel
theorem dX4_digest_139 : decode cX4_digest 139 = .ok (.aload_n 0, 1) := by decide +kernel
theorem dX4_digest_140 : decode cX4_digest 140 = .ok (.getfield 23, 3) := by decide +kernel
theorem dX4_digest_143 : decode cX4_digest 143 = .ok (.iload_n 3, 1) := by decide +kernel
theorem dX4_digest_144 : decode cX4_digest 144 = .ok (.iaload, 1) := by decide +kernel
theorem dX4_digest_145 : decode cX4_digest 145 = .ok (.i2l, 1) := by decide +kernel
theorem dX4_digest_146 : decode cX4_digest 146 = .ok (.invokestatic 187, 3) := by decide +kernel
theorem dX4_digest_149 : decode cX4_digest 149 = .ok (.lstore_n 1, 1) := by decide +kernel
theorem dX4_digest_150 : decode cX4_digest 150 = .ok (.iinc 3 1, 3) := by decide +kernel
theorem dX4_digest_153 : decode cX4_digest 153 = .ok (.goto (-23), 3) := by decide +kernel
theorem dX4_digest_156 : decode cX4_digest 156 = .ok (.lload_n 1, 1) := by decide +kernel
theorem dX4_digest_157 : decode cX4_digest 157 = .ok (.lreturn, 1) := by decide +kernel
theorem dX4_checkIndex_0 : decode cX4_checkIndex 0 = .ok (.iload_n 0, 1) := by decide +kernel
theorem dX4_checkIndex_1 : decode cX4_checkIndex 1 = .ok (.ifCond .lt 8, 3) := by decide +kernel
theorem dX4_checkIndex_4 : decode cX4_checkIndex 4 = .ok (.iload_n 0, 1) := by decide +kernel
theorem dX4_checkIndex_5 : decode cX4_checkIndex 5 = .ok (.iload_n 1, 1) := by decide +kernel
theorem dX4_checkIndex_6 : decode cX4_checkIndex 6 = .ok (.if_icmp .lt 13, 3) := by decide +kernel
theorem dX4_checkIndex_9 : decode cX4_checkIndex 9 = .ok (.new 199, 3) := by decide +kernel
theorem dX4_checkIndex_12 : decode cX4_checkIndex 12 = .ok (.dup, 1) := by decide +kernel
theorem dX4_checkIndex_13 : decode cX4_checkIndex 13 = .ok (.ldc 201, 2) := by decide +kernel
theorem dX4_checkIndex_15 : decode cX4_checkIndex 15 = .ok (.invokespecial 203, 3) := by decide +kernel
theorem dX4_checkIndex_18 : decode cX4_checkIndex 18 = .ok (.athrow, 1) := by decide +kernel
theorem dX4_checkIndex_19 : decode cX4_checkIndex 19 = .ok (.return_, 1) := by decide +kernel
theorem dX4_checkUpTo_0 : decode cX4_checkUpTo 0 = .ok (.iload_n 0, 1) := by decide +kernel
theorem dX4_checkUpTo_1 : decode cX4_checkUpTo 1 = .ok (.ifCond .lt 8, 3) := by decide +kernel
theorem dX4_checkUpTo_4 : decode cX4_checkUpTo 4 = .ok (.iload_n 0, 1) := by decide +kernel
theorem dX4_checkUpTo_5 : decode cX4_checkUpTo 5 = .ok (.iload_n 1, 1) := by decide +kernel
theorem dX4_checkUpTo_6 : decode cX4_checkUpTo 6 = .ok (.if_icmp .le 13, 3) := by decide +kernel
theorem dX4_checkUpTo_9 : decode cX4_checkUpTo 9 = .ok (.new 132, 3) := by decide +kernel
theorem dX4_checkUpTo_12 : decode cX4_checkUpTo 12 = .ok (.dup, 1) := by decide +kernel
theorem dX4_checkUpTo_13 : decode cX4_checkUpTo 13 = .ok (.ldc 204, 2) := by decide +kernel
theorem dX4_checkUpTo_15 : decode cX4_checkUpTo 15 = .ok (.invokespecial 136, 3) := by decide +kernel
theorem dX4_checkUpTo_18 : decode cX4_checkUpTo 18 = .ok (.athrow, 1) := by decide +kernel
theorem dX4_checkUpTo_19 : decode cX4_checkUpTo 19 = .ok (.return_, 1) := by decide +kernel
theorem dX4_checkWriterKeyStore_0 : decode cX4_checkWriterKeyStore 0 = .ok (.iload_n 0, 1) := by decide +kernel
theorem dX4_checkWriterKeyStore_1 : decode cX4_checkWriterKeyStore 1 = .ok (.iconst 5, 1) := by decide +kernel
theorem dX4_checkWriterKeyStore_2 : decode cX4_checkWriterKeyStore 2 = .ok (.invokestatic 103, 3) := by decide +kernel
theorem dX4_checkWriterKeyStore_5 : decode cX4_checkWriterKeyStore 5 = .ok (.iload_n 1, 1) := by decide +kernel
theorem dX4_checkWriterKeyStore_6 : decode cX4_checkWriterKeyStore 6 = .ok (.iconst 3, 1) := by decide +kernel
theorem dX4_checkWriterKeyStore_7 : decode cX4_checkWriterKeyStore 7 = .ok (.invokestatic 103, 3) := by decide +kernel
theorem dX4_checkWriterKeyStore_10 : decode cX4_checkWriterKeyStore 10 = .ok (.iload_n 2, 1) := by decide +kernel
theorem dX4_checkWriterKeyStore_11 : decode cX4_checkWriterKeyStore 11 = .ok (.iconst 3, 1) := by decide +kernel
theorem dX4_checkWriterKeyStore_12 : decode cX4_checkWriterKeyStore 12 = .ok (.invokestatic 103, 3) := by decide +kernel
theorem dX4_checkWriterKeyStore_15 : decode cX4_checkWriterKeyStore 15 = .ok (.return_, 1) := by decide +kernel
theorem dX4_checkTwoStores_0 : decode cX4_checkTwoStores 0 = .ok (.iload_n 0, 1) := by decide +kernel
theorem dX4_checkTwoStores_1 : decode cX4_checkTwoStores 1 = .ok (.iconst 3, 1) := by decide +kernel
theorem dX4_checkTwoStores_2 : decode cX4_checkTwoStores 2 = .ok (.invokestatic 103, 3) := by decide +kernel
theorem dX4_checkTwoStores_5 : decode cX4_checkTwoStores 5 = .ok (.iload_n 1, 1) := by decide +kernel
theorem dX4_checkTwoStores_6 : decode cX4_checkTwoStores 6 = .ok (.iconst 3, 1) := by decide +kernel
theorem dX4_checkTwoStores_7 : decode cX4_checkTwoStores 7 = .ok (.invokestatic 103, 3) := by decide +kernel
theorem dX4_checkTwoStores_10 : decode cX4_checkTwoStores 10 = .ok (.iload_n 2, 1) := by decide +kernel
theorem dX4_checkTwoStores_11 : decode cX4_checkTwoStores 11 = .ok (.iconst 3, 1) := by decide +kernel
theorem dX4_checkTwoStores_12 : decode cX4_checkTwoStores 12 = .ok (.invokestatic 103, 3) := by decide +kernel
theorem dX4_checkTwoStores_15 : decode cX4_checkTwoStores 15 = .ok (.iload_n 0, 1) := by decide +kernel
theorem dX4_checkTwoStores_16 : decode cX4_checkTwoStores 16 = .ok (.iload_n 1, 1) := by decide +kernel
theorem dX4_checkTwoStores_17 : decode cX4_checkTwoStores 17 = .ok (.if_icmp .ne 13, 3) := by decide +kernel
theorem dX4_checkTwoStores_20 : decode cX4_checkTwoStores 20 = .ok (.new 132, 3) := by decide +kernel
theorem dX4_checkTwoStores_23 : decode cX4_checkTwoStores 23 = .ok (.dup, 1) := by decide +kernel
theorem dX4_checkTwoStores_24 : decode cX4_checkTwoStores 24 = .ok (.ldc 206, 2) := by decide +kernel
theorem dX4_checkTwoStores_26 : decode cX4_checkTwoStores 26 = .ok (.invokespecial 136, 3) := by decide +kernel
theorem dX4_checkTwoStores_29 : decode cX4_checkTwoStores 29 = .ok (.athrow, 1) := by decide +kernel
theorem dX4_checkTwoStores_30 : decode cX4_checkTwoStores 30 = .ok (.return_, 1) := by decide +kernel
theorem dX4_save_0 : decode cX4_save 0 = .ok (.aload_n 0, 1) := by decide +kernel
theorem dX4_save_1 : decode cX4_save 1 = .ok (.getfield 154, 3) := by decide +kernel
theorem dX4_save_4 : decode cX4_save 4 = .ok (.bipush 6, 2) := by decide +kernel
theorem dX4_save_6 : decode cX4_save 6 = .ok (.if_icmp .ne 7, 3) := by decide +kernel
theorem dX4_save_9 : decode cX4_save 9 = .ok (.aload_n 0, 1) := by decide +kernel
theorem dX4_save_10 : decode cX4_save 10 = .ok (.invokevirtual 208, 3) := by decide +kernel
theorem dX4_save_13 : decode cX4_save 13 = .ok (.aload_n 0, 1) := by decide +kernel
theorem dX4_save_14 : decode cX4_save 14 = .ok (.getfield 19, 3) := by decide +kernel
theorem dX4_save_17 : decode cX4_save 17 = .ok (.aload_n 0, 1) := by decide +kernel
theorem dX4_save_18 : decode cX4_save 18 = .ok (.getfield 154, 3) := by decide +kernel
theorem dX4_save_21 : decode cX4_save 21 = .ok (.aaload, 1) := by decide +kernel
theorem dX4_save_22 : decode cX4_save 22 = .ok (.aload_n 0, 1) := by decide +kernel
theorem dX4_save_23 : decode cX4_save 23 = .ok (.getfield 10, 3) := by decide +kernel
theorem dX4_save_26 : decode cX4_save 26 = .ok (.invokevirtual 121, 3) := by decide +kernel
theorem dX4_save_29 : decode cX4_save 29 = .ok (.aload_n 0, 1) := by decide +kernel
theorem dX4_save_30 : decode cX4_save 30 = .ok (.dup, 1) := by decide +kernel
theorem dX4_save_31 : decode cX4_save 31 = .ok (.getfield 154, 3) := by decide +kernel
theorem dX4_save_34 : decode cX4_save 34 = .ok (.iconst 1, 1) := by decide +kernel
theorem dX4_save_35 : decode cX4_save 35 = .ok (.iadd, 1) := by decide +kernel
theorem dX4_save_36 : decode cX4_save 36 = .ok (.putfield 154, 3) := by decide +kernel
theorem dX4_save_39 : decode cX4_save 39 = .ok (.return_, 1) := by decide +kernel
theorem dX4_dropOldest_0 : decode cX4_dropOldest 0 = .ok (.aload_n 0, 1) := by decide +kernel
theorem dX4_dropOldest_1 : decode cX4_dropOldest 1 = .ok (.getfield 19, 3) := by decide +kernel
theorem dX4_dropOldest_4 : decode cX4_dropOldest 4 = .ok (.iconst 0, 1) := by decide +kernel
theorem dX4_dropOldest_5 : decode cX4_dropOldest 5 = .ok (.aaload, 1) := by decide +kernel
theorem dX4_dropOldest_6 : decode cX4_dropOldest 6 = .ok (.astore_n 1, 1) := by decide +kernel
theorem dX4_dropOldest_7 : decode cX4_dropOldest 7 = .ok (.iconst 1, 1) := by decide +kernel
theorem dX4_dropOldest_8 : decode cX4_dropOldest 8 = .ok (.istore_n 2, 1) := by decide +kernel
theorem dX4_dropOldest_9 : decode cX4_dropOldest 9 = .ok (.iload_n 2, 1) := by decide +kernel
theorem dX4_dropOldest_10 : decode cX4_dropOldest 10 = .ok (.bipush 6, 2) := by decide +kernel
theorem dX4_dropOldest_12 : decode cX4_dropOldest 12 = .ok (.if_icmp .ge 23, 3) := by decide +kernel
theorem dX4_dropOldest_15 : decode cX4_dropOldest 15 = .ok (.aload_n 0, 1) := by decide +kernel
theorem dX4_dropOldest_16 : decode cX4_dropOldest 16 = .ok (.getfield 19, 3) := by decide +kernel
theorem dX4_dropOldest_19 : decode cX4_dropOldest 19 = .ok (.iload_n 2, 1) := by decide +kernel
theorem dX4_dropOldest_20 : decode cX4_dropOldest 20 = .ok (.iconst 1, 1) := by decide +kernel
theorem dX4_dropOldest_21 : decode cX4_dropOldest 21 = .ok (.isub, 1) := by decide +kernel
theorem dX4_dropOldest_22 : decode cX4_dropOldest 22 = .ok (.aload_n 0, 1) := by decide +kernel
theorem dX4_dropOldest_23 : decode cX4_dropOldest 23 = .ok (.getfield 19, 3) := by decide +kernel
theorem dX4_dropOldest_26 : decode cX4_dropOldest 26 = .ok (.iload_n 2, 1) := by decide +kernel
theorem dX4_dropOldest_27 : decode cX4_dropOldest 27 = .ok (.aaload, 1) := by decide +kernel
theorem dX4_dropOldest_28 : decode cX4_dropOldest 28 = .ok (.aastore, 1) := by decide +kernel
theorem dX4_dropOldest_29 : decode cX4_dropOldest 29 = .ok (.iinc 2 1, 3) := by decide +kernel
theorem dX4_dropOldest_32 : decode cX4_dropOldest 32 = .ok (.goto (-23), 3) := by decide +kernel
theorem dX4_dropOldest_35 : decode cX4_dropOldest 35 = .ok (.aload_n 0, 1) := by decide +kernel
theorem dX4_dropOldest_36 : decode cX4_dropOldest 36 = .ok (.getfield 19, 3) := by decide +kernel
theorem dX4_dropOldest_39 : decode cX4_dropOldest 39 = .ok (.iconst 5, 1) := by decide +kernel
theorem dX4_dropOldest_40 : decode cX4_dropOldest 40 = .ok (.aload_n 1, 1) := by decide +kernel
theorem dX4_dropOldest_41 : decode cX4_dropOldest 41 = .ok (.aastore, 1) := by decide +kernel
theorem dX4_dropOldest_42 : decode cX4_dropOldest 42 = .ok (.aload_n 0, 1) := by decide +kernel
theorem dX4_dropOldest_43 : decode cX4_dropOldest 43 = .ok (.iconst 5, 1) := by decide +kernel
theorem dX4_dropOldest_44 : decode cX4_dropOldest 44 = .ok (.putfield 154, 3) := by decide +kernel
theorem dX4_dropOldest_47 : decode cX4_dropOldest 47 = .ok (.return_, 1) := by decide +kernel
theorem dX4_scanBuffer_0 : decode cX4_scanBuffer 0 = .ok (.aload_n 0, 1) := by decide +kernel
theorem dX4_scanBuffer_1 : decode cX4_scanBuffer 1 = .ok (.getfield 30, 3) := by decide +kernel
theorem dX4_scanBuffer_4 : decode cX4_scanBuffer 4 = .ok (.invokevirtual 211, 3) := by decide +kernel
theorem dX4_scanBuffer_7 : decode cX4_scanBuffer 7 = .ok (.iconst 0, 1) := by decide +kernel
theorem dX4_scanBuffer_8 : decode cX4_scanBuffer 8 = .ok (.istore_n 1, 1) := by decide +kernel
theorem dX4_scanBuffer_9 : decode cX4_scanBuffer 9 = .ok (.iload_n 1, 1) := by decide +kernel
theorem dX4_scanBuffer_10 : decode cX4_scanBuffer 10 = .ok (.aload_n 0, 1) := by decide +kernel
theorem dX4_scanBuffer_11 : decode cX4_scanBuffer 11 = .ok (.getfield 137, 3) := by decide +kernel
theorem dX4_scanBuffer_14 : decode cX4_scanBuffer 14 = .ok (.if_icmp .ge 27, 3) := by decide +kernel
theorem dX4_scanBuffer_17 : decode cX4_scanBuffer 17 = .ok (.aload_n 0, 1) := by decide +kernel
theorem dX4_scanBuffer_18 : decode cX4_scanBuffer 18 = .ok (.getfield 30, 3) := by decide +kernel
theorem dX4_scanBuffer_21 : decode cX4_scanBuffer 21 = .ok (.aload_n 0, 1) := by decide +kernel
theorem dX4_scanBuffer_22 : decode cX4_scanBuffer 22 = .ok (.getfield 23, 3) := by decide +kernel
theorem dX4_scanBuffer_25 : decode cX4_scanBuffer 25 = .ok (.iload_n 1, 1) := by decide +kernel
theorem dX4_scanBuffer_26 : decode cX4_scanBuffer 26 = .ok (.iaload, 1) := by decide +kernel
theorem dX4_scanBuffer_27 : decode cX4_scanBuffer 27 = .ok (.invokevirtual 214, 3) := by decide +kernel
theorem dX4_scanBuffer_30 : decode cX4_scanBuffer 30 = .ok (.ifCond .ne 5, 3) := by decide +kernel
theorem dX4_scanBuffer_33 : decode cX4_scanBuffer 33 = .ok (.iload_n 1, 1) := by decide +kernel
theorem dX4_scanBuffer_34 : decode cX4_scanBuffer 34 = .ok (.ireturn, 1) := by decide +kernel
theorem dX4_scanBuffer_35 : decode cX4_scanBuffer 35 = .ok (.iinc 1 1, 3) := by decide +kernel
theorem dX4_scanBuffer_38 : decode cX4_scanBuffer 38 = .ok (.goto (-29), 3) := by decide +kernel
theorem dX4_scanBuffer_41 : decode cX4_scanBuffer 41 = .ok (.aload_n 0, 1) := by decide +kernel
theorem dX4_scanBuffer_42 : decode cX4_scanBuffer 42 = .ok (.getfield 137, 3) := by decide +kernel
theorem dX4_scanBuffer_45 : decode cX4_scanBuffer 45 = .ok (.ireturn, 1) := by decide +kernel
theorem dX4_runParts_0 : decode cX4_runParts 0 = .ok (.aload_n 0, 1) := by decide +kernel
theorem dX4_runParts_1 : decode cX4_runParts 1 = .ok (.getfield 30, 3) := by decide +kernel
theorem dX4_runParts_4 : decode cX4_runParts 4 = .ok (.invokevirtual 211, 3) := by decide +kernel
theorem dX4_runParts_7 : decode cX4_runParts 7 = .ok (.iconst 0, 1) := by decide +kernel
theorem dX4_runParts_8 : decode cX4_runParts 8 = .ok (.istore_n 1, 1) := by decide +kernel
theorem dX4_runParts_9 : decode cX4_runParts 9 = .ok (.iconst 0, 1) := by decide +kernel
theorem dX4_runParts_10 : decode cX4_runParts 10 = .ok (.istore_n 2, 1) := by decide +kernel
theorem dX4_runParts_11 : decode cX4_runParts 11 = .ok (.iload_n 2, 1) := by decide +kernel
theorem dX4_runParts_12 : decode cX4_runParts 12 = .ok (.aload_n 0, 1) := by decide +kernel
theorem dX4_runParts_13 : decode cX4_runParts 13 = .ok (.getfield 137, 3) := by decide +kernel
theorem dX4_runParts_16 : decode cX4_runParts 16 = .ok (.if_icmp .ge 46, 3) := by decide +kernel
theorem dX4_runParts_19 : decode cX4_runParts 19 = .ok (.aload_n 0, 1) := by decide +kernel
theorem dX4_runParts_20 : decode cX4_runParts 20 = .ok (.getfield 23, 3) := by decide +kernel
theorem dX4_runParts_23 : decode cX4_runParts 23 = .ok (.iload_n 2, 1) := by decide +kernel
theorem dX4_runParts_24 : decode cX4_runParts 24 = .ok (.iaload, 1) := by decide +kernel
theorem dX4_runParts_25 : decode cX4_runParts 25 = .ok (.bipush 59, 2) := by decide +kernel
theorem dX4_runParts_27 : decode cX4_runParts 27 = .ok (.if_icmp .ne 15, 3) := by decide +kernel
theorem dX4_runParts_30 : decode cX4_runParts 30 = .ok (.aload_n 0, 1) := by decide +kernel
theorem dX4_runParts_31 : decode cX4_runParts 31 = .ok (.invokevirtual 218, 3) := by decide +kernel
theorem dX4_runParts_34 : decode cX4_runParts 34 = .ok (.ifCond .ne 5, 3) := by decide +kernel
theorem dX4_runParts_37 : decode cX4_runParts 37 = .ok (.iload_n 1, 1) := by decide +kernel
theorem dX4_runParts_38 : decode cX4_runParts 38 = .ok (.ireturn, 1) := by decide +kernel
theorem dX4_runParts_39 : decode cX4_runParts 39 = .ok (.iinc 1 1, 3) := by decide +kernel
theorem dX4_runParts_42 : decode cX4_runParts 42 = .ok (.aload_n 0, 1) := by decide +kernel
theorem dX4_runParts_43 : decode cX4_runParts 43 = .ok (.getfield 30, 3) := by decide +kernel
theorem dX4_runParts_46 : decode cX4_runParts 46 = .ok (.aload_n 0, 1) := by decide +kernel
theorem dX4_runParts_47 : decode cX4_runParts 47 = .ok (.getfield 23, 3) := by decide +kernel
theorem dX4_runParts_50 : decode cX4_runParts 50 = .ok (.iload_n 2, 1) := by decide +kernel
theorem dX4_runParts_51 : decode cX4_runParts 51 = .ok (.iaload, 1) := by decide +kernel
theorem dX4_runParts_52 : decode cX4_runParts 52 = .ok (.invokevirtual 214, 3) := by decide +kernel
theorem dX4_runParts_55 : decode cX4_runParts 55 = .ok (.pop, 1) := by decide +kernel
theorem dX4_runParts_56 : decode cX4_runParts 56 = .ok (.iinc 2 1, 3) := by decide +kernel
theorem dX4_runParts_59 : decode cX4_runParts 59 = .ok (.goto (-48), 3) := by decide +kernel
theorem dX4_runParts_62 : decode cX4_runParts 62 = .ok (.aload_n 0, 1) := by decide +kernel
theorem dX4_runParts_63 : decode cX4_runParts 63 = .ok (.invokevirtual 218, 3) := by decide +kernel
theorem dX4_runParts_66 : decode cX4_runParts 66 = .ok (.ifCond .eq 9, 3) := by decide +kernel
theorem dX4_runParts_69 : decode cX4_runParts 69 = .ok (.iload_n 1, 1) := by decide +kernel
theorem dX4_runParts_70 : decode cX4_runParts 70 = .ok (.iconst 1, 1) := by decide +kernel
theorem dX4_runParts_71 : decode cX4_runParts 71 = .ok (.iadd, 1) := by decide +kernel
theorem dX4_runParts_72 : decode cX4_runParts 72 = .ok (.goto 4, 3) := by decide +kernel
theorem dX4_runParts_75 : decode cX4_runParts 75 = .ok (.iload_n 1, 1) := by decide +kernel
theorem dX4_runParts_76 : decode cX4_runParts 76 = .ok (.ireturn, 1) := by decide +kernel
theorem dX4_runPart_0 : decode cX4_runPart 0 = .ok (.aload_n 0, 1) := by decide +kernel
theorem dX4_runPart_1 : decode cX4_runPart 1 = .ok (.getfield 10, 3) := by decide +kernel
theorem dX4_runPart_4 : decode cX4_runPart 4 = .ok (.getfield 41, 3) := by decide +kernel
theorem dX4_runPart_7 : decode cX4_runPart 7 = .ok (.aload_n 0, 1) := by decide +kernel
theorem dX4_runPart_8 : decode cX4_runPart 8 = .ok (.getfield 30, 3) := by decide +kernel
theorem dX4_runPart_11 : decode cX4_runPart 11 = .ok (.getfield 221, 3) := by decide +kernel
theorem dX4_runPart_14 : decode cX4_runPart 14 = .ok (.aaload, 1) := by decide +kernel
theorem dX4_runPart_15 : decode cX4_runPart 15 = .ok (.astore_n 1, 1) := by decide +kernel
theorem dX4_runPart_16 : decode cX4_runPart 16 = .ok (.aload_n 0, 1) := by decide +kernel
theorem dX4_runPart_17 : decode cX4_runPart 17 = .ok (.getfield 30, 3) := by decide +kernel
theorem dX4_runPart_20 : decode cX4_runPart 20 = .ok (.getfield 224, 3) := by decide +kernel
theorem dX4_runPart_23 : decode cX4_runPart 23 = .ok (.ifCond .ne 23, 3) := by decide +kernel
theorem dX4_runPart_26 : decode cX4_runPart 26 = .ok (.aload_n 1, 1) := by decide +kernel
theorem dX4_runPart_27 : decode cX4_runPart 27 = .ok (.aload_n 0, 1) := by decide +kernel
theorem dX4_runPart_28 : decode cX4_runPart 28 = .ok (.getfield 30, 3) := by decide +kernel
theorem dX4_runPart_31 : decode cX4_runPart 31 = .ok (.getfield 228, 3) := by decide +kernel
theorem dX4_runPart_34 : decode cX4_runPart 34 = .ok (.aload_n 0, 1) := by decide +kernel
theorem dX4_runPart_35 : decode cX4_runPart 35 = .ok (.getfield 30, 3) := by decide +kernel
theorem dX4_runPart_38 : decode cX4_runPart 38 = .ok (.getfield 231, 3) := by decide +kernel
theorem dX4_runPart_41 : decode cX4_runPart 41 = .ok (.invokevirtual 45, 3) := by decide +kernel
theorem dX4_runPart_44 : decode cX4_runPart 44 = .ok (.iconst 1, 1) := by decide +kernel
theorem dX4_runPart_45 : decode cX4_runPart 45 = .ok (.ireturn, 1) := by decide +kernel
theorem dX4_runPart_46 : decode cX4_runPart 46 = .ok (.aload_n 1, 1) := by decide +kernel
theorem dX4_runPart_47 : decode cX4_runPart 47 = .ok (.aload_n 0, 1) := by decide +kernel
theorem dX4_runPart_48 : decode cX4_runPart 48 = .ok (.getfield 30, 3) := by decide +kernel
theorem dX4_runPart_51 : decode cX4_runPart 51 = .ok (.getfield 228, 3) := by decide +kernel
theorem dX4_runPart_54 : decode cX4_runPart 54 = .ok (.aload_n 0, 1) := by decide +kernel
theorem dX4_runPart_55 : decode cX4_runPart 55 = .ok (.getfield 30, 3) := by decide +kernel
theorem dX4_runPart_58 : decode cX4_runPart 58 = .ok (.getfield 231, 3) := by decide +kernel
theorem dX4_runPart_61 : decode cX4_runPart 61 = .ok (.invokevirtual 64, 3) := by decide +kernel
theorem dX4_runPart_64 : decode cX4_runPart 64 = .ok (.ifCond .ne 5, 3) := by decide +kernel
theorem dX4_runPart_67 : decode cX4_runPart 67 = .ok (.iconst 0, 1) := by decide +kernel
theorem dX4_runPart_68 : decode cX4_runPart 68 = .ok (.ireturn, 1) := by decide +kernel
theorem dX4_runPart_69 : decode cX4_runPart 69 = .ok (.aload_n 0, 1) := by decide +kernel
theorem dX4_runPart_70 : decode cX4_runPart 70 = .ok (.getfield 10, 3) := by decide +kernel
theorem dX4_runPart_73 : decode cX4_runPart 73 = .ok (.aload_n 0, 1) := by decide +kernel
theorem dX4_runPart_74 : decode cX4_runPart 74 = .ok (.getfield 30, 3) := by decide +kernel
theorem dX4_runPart_77 : decode cX4_runPart 77 = .ok (.getfield 228, 3) := by decide +kernel
theorem dX4_runPart_80 : decode cX4_runPart 80 = .ok (.aload_n 0, 1) := by decide +kernel
theorem dX4_runPart_81 : decode cX4_runPart 81 = .ok (.getfield 30, 3) := by decide +kernel
theorem dX4_runPart_84 : decode cX4_runPart 84 = .ok (.getfield 221, 3) := by decide +kernel
theorem dX4_runPart_87 : decode cX4_runPart 87 = .ok (.aload_n 0, 1) := by decide +kernel
theorem dX4_runPart_88 : decode cX4_runPart 88 = .ok (.getfield 30, 3) := by decide +kernel
theorem dX4_runPart_91 : decode cX4_runPart 91 = .ok (.getfield 231, 3) := by decide +kernel
theorem dX4_runPart_94 : decode cX4_runPart 94 = .ok (.aload_n 0, 1) := by decide +kernel
theorem dX4_runPart_95 : decode cX4_runPart 95 = .ok (.getfield 30, 3) := by decide +kernel
theorem dX4_runPart_98 : decode cX4_runPart 98 = .ok (.getfield 234, 3) := by decide +kernel
theorem dX4_runPart_101 : decode cX4_runPart 101 = .ok (.invokevirtual 75, 3) := by decide +kernel
theorem dX4_runPart_104 : decode cX4_runPart 104 = .ok (.pop, 1) := by decide +kernel
theorem dX4_runPart_105 : decode cX4_runPart 105 = .ok (.iconst 1, 1) := by decide +kernel
theorem dX4_runPart_106 : decode cX4_runPart 106 = .ok (.ireturn, 1) := by decide +kernel
theorem dX4_tally_0 : decode cX4_tally 0 = .ok (.iload_n 1, 1) := by decide +kernel
theorem dX4_tally_1 : decode cX4_tally 1 = .ok (.tableswitch 99 0 6 #[43, 51, 59, 67, 75, 83, 91], 43) := by decide +kernel
theorem dX4_tally_44 : decode cX4_tally 44 = .ok (.aload_n 0, 1) := by decide +kernel
theorem dX4_tally_45 : decode cX4_tally 45 = .ok (.getfield 10, 3) := by decide +kernel
theorem dX4_tally_48 : decode cX4_tally 48 = .ok (.invokevirtual 237, 3) := by decide +kernel
theorem dX4_tally_51 : decode cX4_tally 51 = .ok (.ireturn, 1) := by decide +kernel
theorem dX4_tally_52 : decode cX4_tally 52 = .ok (.aload_n 0, 1) := by decide +kernel
theorem dX4_tally_53 : decode cX4_tally 53 = .ok (.getfield 10, 3) := by decide +kernel
theorem dX4_tally_56 : decode cX4_tally 56 = .ok (.invokevirtual 240, 3) := by decide +kernel
theorem dX4_tally_59 : decode cX4_tally 59 = .ok (.ireturn, 1) := by decide +kernel
theorem dX4_tally_60 : decode cX4_tally 60 = .ok (.aload_n 0, 1) := by decide +kernel
theorem dX4_tally_61 : decode cX4_tally 61 = .ok (.getfield 10, 3) := by decide +kernel
theorem dX4_tally_64 : decode cX4_tally 64 = .ok (.getfield 243, 3) := by decide +kernel
theorem dX4_tally_67 : decode cX4_tally 67 = .ok (.ireturn, 1) := by decide +kernel
theorem dX4_tally_68 : decode cX4_tally 68 = .ok (.aload_n 0, 1) := by decide +kernel
theorem dX4_tally_69 : decode cX4_tally 69 = .ok (.getfield 10, 3) := by decide +kernel
theorem dX4_tally_72 : decode cX4_tally 72 = .ok (.getfield 246, 3) := by decide +kernel
theorem dX4_tally_75 : decode cX4_tally 75 = .ok (.ireturn, 1) := by decide +kernel
theorem dX4_tally_76 : decode cX4_tally 76 = .ok (.aload_n 0, 1) := by decide +kernel
theorem dX4_tally_77 : decode cX4_tally 77 = .ok (.getfield 10, 3) := by decide +kernel
theorem dX4_tally_80 : decode cX4_tally 80 = .ok (.getfield 129, 3) := by decide +kernel
theorem dX4_tally_83 : decode cX4_tally 83 = .ok (.ireturn, 1) := by decide +kernel
theorem dX4_tally_84 : decode cX4_tally 84 = .ok (.aload_n 0, 1) := by decide +kernel
theorem dX4_tally_85 : decode cX4_tally 85 = .ok (.getfield 10, 3) := by decide +kernel
theorem dX4_tally_88 : decode cX4_tally 88 = .ok (.getfield 100, 3) := by decide +kernel
theorem dX4_tally_91 : decode cX4_tally 91 = .ok (.ireturn, 1) := by decide +kernel
theorem dX4_tally_92 : decode cX4_tally 92 = .ok (.aload_n 0, 1) := by decide +kernel
theorem dX4_tally_93 : decode cX4_tally 93 = .ok (.getfield 10, 3) := by decide +kernel
theorem dX4_tally_96 : decode cX4_tally 96 = .ok (.getfield 118, 3) := by decide +kernel
theorem dX4_tally_99 : decode cX4_tally 99 = .ok (.ireturn, 1) := by decide +kernel
theorem dX4_tally_100 : decode cX4_tally 100 = .ok (.aload_n 0, 1) := by decide +kernel
theorem dX4_tally_101 : decode cX4_tally 101 = .ok (.getfield 154, 3) := by decide +kernel
theorem dX4_tally_104 : decode cX4_tally 104 = .ok (.ireturn, 1) := by decide +kernel
theorem dX4_shareOfAgreement_0 : decode cX4_shareOfAgreement 0 = .ok (.iconst 0, 1) := by decide +kernel
theorem dX4_shareOfAgreement_1 : decode cX4_shareOfAgreement 1 = .ok (.istore_n 1, 1) := by decide +kernel
theorem dX4_shareOfAgreement_2 : decode cX4_shareOfAgreement 2 = .ok (.iconst 0, 1) := by decide +kernel
theorem dX4_shareOfAgreement_3 : decode cX4_shareOfAgreement 3 = .ok (.istore_n 2, 1) := by decide +kernel
theorem dX4_shareOfAgreement_4 : decode cX4_shareOfAgreement 4 = .ok (.iload_n 2, 1) := by decide +kernel
theorem dX4_shareOfAgreement_5 : decode cX4_shareOfAgreement 5 = .ok (.iconst 3, 1) := by decide +kernel
theorem dX4_shareOfAgreement_6 : decode cX4_shareOfAgreement 6 = .ok (.if_icmp .ge 24, 3) := by decide +kernel
theorem dX4_shareOfAgreement_9 : decode cX4_shareOfAgreement 9 = .ok (.iload_n 1, 1) := by decide +kernel
theorem dX4_shareOfAgreement_10 : decode cX4_shareOfAgreement 10 = .ok (.aload_n 0, 1) := by decide +kernel
theorem dX4_shareOfAgreement_11 : decode cX4_shareOfAgreement 11 = .ok (.getfield 10, 3) := by decide +kernel
theorem dX4_shareOfAgreement_14 : decode cX4_shareOfAgreement 14 = .ok (.getfield 41, 3) := by decide +kernel
theorem dX4_shareOfAgreement_17 : decode cX4_shareOfAgreement 17 = .ok (.iload_n 2, 1) := by decide +kernel
theorem dX4_shareOfAgreement_18 : decode cX4_shareOfAgreement 18 = .ok (.aaload, 1) := by decide +kernel
theorem dX4_shareOfAgreement_19 : decode cX4_shareOfAgreement 19 = .ok (.invokevirtual 249, 3) := by decide +kernel
theorem dX4_shareOfAgreement_22 : decode cX4_shareOfAgreement 22 = .ok (.iadd, 1) := by decide +kernel
theorem dX4_shareOfAgreement_23 : decode cX4_shareOfAgreement 23 = .ok (.istore_n 1, 1) := by decide +kernel
theorem dX4_shareOfAgreement_24 : decode cX4_shareOfAgreement 24 = .ok (.iinc 2 1, 3) := by decide +kernel
theorem dX4_shareOfAgreement_27 : decode cX4_shareOfAgreement 27 = .ok (.goto (-23), 3) := by decide +kernel
theorem dX4_shareOfAgreement_30 : decode cX4_shareOfAgreement 30 = .ok (.iload_n 1, 1) := by decide +kernel
theorem dX4_shareOfAgreement_31 : decode cX4_shareOfAgreement 31 = .ok (.i2d, 1) := by decide +kernel
theorem dX4_shareOfAgreement_32 : decode cX4_shareOfAgreement 32 = .ok (.ldc2_w 252, 3) := by decide +kernel
theorem dX4_shareOfAgreement_35 : decode cX4_shareOfAgreement 35 = .ok (.ddiv, 1) := by decide +kernel
theorem dX4_shareOfAgreement_36 : decode cX4_shareOfAgreement 36 = .ok (.dreturn, 1) := by decide +kernel
theorem dX4_mix_0 : decode cX4_mix 0 = .ok (.ldc2_w 254, 3) := by decide +kernel
theorem dX4_mix_3 : decode cX4_mix 3 = .ok (.lload_n 0, 1) := by decide +kernel
theorem dX4_mix_4 : decode cX4_mix 4 = .ok (.lmul, 1) := by decide +kernel
theorem dX4_mix_5 : decode cX4_mix 5 = .ok (.lload_n 2, 1) := by decide +kernel
theorem dX4_mix_6 : decode cX4_mix 6 = .ok (.ladd, 1) := by decide +kernel
theorem dX4_mix_7 : decode cX4_mix 7 = .ok (.lreturn, 1) := by decide +kernel
theorem dX4_mixKey_0 : decode cX4_mixKey 0 = .ok (.lload_n 0, 1) := by decide +kernel
theorem dX4_mixKey_1 : decode cX4_mixKey 1 = .ok (.lstore_n 3, 1) := by decide +kernel
theorem dX4_mixKey_2 : decode cX4_mixKey 2 = .ok (.iconst 0, 1) := by decide +kernel
theorem dX4_mixKey_3 : decode cX4_mixKey 3 = .ok (.istore 5, 2) := by decide +kernel
theorem dX4_mixKey_5 : decode cX4_mixKey 5 = .ok (.iload 5, 2) := by decide +kernel
theorem dX4_mixKey_7 : decode cX4_mixKey 7 = .ok (.bipush 7, 2) := by decide +kernel
theorem dX4_mixKey_9 : decode cX4_mixKey 9 = .ok (.if_icmp .gt 21, 3) := by decide +kernel
theorem dX4_mixKey_12 : decode cX4_mixKey 12 = .ok (.lload_n 3, 1) := by decide +kernel
theorem dX4_mixKey_13 : decode cX4_mixKey 13 = .ok (.aload_n 2, 1) := by decide +kernel
theorem dX4_mixKey_14 : decode cX4_mixKey 14 = .ok (.iload 5, 2) := by decide +kernel
theorem dX4_mixKey_16 : decode cX4_mixKey 16 = .ok (.invokevirtual 169, 3) := by decide +kernel
theorem dX4_mixKey_19 : decode cX4_mixKey 19 = .ok (.i2l, 1) := by decide +kernel
theorem dX4_mixKey_20 : decode cX4_mixKey 20 = .ok (.invokestatic 187, 3) := by decide +kernel
theorem dX4_mixKey_23 : decode cX4_mixKey 23 = .ok (.lstore_n 3, 1) := by decide +kernel
theorem dX4_mixKey_24 : decode cX4_mixKey 24 = .ok (.iinc 5 1, 3) := by decide +kernel
theorem dX4_mixKey_27 : decode cX4_mixKey 27 = .ok (.goto (-22), 3) := by decide +kernel
theorem dX4_mixKey_30 : decode cX4_mixKey 30 = .ok (.iconst 0, 1) := by decide +kernel
theorem dX4_mixKey_31 : decode cX4_mixKey 31 = .ok (.istore 5, 2) := by decide +kernel
theorem dX4_mixKey_33 : decode cX4_mixKey 33 = .ok (.iload 5, 2) := by decide +kernel
theorem dX4_mixKey_35 : decode cX4_mixKey 35 = .ok (.iconst 3, 1) := by decide +kernel
theorem dX4_mixKey_36 : decode cX4_mixKey 36 = .ok (.if_icmp .ge 17, 3) := by decide +kernel
theorem dX4_mixKey_39 : decode cX4_mixKey 39 = .ok (.lload_n 3, 1) := by decide +kernel
theorem dX4_mixKey_40 : decode cX4_mixKey 40 = .ok (.aload_n 2, 1) := by decide +kernel
theorem dX4_mixKey_41 : decode cX4_mixKey 41 = .ok (.iload 5, 2) := by decide +kernel
theorem dX4_mixKey_43 : decode cX4_mixKey 43 = .ok (.invokestatic 256, 3) := by decide +kernel
theorem dX4_mixKey_46 : decode cX4_mixKey 46 = .ok (.lstore_n 3, 1) := by decide +kernel
theorem dX4_mixKey_47 : decode cX4_mixKey 47 = .ok (.iinc 5 1, 3) := by decide +kernel
theorem dX4_mixKey_50 : decode cX4_mixKey 50 = .ok (.goto (-17), 3) := by decide +kernel
theorem dX4_mixKey_53 : decode cX4_mixKey 53 = .ok (.iconst 0, 1) := by decide +kernel
theorem dX4_mixKey_54 : decode cX4_mixKey 54 = .ok (.istore 5, 2) := by decide +kernel
theorem dX4_mixKey_56 : decode cX4_mixKey 56 = .ok (.iload 5, 2) := by decide +kernel
theorem dX4_mixKey_58 : decode cX4_mixKey 58 = .ok (.iconst 5, 1) := by decide +kernel
theorem dX4_mixKey_59 : decode cX4_mixKey 59 = .ok (.if_icmp .ge 61, 3) := by decide +kernel
theorem dX4_mixKey_62 : decode cX4_mixKey 62 = .ok (.lload_n 3, 1) := by decide +kernel
theorem dX4_mixKey_63 : decode cX4_mixKey 63 = .ok (.aload_n 2, 1) := by decide +kernel
theorem dX4_mixKey_64 : decode cX4_mixKey 64 = .ok (.getfield 165, 3) := by decide +kernel
theorem dX4_mixKey_67 : decode cX4_mixKey 67 = .ok (.iload 5, 2) := by decide +kernel
theorem dX4_mixKey_69 : decode cX4_mixKey 69 = .ok (.aaload, 1) := by decide +kernel
theorem dX4_mixKey_70 : decode cX4_mixKey 70 = .ok (.invokestatic 260, 3) := by decide +kernel
theorem dX4_mixKey_73 : decode cX4_mixKey 73 = .ok (.lstore_n 3, 1) := by decide +kernel
theorem dX4_mixKey_74 : decode cX4_mixKey 74 = .ok (.lload_n 3, 1) := by decide +kernel
theorem dX4_mixKey_75 : decode cX4_mixKey 75 = .ok (.aload_n 2, 1) := by decide +kernel
theorem dX4_mixKey_76 : decode cX4_mixKey 76 = .ok (.iload 5, 2) := by decide +kernel
theorem dX4_mixKey_78 : decode cX4_mixKey 78 = .ok (.invokevirtual 109, 3) := by decide +kernel
theorem dX4_mixKey_81 : decode cX4_mixKey 81 = .ok (.i2l, 1) := by decide +kernel
theorem dX4_mixKey_82 : decode cX4_mixKey 82 = .ok (.invokestatic 187, 3) := by decide +kernel
theorem dX4_mixKey_85 : decode cX4_mixKey 85 = .ok (.lstore_n 3, 1) := by decide +kernel
theorem dX4_mixKey_86 : decode cX4_mixKey 86 = .ok (.lload_n 3, 1) := by decide +kernel
theorem dX4_mixKey_87 : decode cX4_mixKey 87 = .ok (.aload_n 2, 1) := by decide +kernel
theorem dX4_mixKey_88 : decode cX4_mixKey 88 = .ok (.iload 5, 2) := by decide +kernel
theorem dX4_mixKey_90 : decode cX4_mixKey 90 = .ok (.iconst 0, 1) := by decide +kernel
theorem dX4_mixKey_91 : decode cX4_mixKey 91 = .ok (.iconst 0, 1) := by decide +kernel
theorem dX4_mixKey_92 : decode cX4_mixKey 92 = .ok (.invokevirtual 175, 3) := by decide +kernel
theorem dX4_mixKey_95 : decode cX4_mixKey 95 = .ok (.i2l, 1) := by decide +kernel
theorem dX4_mixKey_96 : decode cX4_mixKey 96 = .ok (.invokestatic 187, 3) := by decide +kernel
theorem dX4_mixKey_99 : decode cX4_mixKey 99 = .ok (.lstore_n 3, 1) := by decide +kernel
theorem dX4_mixKey_100 : decode cX4_mixKey 100 = .ok (.lload_n 3, 1) := by decide +kernel
theorem dX4_mixKey_101 : decode cX4_mixKey 101 = .ok (.aload_n 2, 1) := by decide +kernel
theorem dX4_mixKey_102 : decode cX4_mixKey 102 = .ok (.iload 5, 2) := by decide +kernel
theorem dX4_mixKey_104 : decode cX4_mixKey 104 = .ok (.iconst 0, 1) := by decide +kernel
theorem dX4_mixKey_105 : decode cX4_mixKey 105 = .ok (.iconst 1, 1) := by decide +kernel
theorem dX4_mixKey_106 : decode cX4_mixKey 106 = .ok (.invokevirtual 175, 3) := by decide +kernel
theorem dX4_mixKey_109 : decode cX4_mixKey 109 = .ok (.i2l, 1) := by decide +kernel
theorem dX4_mixKey_110 : decode cX4_mixKey 110 = .ok (.invokestatic 187, 3) := by decide +kernel
theorem dX4_mixKey_113 : decode cX4_mixKey 113 = .ok (.lstore_n 3, 1) := by decide +kernel
theorem dX4_mixKey_114 : decode cX4_mixKey 114 = .ok (.iinc 5 1, 3) := by decide +kernel
theorem dX4_mixKey_117 : decode cX4_mixKey 117 = .ok (.goto (-61), 3) := by decide +kernel
theorem dX4_mixKey_120 : decode cX4_mixKey 120 = .ok (.lload_n 3, 1) := by decide +kernel
theorem dX4_mixKey_121 : decode cX4_mixKey 121 = .ok (.lreturn, 1) := by decide +kernel
theorem dX4_mixStore_0 : decode cX4_mixStore 0 = .ok (.lload_n 0, 1) := by decide +kernel
theorem dX4_mixStore_1 : decode cX4_mixStore 1 = .ok (.lstore 4, 2) := by decide +kernel
theorem dX4_mixStore_3 : decode cX4_mixStore 3 = .ok (.iconst 0, 1) := by decide +kernel
theorem dX4_mixStore_4 : decode cX4_mixStore 4 = .ok (.istore 6, 2) := by decide +kernel
theorem dX4_mixStore_6 : decode cX4_mixStore 6 = .ok (.iload 6, 2) := by decide +kernel
theorem dX4_mixStore_8 : decode cX4_mixStore 8 = .ok (.aload_n 2, 1) := by decide +kernel
theorem dX4_mixStore_9 : decode cX4_mixStore 9 = .ok (.getfield 51, 3) := by decide +kernel
theorem dX4_mixStore_12 : decode cX4_mixStore 12 = .ok (.iload_n 3, 1) := by decide +kernel
theorem dX4_mixStore_13 : decode cX4_mixStore 13 = .ok (.aaload, 1) := by decide +kernel
theorem dX4_mixStore_14 : decode cX4_mixStore 14 = .ok (.getfield 55, 3) := by decide +kernel
theorem dX4_mixStore_17 : decode cX4_mixStore 17 = .ok (.if_icmp .ge 41, 3) := by decide +kernel
theorem dX4_mixStore_20 : decode cX4_mixStore 20 = .ok (.iconst 0, 1) := by decide +kernel
theorem dX4_mixStore_21 : decode cX4_mixStore 21 = .ok (.istore 7, 2) := by decide +kernel
theorem dX4_mixStore_23 : decode cX4_mixStore 23 = .ok (.iload 7, 2) := by decide +kernel
theorem dX4_mixStore_25 : decode cX4_mixStore 25 = .ok (.iconst 4, 1) := by decide +kernel
theorem dX4_mixStore_26 : decode cX4_mixStore 26 = .ok (.if_icmp .gt 26, 3) := by decide +kernel
theorem dX4_mixStore_29 : decode cX4_mixStore 29 = .ok (.lload 4, 2) := by decide +kernel
theorem dX4_mixStore_31 : decode cX4_mixStore 31 = .ok (.aload_n 2, 1) := by decide +kernel
theorem dX4_mixStore_32 : decode cX4_mixStore 32 = .ok (.iload_n 3, 1) := by decide +kernel
theorem dX4_mixStore_33 : decode cX4_mixStore 33 = .ok (.iload 6, 2) := by decide +kernel
theorem dX4_mixStore_35 : decode cX4_mixStore 35 = .ok (.iload 7, 2) := by decide +kernel
theorem dX4_mixStore_37 : decode cX4_mixStore 37 = .ok (.invokevirtual 159, 3) := by decide +kernel
theorem dX4_mixStore_40 : decode cX4_mixStore 40 = .ok (.i2l, 1) := by decide +kernel
theorem dX4_mixStore_41 : decode cX4_mixStore 41 = .ok (.invokestatic 187, 3) := by decide +kernel
theorem dX4_mixStore_44 : decode cX4_mixStore 44 = .ok (.lstore 4, 2) := by decide +kernel
theorem dX4_mixStore_46 : decode cX4_mixStore 46 = .ok (.iinc 7 1, 3) := by decide +kernel
theorem dX4_mixStore_49 : decode cX4_mixStore 49 = .ok (.goto (-26), 3) := by decide +kernel
theorem dX4_mixStore_52 : decode cX4_mixStore 52 = .ok (.iinc 6 1, 3) := by decide +kernel
theorem dX4_mixStore_55 : decode cX4_mixStore 55 = .ok (.goto (-49), 3) := by decide +kernel
theorem dX4_mixStore_58 : decode cX4_mixStore 58 = .ok (.lload 4, 2) := by decide +kernel
theorem dX4_mixStore_60 : decode cX4_mixStore 60 = .ok (.aload_n 2, 1) := by decide +kernel
theorem dX4_mixStore_61 : decode cX4_mixStore 61 = .ok (.getfield 51, 3) := by decide +kernel
theorem dX4_mixStore_64 : decode cX4_mixStore 64 = .ok (.iload_n 3, 1) := by decide +kernel
theorem dX4_mixStore_65 : decode cX4_mixStore 65 = .ok (.aaload, 1) := by decide +kernel
theorem dX4_mixStore_66 : decode cX4_mixStore 66 = .ok (.getfield 162, 3) := by decide +kernel
theorem dX4_mixStore_69 : decode cX4_mixStore 69 = .ok (.invokestatic 260, 3) := by decide +kernel
theorem dX4_mixStore_72 : decode cX4_mixStore 72 = .ok (.lreturn, 1) := by decide +kernel
theorem dX4_mixRow_0 : decode cX4_mixRow 0 = .ok (.lload_n 0, 1) := by decide +kernel
theorem dX4_mixRow_1 : decode cX4_mixRow 1 = .ok (.lstore_n 3, 1) := by decide +kernel
theorem dX4_mixRow_2 : decode cX4_mixRow 2 = .ok (.iconst 0, 1) := by decide +kernel
theorem dX4_mixRow_3 : decode cX4_mixRow 3 = .ok (.istore 5, 2) := by decide +kernel
theorem dX4_mixRow_5 : decode cX4_mixRow 5 = .ok (.iload 5, 2) := by decide +kernel
theorem dX4_mixRow_7 : decode cX4_mixRow 7 = .ok (.aload_n 2, 1) := by decide +kernel
theorem dX4_mixRow_8 : decode cX4_mixRow 8 = .ok (.arraylength, 1) := by decide +kernel
theorem dX4_mixRow_9 : decode cX4_mixRow 9 = .ok (.if_icmp .ge 19, 3) := by decide +kernel
theorem dX4_mixRow_12 : decode cX4_mixRow 12 = .ok (.lload_n 3, 1) := by decide +kernel
theorem dX4_mixRow_13 : decode cX4_mixRow 13 = .ok (.aload_n 2, 1) := by decide +kernel
theorem dX4_mixRow_14 : decode cX4_mixRow 14 = .ok (.iload 5, 2) := by decide +kernel
theorem dX4_mixRow_16 : decode cX4_mixRow 16 = .ok (.iaload, 1) := by decide +kernel
theorem dX4_mixRow_17 : decode cX4_mixRow 17 = .ok (.i2l, 1) := by decide +kernel
theorem dX4_mixRow_18 : decode cX4_mixRow 18 = .ok (.invokestatic 187, 3) := by decide +kernel
theorem dX4_mixRow_21 : decode cX4_mixRow 21 = .ok (.lstore_n 3, 1) := by decide +kernel
theorem dX4_mixRow_22 : decode cX4_mixRow 22 = .ok (.iinc 5 1, 3) := by decide +kernel
theorem dX4_mixRow_25 : decode cX4_mixRow 25 = .ok (.goto (-20), 3) := by decide +kernel
theorem dX4_mixRow_28 : decode cX4_mixRow 28 = .ok (.lload_n 3, 1) := by decide +kernel
theorem dX4_mixRow_29 : decode cX4_mixRow 29 = .ok (.lreturn, 1) := by decide +kernel
theorem dX4_bitsOfShare_0 : decode cX4_bitsOfShare 0 = .ok (.dload_n 0, 1) := by decide +kernel
theorem dX4_bitsOfShare_1 : decode cX4_bitsOfShare 1 = .ok (.dconst 0, 1) := by decide +kernel
theorem dX4_bitsOfShare_2 : decode cX4_bitsOfShare 2 = .ok (.dcmp .g, 1) := by decide +kernel
theorem dX4_bitsOfShare_3 : decode cX4_bitsOfShare 3 = .ok (.ifCond .gt 5, 3) := by decide +kernel
theorem dX4_bitsOfShare_6 : decode cX4_bitsOfShare 6 = .ok (.lconst 0, 1) := by decide +kernel
theorem dX4_bitsOfShare_7 : decode cX4_bitsOfShare 7 = .ok (.lreturn, 1) := by decide +kernel
theorem dX4_bitsOfShare_8 : decode cX4_bitsOfShare 8 = .ok (.dload_n 0, 1) := by decide +kernel
theorem dX4_bitsOfShare_9 : decode cX4_bitsOfShare 9 = .ok (.dstore_n 2, 1) := by decide +kernel
theorem dX4_bitsOfShare_10 : decode cX4_bitsOfShare 10 = .ok (.ldc2_w 264, 3) := by decide +kernel
theorem dX4_bitsOfShare_13 : decode cX4_bitsOfShare 13 = .ok (.lstore 4, 2) := by decide +kernel
theorem dX4_bitsOfShare_15 : decode cX4_bitsOfShare 15 = .ok (.iconst 1, 1) := by decide +kernel
theorem dX4_bitsOfShare_16 : decode cX4_bitsOfShare 16 = .ok (.istore 6, 2) := by decide +kernel
theorem dX4_bitsOfShare_18 : decode cX4_bitsOfShare 18 = .ok (.iload 6, 2) := by decide +kernel
theorem dX4_bitsOfShare_20 : decode cX4_bitsOfShare 20 = .ok (.sipush 1023, 3) := by decide +kernel
theorem dX4_bitsOfShare_23 : decode cX4_bitsOfShare 23 = .ok (.if_icmp .ge 27, 3) := by decide +kernel
theorem dX4_bitsOfShare_26 : decode cX4_bitsOfShare 26 = .ok (.dload_n 2, 1) := by decide +kernel
theorem dX4_bitsOfShare_27 : decode cX4_bitsOfShare 27 = .ok (.dconst 1, 1) := by decide +kernel
theorem dX4_bitsOfShare_28 : decode cX4_bitsOfShare 28 = .ok (.dcmp .g, 1) := by decide +kernel
theorem dX4_bitsOfShare_29 : decode cX4_bitsOfShare 29 = .ok (.ifCond .ge 21, 3) := by decide +kernel
theorem dX4_bitsOfShare_32 : decode cX4_bitsOfShare 32 = .ok (.dload_n 2, 1) := by decide +kernel
theorem dX4_bitsOfShare_33 : decode cX4_bitsOfShare 33 = .ok (.ldc2_w 266, 3) := by decide +kernel
theorem dX4_bitsOfShare_36 : decode cX4_bitsOfShare 36 = .ok (.dmul, 1) := by decide +kernel
theorem dX4_bitsOfShare_37 : decode cX4_bitsOfShare 37 = .ok (.dstore_n 2, 1) := by decide +kernel
theorem dX4_bitsOfShare_38 : decode cX4_bitsOfShare 38 = .ok (.lload 4, 2) := by decide +kernel
theorem dX4_bitsOfShare_40 : decode cX4_bitsOfShare 40 = .ok (.lconst 1, 1) := by decide +kernel
theorem dX4_bitsOfShare_41 : decode cX4_bitsOfShare 41 = .ok (.lsub, 1) := by decide +kernel
theorem dX4_bitsOfShare_42 : decode cX4_bitsOfShare 42 = .ok (.lstore 4, 2) := by decide +kernel
theorem dX4_bitsOfShare_44 : decode cX4_bitsOfShare 44 = .ok (.iinc 6 1, 3) := by decide +kernel
theorem dX4_bitsOfShare_47 : decode cX4_bitsOfShare 47 = .ok (.goto (-29), 3) := by decide +kernel
theorem dX4_bitsOfShare_50 : decode cX4_bitsOfShare 50 = .ok (.ldc2_w 268, 3) := by decide +kernel
theorem dX4_bitsOfShare_53 : decode cX4_bitsOfShare 53 = .ok (.lstore 6, 2) := by decide +kernel
theorem dX4_bitsOfShare_55 : decode cX4_bitsOfShare 55 = .ok (.dload_n 2, 1) := by decide +kernel
theorem dX4_bitsOfShare_56 : decode cX4_bitsOfShare 56 = .ok (.lload 6, 2) := by decide +kernel
theorem dX4_bitsOfShare_58 : decode cX4_bitsOfShare 58 = .ok (.l2d, 1) := by decide +kernel
theorem dX4_bitsOfShare_59 : decode cX4_bitsOfShare 59 = .ok (.dmul, 1) := by decide +kernel
theorem dX4_bitsOfShare_60 : decode cX4_bitsOfShare 60 = .ok (.d2l, 1) := by decide +kernel
theorem dX4_bitsOfShare_61 : decode cX4_bitsOfShare 61 = .ok (.lload 6, 2) := by decide +kernel
theorem dX4_bitsOfShare_63 : decode cX4_bitsOfShare 63 = .ok (.lsub, 1) := by decide +kernel
theorem dX4_bitsOfShare_64 : decode cX4_bitsOfShare 64 = .ok (.lstore 8, 2) := by decide +kernel
theorem dX4_bitsOfShare_66 : decode cX4_bitsOfShare 66 = .ok (.lload 4, 2) := by decide +kernel
theorem dX4_bitsOfShare_68 : decode cX4_bitsOfShare 68 = .ok (.bipush 52, 2) := by decide +kernel
theorem dX4_bitsOfShare_70 : decode cX4_bitsOfShare 70 = .ok (.lshl, 1) := by decide +kernel
theorem dX4_bitsOfShare_71 : decode cX4_bitsOfShare 71 = .ok (.lload 8, 2) := by decide +kernel
theorem dX4_bitsOfShare_73 : decode cX4_bitsOfShare 73 = .ok (.ladd, 1) := by decide +kernel
theorem dX4_bitsOfShare_74 : decode cX4_bitsOfShare 74 = .ok (.lreturn, 1) := by decide +kernel
theorem dX4_writerOf_0 : decode cX4_writerOf 0 = .ok (.iload_n 0, 1) := by decide +kernel
theorem dX4_writerOf_1 : decode cX4_writerOf 1 = .ok (.sipush 1000, 3) := by decide +kernel
theorem dX4_writerOf_4 : decode cX4_writerOf 4 = .ok (.idiv, 1) := by decide +kernel
theorem dX4_writerOf_5 : decode cX4_writerOf 5 = .ok (.ireturn, 1) := by decide +kernel
theorem dX4_numberOf_0 : decode cX4_numberOf 0 = .ok (.iload_n 0, 1) := by decide +kernel
theorem dX4_numberOf_1 : decode cX4_numberOf 1 = .ok (.sipush 1000, 3) := by decide +kernel
theorem dX4_numberOf_4 : decode cX4_numberOf 4 = .ok (.irem, 1) := by decide +kernel
theorem dX4_numberOf_5 : decode cX4_numberOf 5 = .ok (.ireturn, 1) := by decide +kernel
theorem dX4_covers_0 : decode cX4_covers 0 = .ok (.iload_n 1, 1) := by decide +kernel
theorem dX4_covers_1 : decode cX4_covers 1 = .ok (.sipush 1000, 3) := by decide +kernel
theorem dX4_covers_4 : decode cX4_covers 4 = .ok (.idiv, 1) := by decide +kernel
theorem dX4_covers_5 : decode cX4_covers 5 = .ok (.istore_n 2, 1) := by decide +kernel
theorem dX4_covers_6 : decode cX4_covers 6 = .ok (.iload_n 2, 1) := by decide +kernel
theorem dX4_covers_7 : decode cX4_covers 7 = .ok (.ifCond .lt 24, 3) := by decide +kernel
theorem dX4_covers_10 : decode cX4_covers 10 = .ok (.iload_n 2, 1) := by decide +kernel
theorem dX4_covers_11 : decode cX4_covers 11 = .ok (.aload_n 0, 1) := by decide +kernel
theorem dX4_covers_12 : decode cX4_covers 12 = .ok (.arraylength, 1) := by decide +kernel
theorem dX4_covers_13 : decode cX4_covers 13 = .ok (.if_icmp .ge 18, 3) := by decide +kernel
theorem dX4_covers_16 : decode cX4_covers 16 = .ok (.aload_n 0, 1) := by decide +kernel
theorem dX4_covers_17 : decode cX4_covers 17 = .ok (.iload_n 2, 1) := by decide +kernel
theorem dX4_covers_18 : decode cX4_covers 18 = .ok (.iaload, 1) := by decide +kernel
theorem dX4_covers_19 : decode cX4_covers 19 = .ok (.iload_n 1, 1) := by decide +kernel
theorem dX4_covers_20 : decode cX4_covers 20 = .ok (.sipush 1000, 3) := by decide +kernel
theorem dX4_covers_23 : decode cX4_covers 23 = .ok (.irem, 1) := by decide +kernel
theorem dX4_covers_24 : decode cX4_covers 24 = .ok (.if_icmp .lt 7, 3) := by decide +kernel
theorem dX4_covers_27 : decode cX4_covers 27 = .ok (.iconst 1, 1) := by decide +kernel
theorem dX4_covers_28 : decode cX4_covers 28 = .ok (.goto 4, 3) := by decide +kernel
theorem dX4_covers_31 : decode cX4_covers 31 = .ok (.iconst 0, 1) := by decide +kernel
theorem dX4_covers_32 : decode cX4_covers 32 = .ok (.ireturn, 1) := by decide +kernel
theorem dX4_mergeInto_0 : decode cX4_mergeInto 0 = .ok (.iconst 0, 1) := by decide +kernel
theorem dX4_mergeInto_1 : decode cX4_mergeInto 1 = .ok (.istore_n 2, 1) := by decide +kernel
theorem dX4_mergeInto_2 : decode cX4_mergeInto 2 = .ok (.iload_n 2, 1) := by decide +kernel
theorem dX4_mergeInto_3 : decode cX4_mergeInto 3 = .ok (.iconst 5, 1) := by decide +kernel
theorem dX4_mergeInto_4 : decode cX4_mergeInto 4 = .ok (.if_icmp .ge 21, 3) := by decide +kernel
theorem dX4_mergeInto_7 : decode cX4_mergeInto 7 = .ok (.aload_n 0, 1) := by decide +kernel
theorem dX4_mergeInto_8 : decode cX4_mergeInto 8 = .ok (.iload_n 2, 1) := by decide +kernel
theorem dX4_mergeInto_9 : decode cX4_mergeInto 9 = .ok (.aload_n 0, 1) := by decide +kernel
theorem dX4_mergeInto_10 : decode cX4_mergeInto 10 = .ok (.iload_n 2, 1) := by decide +kernel
theorem dX4_mergeInto_11 : decode cX4_mergeInto 11 = .ok (.iaload, 1) := by decide +kernel
theorem dX4_mergeInto_12 : decode cX4_mergeInto 12 = .ok (.aload_n 1, 1) := by decide +kernel
theorem dX4_mergeInto_13 : decode cX4_mergeInto 13 = .ok (.iload_n 2, 1) := by decide +kernel
theorem dX4_mergeInto_14 : decode cX4_mergeInto 14 = .ok (.iaload, 1) := by decide +kernel
theorem dX4_mergeInto_15 : decode cX4_mergeInto 15 = .ok (.invokestatic 270, 3) := by decide +kernel
theorem dX4_mergeInto_18 : decode cX4_mergeInto 18 = .ok (.iastore, 1) := by decide +kernel
theorem dX4_mergeInto_19 : decode cX4_mergeInto 19 = .ok (.iinc 2 1, 3) := by decide +kernel
theorem dX4_mergeInto_22 : decode cX4_mergeInto 22 = .ok (.goto (-20), 3) := by decide +kernel
theorem dX4_mergeInto_25 : decode cX4_mergeInto 25 = .ok (.return_, 1) := by decide +kernel
theorem dX4_sameNumbers_0 : decode cX4_sameNumbers 0 = .ok (.iconst 0, 1) := by decide +kernel
theorem dX4_sameNumbers_1 : decode cX4_sameNumbers 1 = .ok (.istore_n 2, 1) := by decide +kernel
theorem dX4_sameNumbers_2 : decode cX4_sameNumbers 2 = .ok (.iload_n 2, 1) := by decide +kernel
theorem dX4_sameNumbers_3 : decode cX4_sameNumbers 3 = .ok (.iconst 5, 1) := by decide +kernel
theorem dX4_sameNumbers_4 : decode cX4_sameNumbers 4 = .ok (.if_icmp .ge 20, 3) := by decide +kernel
theorem dX4_sameNumbers_7 : decode cX4_sameNumbers 7 = .ok (.aload_n 0, 1) := by decide +kernel
theorem dX4_sameNumbers_8 : decode cX4_sameNumbers 8 = .ok (.iload_n 2, 1) := by decide +kernel
theorem dX4_sameNumbers_9 : decode cX4_sameNumbers 9 = .ok (.iaload, 1) := by decide +kernel
theorem dX4_sameNumbers_10 : decode cX4_sameNumbers 10 = .ok (.aload_n 1, 1) := by decide +kernel
theorem dX4_sameNumbers_11 : decode cX4_sameNumbers 11 = .ok (.iload_n 2, 1) := by decide +kernel
theorem dX4_sameNumbers_12 : decode cX4_sameNumbers 12 = .ok (.iaload, 1) := by decide +kernel
theorem dX4_sameNumbers_13 : decode cX4_sameNumbers 13 = .ok (.if_icmp .eq 5, 3) := by decide +kernel
theorem dX4_sameNumbers_16 : decode cX4_sameNumbers 16 = .ok (.iconst 0, 1) := by decide +kernel
theorem dX4_sameNumbers_17 : decode cX4_sameNumbers 17 = .ok (.ireturn, 1) := by decide +kernel
theorem dX4_sameNumbers_18 : decode cX4_sameNumbers 18 = .ok (.iinc 2 1, 3) := by decide +kernel
theorem dX4_sameNumbers_21 : decode cX4_sameNumbers 21 = .ok (.goto (-19), 3) := by decide +kernel
theorem dX4_sameNumbers_24 : decode cX4_sameNumbers 24 = .ok (.iconst 1, 1) := by decide +kernel
theorem dX4_sameNumbers_25 : decode cX4_sameNumbers 25 = .ok (.ireturn, 1) := by decide +kernel
theorem dJ9_max_7cf53_0 : decode cJ9_max_7cf53 0 = .ok (.iload_n 0, 1) := by decide +kernel
theorem dJ9_max_7cf53_1 : decode cJ9_max_7cf53 1 = .ok (.iload_n 1, 1) := by decide +kernel
theorem dJ9_max_7cf53_2 : decode cJ9_max_7cf53 2 = .ok (.if_icmp .lt 7, 3) := by decide +kernel
theorem dJ9_max_7cf53_5 : decode cJ9_max_7cf53 5 = .ok (.iload_n 0, 1) := by decide +kernel
theorem dJ9_max_7cf53_6 : decode cJ9_max_7cf53 6 = .ok (.goto 4, 3) := by decide +kernel
theorem dJ9_max_7cf53_9 : decode cJ9_max_7cf53 9 = .ok (.iload_n 1, 1) := by decide +kernel
theorem dJ9_max_7cf53_10 : decode cJ9_max_7cf53 10 = .ok (.ireturn, 1) := by decide +kernel
theorem dJ9_min_7cf53_0 : decode cJ9_min_7cf53 0 = .ok (.iload_n 0, 1) := by decide +kernel
theorem dJ9_min_7cf53_1 : decode cJ9_min_7cf53 1 = .ok (.iload_n 1, 1) := by decide +kernel
theorem dJ9_min_7cf53_2 : decode cJ9_min_7cf53 2 = .ok (.if_icmp .gt 7, 3) := by decide +kernel
theorem dJ9_min_7cf53_5 : decode cJ9_min_7cf53 5 = .ok (.iload_n 0, 1) := by decide +kernel
theorem dJ9_min_7cf53_6 : decode cJ9_min_7cf53 6 = .ok (.goto 4, 3) := by decide +kernel
theorem dJ9_min_7cf53_9 : decode cJ9_min_7cf53 9 = .ok (.iload_n 1, 1) := by decide +kernel
theorem dJ9_min_7cf53_10 : decode cJ9_min_7cf53 10 = .ok (.ireturn, 1) := by decide +kernel
theorem dJ0_length_8abf5_0 : decode cJ0_length_8abf5 0 = .ok (.aload_n 0, 1) := by decide +kernel
theorem dJ0_length_8abf5_1 : decode cJ0_length_8abf5 1 = .ok (.getfield 9, 3) := by decide +kernel
theorem dJ0_length_8abf5_4 : decode cJ0_length_8abf5 4 = .ok (.arraylength, 1) := by decide +kernel
theorem dJ0_length_8abf5_5 : decode cJ0_length_8abf5 5 = .ok (.aload_n 0, 1) := by decide +kernel
theorem dJ0_length_8abf5_6 : decode cJ0_length_8abf5 6 = .ok (.invokevirtual 335, 3) := by decide +kernel
theorem dJ0_length_8abf5_9 : decode cJ0_length_8abf5 9 = .ok (.ishr, 1) := by decide +kernel
theorem dJ0_length_8abf5_10 : decode cJ0_length_8abf5 10 = .ok (.ireturn, 1) := by decide +kernel
theorem dJ0_charAt_5068e_0 : decode cJ0_charAt_5068e 0 = .ok (.aload_n 0, 1) := by decide +kernel
theorem dJ0_charAt_5068e_1 : decode cJ0_charAt_5068e 1 = .ok (.invokevirtual 492, 3) := by decide +kernel
theorem dJ0_charAt_5068e_4 : decode cJ0_charAt_5068e 4 = .ok (.ifCond .eq 12, 3) := by decide +kernel
theorem dJ0_charAt_5068e_7 : decode cJ0_charAt_5068e 7 = .ok (.aload_n 0, 1) := by decide +kernel
theorem dJ0_charAt_5068e_8 : decode cJ0_charAt_5068e 8 = .ok (.getfield 9, 3) := by decide +kernel
theorem dJ0_charAt_5068e_11 : decode cJ0_charAt_5068e 11 = .ok (.iload_n 1, 1) := by decide +kernel
theorem dJ0_charAt_5068e_12 : decode cJ0_charAt_5068e 12 = .ok (.invokestatic 495, 3) := by decide +kernel
theorem dJ0_charAt_5068e_15 : decode cJ0_charAt_5068e 15 = .ok (.ireturn, 1) := by decide +kernel
theorem dJ0_charAt_5068e_16 : decode cJ0_charAt_5068e 16 = .ok (.aload_n 0, 1) := by decide +kernel
theorem dJ0_charAt_5068e_17 : decode cJ0_charAt_5068e 17 = .ok (.getfield 9, 3) := by decide +kernel
theorem dJ0_charAt_5068e_20 : decode cJ0_charAt_5068e 20 = .ok (.iload_n 1, 1) := by decide +kernel
theorem dJ0_charAt_5068e_21 : decode cJ0_charAt_5068e 21 = .ok (.invokestatic 498, 3) := by decide +kernel
theorem dJ0_charAt_5068e_24 : decode cJ0_charAt_5068e 24 = .ok (.ireturn, 1) := by decide +kernel
theorem dJ0_coder_7d493_0 : decode cJ0_coder_7d493 0 = .ok (.getstatic 38, 3) := by decide +kernel
theorem dJ0_coder_7d493_3 : decode cJ0_coder_7d493 3 = .ok (.ifCond .eq 10, 3) := by decide +kernel
theorem dJ0_coder_7d493_6 : decode cJ0_coder_7d493 6 = .ok (.aload_n 0, 1) := by decide +kernel
theorem dJ0_coder_7d493_7 : decode cJ0_coder_7d493 7 = .ok (.getfield 15, 3) := by decide +kernel
theorem dJ0_coder_7d493_10 : decode cJ0_coder_7d493 10 = .ok (.goto 4, 3) := by decide +kernel
theorem dJ0_coder_7d493_13 : decode cJ0_coder_7d493 13 = .ok (.iconst 1, 1) := by decide +kernel
theorem dJ0_coder_7d493_14 : decode cJ0_coder_7d493 14 = .ok (.ireturn, 1) := by decide +kernel
theorem dJ0_isLatin1_aae02_0 : decode cJ0_isLatin1_aae02 0 = .ok (.getstatic 38, 3) := by decide +kernel
theorem dJ0_isLatin1_aae02_3 : decode cJ0_isLatin1_aae02 3 = .ok (.ifCond .eq 14, 3) := by decide +kernel
theorem dJ0_isLatin1_aae02_6 : decode cJ0_isLatin1_aae02 6 = .ok (.aload_n 0, 1) := by decide +kernel
theorem dJ0_isLatin1_aae02_7 : decode cJ0_isLatin1_aae02 7 = .ok (.getfield 15, 3) := by decide +kernel
theorem dJ0_isLatin1_aae02_10 : decode cJ0_isLatin1_aae02 10 = .ok (.ifCond .ne 7, 3) := by decide +kernel
theorem dJ0_isLatin1_aae02_13 : decode cJ0_isLatin1_aae02 13 = .ok (.iconst 1, 1) := by decide +kernel
theorem dJ0_isLatin1_aae02_14 : decode cJ0_isLatin1_aae02 14 = .ok (.goto 4, 3) := by decide +kernel
theorem dJ0_isLatin1_aae02_17 : decode cJ0_isLatin1_aae02 17 = .ok (.iconst 0, 1) := by decide +kernel
theorem dJ0_isLatin1_aae02_18 : decode cJ0_isLatin1_aae02 18 = .ok (.ireturn, 1) := by decide +kernel
theorem dJ0_checkIndex_df160_0 : decode cJ0_checkIndex_df160 0 = .ok (.iload_n 0, 1) := by decide +kernel
theorem dJ0_checkIndex_df160_1 : decode cJ0_checkIndex_df160 1 = .ok (.iload_n 1, 1) := by decide +kernel
theorem dJ0_checkIndex_df160_2 : decode cJ0_checkIndex_df160 2 = .ok (.getstatic 1053, 3) := by decide +kernel
theorem dJ0_checkIndex_df160_5 : decode cJ0_checkIndex_df160 5 = .ok (.invokestatic 1059, 3) := by decide +kernel
theorem dJ0_checkIndex_df160_8 : decode cJ0_checkIndex_df160 8 = .ok (.pop, 1) := by decide +kernel
theorem dJ0_checkIndex_df160_9 : decode cJ0_checkIndex_df160 9 = .ok (.return_, 1) := by decide +kernel
theorem dJ1_charAt_3b067_0 : decode cJ1_charAt_3b067 0 = .ok (.iload_n 1, 1) := by decide +kernel
theorem dJ1_charAt_3b067_1 : decode cJ1_charAt_3b067 1 = .ok (.aload_n 0, 1) := by decide +kernel
theorem dJ1_charAt_3b067_2 : decode cJ1_charAt_3b067 2 = .ok (.arraylength, 1) := by decide +kernel
theorem dJ1_charAt_3b067_3 : decode cJ1_charAt_3b067 3 = .ok (.invokestatic 9, 3) := by decide +kernel
theorem dJ1_charAt_3b067_6 : decode cJ1_charAt_3b067 6 = .ok (.aload_n 0, 1) := by decide +kernel
theorem dJ1_charAt_3b067_7 : decode cJ1_charAt_3b067 7 = .ok (.iload_n 1, 1) := by decide +kernel
theorem dJ1_charAt_3b067_8 : decode cJ1_charAt_3b067 8 = .ok (.baload, 1) := by decide +kernel
theorem dJ1_charAt_3b067_9 : decode cJ1_charAt_3b067 9 = .ok (.sipush 255, 3) := by decide +kernel
theorem dJ1_charAt_3b067_12 : decode cJ1_charAt_3b067 12 = .ok (.iand, 1) := by decide +kernel
theorem dJ1_charAt_3b067_13 : decode cJ1_charAt_3b067 13 = .ok (.i2c, 1) := by decide +kernel
theorem dJ1_charAt_3b067_14 : decode cJ1_charAt_3b067 14 = .ok (.ireturn, 1) := by decide +kernel
theorem dJ2_getChar_3b067_0 : decode cJ2_getChar_3b067 0 = .ok (.getstatic 44, 3) := by decide +kernel
theorem dJ2_getChar_3b067_3 : decode cJ2_getChar_3b067 3 = .ok (.ifCond .ne 25, 3) := by decide +kernel
theorem dJ2_getChar_3b067_6 : decode cJ2_getChar_3b067 6 = .ok (.iload_n 1, 1) := by decide +kernel
theorem dJ2_getChar_3b067_7 : decode cJ2_getChar_3b067 7 = .ok (.ifCond .lt 11, 3) := by decide +kernel
theorem dJ2_getChar_3b067_10 : decode cJ2_getChar_3b067 10 = .ok (.iload_n 1, 1) := by decide +kernel
theorem dJ2_getChar_3b067_11 : decode cJ2_getChar_3b067 11 = .ok (.aload_n 0, 1) := by decide +kernel
theorem dJ2_getChar_3b067_12 : decode cJ2_getChar_3b067 12 = .ok (.invokestatic 48, 3) := by decide +kernel
theorem dJ2_getChar_3b067_15 : decode cJ2_getChar_3b067 15 = .ok (.if_icmp .lt 13, 3) := by decide +kernel
theorem dJ2_getChar_3b067_18 : decode cJ2_getChar_3b067 18 = .ok (.new 52, 3) := by decide +kernel
theorem dJ2_getChar_3b067_21 : decode cJ2_getChar_3b067 21 = .ok (.dup, 1) := by decide +kernel
theorem dJ2_getChar_3b067_22 : decode cJ2_getChar_3b067 22 = .ok (.ldc 54, 2) := by decide +kernel
theorem dJ2_getChar_3b067_24 : decode cJ2_getChar_3b067 24 = .ok (.invokespecial 56, 3) := by decide +kernel
theorem dJ2_getChar_3b067_27 : decode cJ2_getChar_3b067 27 = .ok (.athrow, 1) := by decide +kernel
theorem dJ2_getChar_3b067_28 : decode cJ2_getChar_3b067 28 = .ok (.iload_n 1, 1) := by decide +kernel
theorem dJ2_getChar_3b067_29 : decode cJ2_getChar_3b067 29 = .ok (.iconst 1, 1) := by decide +kernel
theorem dJ2_getChar_3b067_30 : decode cJ2_getChar_3b067 30 = .ok (.ishl, 1) := by decide +kernel
theorem dJ2_getChar_3b067_31 : decode cJ2_getChar_3b067 31 = .ok (.istore_n 1, 1) := by decide +kernel
theorem dJ2_getChar_3b067_32 : decode cJ2_getChar_3b067 32 = .ok (.aload_n 0, 1) := by decide +kernel
theorem dJ2_getChar_3b067_33 : decode cJ2_getChar_3b067 33 = .ok (.iload_n 1, 1) := by decide +kernel
theorem dJ2_getChar_3b067_34 : decode cJ2_getChar_3b067 34 = .ok (.iinc 1 1, 3) := by decide +kernel
theorem dJ2_getChar_3b067_37 : decode cJ2_getChar_3b067 37 = .ok (.baload, 1) := by decide +kernel
theorem dJ2_getChar_3b067_38 : decode cJ2_getChar_3b067 38 = .ok (.sipush 255, 3) := by decide +kernel
theorem dJ2_getChar_3b067_41 : decode cJ2_getChar_3b067 41 = .ok (.iand, 1) := by decide +kernel
theorem dJ2_getChar_3b067_42 : decode cJ2_getChar_3b067 42 = .ok (.getstatic 59, 3) := by decide +kernel
theorem dJ2_getChar_3b067_45 : decode cJ2_getChar_3b067 45 = .ok (.ishl, 1) := by decide +kernel
theorem dJ2_getChar_3b067_46 : decode cJ2_getChar_3b067 46 = .ok (.aload_n 0, 1) := by decide +kernel
theorem dJ2_getChar_3b067_47 : decode cJ2_getChar_3b067 47 = .ok (.iload_n 1, 1) := by decide +kernel
theorem dJ2_getChar_3b067_48 : decode cJ2_getChar_3b067 48 = .ok (.baload, 1) := by decide +kernel
theorem dJ2_getChar_3b067_49 : decode cJ2_getChar_3b067 49 = .ok (.sipush 255, 3) := by decide +kernel
theorem dJ2_getChar_3b067_52 : decode cJ2_getChar_3b067 52 = .ok (.iand, 1) := by decide +kernel
theorem dJ2_getChar_3b067_53 : decode cJ2_getChar_3b067 53 = .ok (.getstatic 63, 3) := by decide +kernel
theorem dJ2_getChar_3b067_56 : decode cJ2_getChar_3b067 56 = .ok (.ishl, 1) := by decide +kernel
theorem dJ2_getChar_3b067_57 : decode cJ2_getChar_3b067 57 = .ok (.ior, 1) := by decide +kernel
theorem dJ2_getChar_3b067_58 : decode cJ2_getChar_3b067 58 = .ok (.i2c, 1) := by decide +kernel
theorem dJ2_getChar_3b067_59 : decode cJ2_getChar_3b067 59 = .ok (.ireturn, 1) := by decide +kernel
theorem dJ2_length_9d52b_0 : decode cJ2_length_9d52b 0 = .ok (.aload_n 0, 1) := by decide +kernel
theorem dJ2_length_9d52b_1 : decode cJ2_length_9d52b 1 = .ok (.arraylength, 1) := by decide +kernel
theorem dJ2_length_9d52b_2 : decode cJ2_length_9d52b 2 = .ok (.iconst 1, 1) := by decide +kernel
theorem dJ2_length_9d52b_3 : decode cJ2_length_9d52b 3 = .ok (.ishr, 1) := by decide +kernel
theorem dJ2_length_9d52b_4 : decode cJ2_length_9d52b 4 = .ok (.ireturn, 1) := by decide +kernel
theorem dJ2_charAt_3b067_0 : decode cJ2_charAt_3b067 0 = .ok (.iload_n 1, 1) := by decide +kernel
theorem dJ2_charAt_3b067_1 : decode cJ2_charAt_3b067 1 = .ok (.aload_n 0, 1) := by decide +kernel
theorem dJ2_charAt_3b067_2 : decode cJ2_charAt_3b067 2 = .ok (.invokestatic 67, 3) := by decide +kernel
theorem dJ2_charAt_3b067_5 : decode cJ2_charAt_3b067 5 = .ok (.aload_n 0, 1) := by decide +kernel
theorem dJ2_charAt_3b067_6 : decode cJ2_charAt_3b067 6 = .ok (.iload_n 1, 1) := by decide +kernel
theorem dJ2_charAt_3b067_7 : decode cJ2_charAt_3b067 7 = .ok (.invokestatic 71, 3) := by decide +kernel
theorem dJ2_charAt_3b067_10 : decode cJ2_charAt_3b067 10 = .ok (.ireturn, 1) := by decide +kernel
theorem dJ2_checkIndex_2214a_0 : decode cJ2_checkIndex_2214a 0 = .ok (.iload_n 0, 1) := by decide +kernel
theorem dJ2_checkIndex_2214a_1 : decode cJ2_checkIndex_2214a 1 = .ok (.aload_n 1, 1) := by decide +kernel
theorem dJ2_checkIndex_2214a_2 : decode cJ2_checkIndex_2214a 2 = .ok (.invokestatic 48, 3) := by decide +kernel
theorem dJ2_checkIndex_2214a_5 : decode cJ2_checkIndex_2214a 5 = .ok (.invokestatic 414, 3) := by decide +kernel
theorem dJ2_checkIndex_2214a_8 : decode cJ2_checkIndex_2214a 8 = .ok (.return_, 1) := by decide +kernel
theorem dJ3_checkIndex_8e157_0 : decode cJ3_checkIndex_8e157 0 = .ok (.iload_n 0, 1) := by decide +kernel
theorem dJ3_checkIndex_8e157_1 : decode cJ3_checkIndex_8e157 1 = .ok (.ifCond .lt 8, 3) := by decide +kernel
theorem dJ3_checkIndex_8e157_4 : decode cJ3_checkIndex_8e157 4 = .ok (.iload_n 0, 1) := by decide +kernel
theorem dJ3_checkIndex_8e157_5 : decode cJ3_checkIndex_8e157 5 = .ok (.iload_n 1, 1) := by decide +kernel
theorem dJ3_checkIndex_8e157_6 : decode cJ3_checkIndex_8e157 6 = .ok (.if_icmp .lt 10, 3) := by decide +kernel
theorem dJ3_checkIndex_8e157_9 : decode cJ3_checkIndex_8e157 9 = .ok (.aload_n 2, 1) := by decide +kernel
theorem dJ3_checkIndex_8e157_10 : decode cJ3_checkIndex_8e157 10 = .ok (.iload_n 0, 1) := by decide +kernel
theorem dJ3_checkIndex_8e157_11 : decode cJ3_checkIndex_8e157 11 = .ok (.iload_n 1, 1) := by decide +kernel
theorem dJ3_checkIndex_8e157_12 : decode cJ3_checkIndex_8e157 12 = .ok (.invokestatic 95, 3) := by decide +kernel
theorem dJ3_checkIndex_8e157_15 : decode cJ3_checkIndex_8e157 15 = .ok (.athrow, 1) := by decide +kernel
theorem dJ3_checkIndex_8e157_16 : decode cJ3_checkIndex_8e157 16 = .ok (.iload_n 0, 1) := by decide +kernel
theorem dJ3_checkIndex_8e157_17 : decode cJ3_checkIndex_8e157 17 = .ok (.ireturn, 1) := by decide +kernel
theorem dL_part_0 : decode cL_part 0 = .ok (.iload_n 0, 1) := by decide +kernel
theorem dL_part_1 : decode cL_part 1 = .ok (.ldc 7, 2) := by decide +kernel
theorem dL_part_3 : decode cL_part 3 = .ok (.iand, 1) := by decide +kernel
theorem dL_part_4 : decode cL_part 4 = .ok (.iload_n 1, 1) := by decide +kernel
theorem dL_part_5 : decode cL_part 5 = .ok (.irem, 1) := by decide +kernel
theorem dL_part_6 : decode cL_part 6 = .ok (.ireturn, 1) := by decide +kernel
theorem dL_drawn_0 : decode cL_drawn 0 = .ok (.aload_n 0, 1) := by decide +kernel
theorem dL_drawn_1 : decode cL_drawn 1 = .ok (.arraylength, 1) := by decide +kernel
theorem dL_drawn_2 : decode cL_drawn 2 = .ok (.ifCond .ne 13, 3) := by decide +kernel
theorem dL_drawn_5 : decode cL_drawn 5 = .ok (.sipush 7919, 3) := by decide +kernel
theorem dL_drawn_8 : decode cL_drawn 8 = .ok (.iload_n 1, 1) := by decide +kernel
theorem dL_drawn_9 : decode cL_drawn 9 = .ok (.imul, 1) := by decide +kernel
theorem dL_drawn_10 : decode cL_drawn 10 = .ok (.iconst 3, 1) := by decide +kernel
theorem dL_drawn_11 : decode cL_drawn 11 = .ok (.iadd, 1) := by decide +kernel
theorem dL_drawn_12 : decode cL_drawn 12 = .ok (.goto 27, 3) := by decide +kernel
theorem dL_drawn_15 : decode cL_drawn 15 = .ok (.aload_n 0, 1) := by decide +kernel
theorem dL_drawn_16 : decode cL_drawn 16 = .ok (.iload_n 1, 1) := by decide +kernel
theorem dL_drawn_17 : decode cL_drawn 17 = .ok (.aload_n 0, 1) := by decide +kernel
theorem dL_drawn_18 : decode cL_drawn 18 = .ok (.arraylength, 1) := by decide +kernel
theorem dL_drawn_19 : decode cL_drawn 19 = .ok (.irem, 1) := by decide +kernel
theorem dL_drawn_20 : decode cL_drawn 20 = .ok (.iaload, 1) := by decide +kernel
theorem dL_drawn_21 : decode cL_drawn 21 = .ok (.iload_n 1, 1) := by decide +kernel
theorem dL_drawn_22 : decode cL_drawn 22 = .ok (.bipush 7, 2) := by decide +kernel
theorem dL_drawn_24 : decode cL_drawn 24 = .ok (.irem, 1) := by decide +kernel
theorem dL_drawn_25 : decode cL_drawn 25 = .ok (.ishr, 1) := by decide +kernel
theorem dL_drawn_26 : decode cL_drawn 26 = .ok (.iload_n 1, 1) := by decide +kernel
theorem dL_drawn_27 : decode cL_drawn 27 = .ok (.aload_n 0, 1) := by decide +kernel
theorem dL_drawn_28 : decode cL_drawn 28 = .ok (.arraylength, 1) := by decide +kernel
theorem dL_drawn_29 : decode cL_drawn 29 = .ok (.idiv, 1) := by decide +kernel
theorem dL_drawn_30 : decode cL_drawn 30 = .ok (.bipush 31, 2) := by decide +kernel
theorem dL_drawn_32 : decode cL_drawn 32 = .ok (.imul, 1) := by decide +kernel
theorem dL_drawn_33 : decode cL_drawn 33 = .ok (.ixor, 1) := by decide +kernel
theorem dL_drawn_34 : decode cL_drawn 34 = .ok (.iload_n 1, 1) := by decide +kernel
theorem dL_drawn_35 : decode cL_drawn 35 = .ok (.ldc 8, 2) := by decide +kernel
theorem dL_drawn_37 : decode cL_drawn 37 = .ok (.imul, 1) := by decide +kernel
theorem dL_drawn_38 : decode cL_drawn 38 = .ok (.ixor, 1) := by decide +kernel
theorem dL_drawn_39 : decode cL_drawn 39 = .ok (.ireturn, 1) := by decide +kernel
theorem dL_call_0 : decode cL_call 0 = .ok (.iload_n 1, 1) := by decide +kernel
theorem dL_call_1 : decode cL_call 1 = .ok (.tableswitch 224 0 16 #[83, 92, 103, 112, 123, 130, 137, 143, 148, 153, 164, 173, 182, 189, 195, 206, 217], 83) := by decide +kernel
theorem dL_call_84 : decode cL_call 84 = .ok (.aload_n 0, 1) := by decide +kernel
theorem dL_call_85 : decode cL_call 85 = .ok (.iload_n 2, 1) := by decide +kernel
theorem dL_call_86 : decode cL_call 86 = .ok (.iload_n 3, 1) := by decide +kernel
theorem dL_call_87 : decode cL_call 87 = .ok (.iload 4, 2) := by decide +kernel
theorem dL_call_89 : decode cL_call 89 = .ok (.invokevirtual 9, 3) := by decide +kernel
theorem dL_call_92 : decode cL_call 92 = .ok (.ireturn, 1) := by decide +kernel
theorem dL_call_93 : decode cL_call 93 = .ok (.aload_n 0, 1) := by decide +kernel
theorem dL_call_94 : decode cL_call 94 = .ok (.iload_n 2, 1) := by decide +kernel
theorem dL_call_95 : decode cL_call 95 = .ok (.iload_n 3, 1) := by decide +kernel
theorem dL_call_96 : decode cL_call 96 = .ok (.iload 4, 2) := by decide +kernel
theorem dL_call_98 : decode cL_call 98 = .ok (.iload 5, 2) := by decide +kernel
theorem dL_call_100 : decode cL_call 100 = .ok (.invokevirtual 15, 3) := by decide +kernel
theorem dL_call_103 : decode cL_call 103 = .ok (.ireturn, 1) := by decide +kernel
theorem dL_call_104 : decode cL_call 104 = .ok (.aload_n 0, 1) := by decide +kernel
theorem dL_call_105 : decode cL_call 105 = .ok (.iload_n 2, 1) := by decide +kernel
theorem dL_call_106 : decode cL_call 106 = .ok (.iload_n 3, 1) := by decide +kernel
theorem dL_call_107 : decode cL_call 107 = .ok (.iload 4, 2) := by decide +kernel
theorem dL_call_109 : decode cL_call 109 = .ok (.invokevirtual 19, 3) := by decide +kernel
theorem dL_call_112 : decode cL_call 112 = .ok (.ireturn, 1) := by decide +kernel
theorem dL_call_113 : decode cL_call 113 = .ok (.aload_n 0, 1) := by decide +kernel
theorem dL_call_114 : decode cL_call 114 = .ok (.iload_n 2, 1) := by decide +kernel
theorem dL_call_115 : decode cL_call 115 = .ok (.iload_n 3, 1) := by decide +kernel
theorem dL_call_116 : decode cL_call 116 = .ok (.iload 4, 2) := by decide +kernel
theorem dL_call_118 : decode cL_call 118 = .ok (.iload 5, 2) := by decide +kernel
theorem dL_call_120 : decode cL_call 120 = .ok (.invokevirtual 22, 3) := by decide +kernel
theorem dL_call_123 : decode cL_call 123 = .ok (.ireturn, 1) := by decide +kernel
theorem dL_call_124 : decode cL_call 124 = .ok (.aload_n 0, 1) := by decide +kernel
theorem dL_call_125 : decode cL_call 125 = .ok (.iload_n 2, 1) := by decide +kernel
theorem dL_call_126 : decode cL_call 126 = .ok (.iload_n 3, 1) := by decide +kernel
theorem dL_call_127 : decode cL_call 127 = .ok (.invokevirtual 25, 3) := by decide +kernel
theorem dL_call_130 : decode cL_call 130 = .ok (.ireturn, 1) := by decide +kernel
theorem dL_call_131 : decode cL_call 131 = .ok (.aload_n 0, 1) := by decide +kernel
theorem dL_call_132 : decode cL_call 132 = .ok (.iload_n 2, 1) := by decide +kernel
theorem dL_call_133 : decode cL_call 133 = .ok (.iload_n 3, 1) := by decide +kernel
theorem dL_call_134 : decode cL_call 134 = .ok (.invokevirtual 29, 3) := by decide +kernel
theorem dL_call_137 : decode cL_call 137 = .ok (.ireturn, 1) := by decide +kernel
theorem dL_call_138 : decode cL_call 138 = .ok (.aload_n 0, 1) := by decide +kernel
theorem dL_call_139 : decode cL_call 139 = .ok (.iload_n 2, 1) := by decide +kernel
theorem dL_call_140 : decode cL_call 140 = .ok (.invokevirtual 32, 3) := by decide +kernel
theorem dL_call_143 : decode cL_call 143 = .ok (.ireturn, 1) := by decide +kernel
theorem dL_call_144 : decode cL_call 144 = .ok (.aload_n 0, 1) := by decide +kernel
theorem dL_call_145 : decode cL_call 145 = .ok (.invokevirtual 36, 3) := by decide +kernel
theorem dL_call_148 : decode cL_call 148 = .ok (.ireturn, 1) := by decide +kernel
theorem dL_call_149 : decode cL_call 149 = .ok (.aload_n 0, 1) := by decide +kernel
theorem dL_call_150 : decode cL_call 150 = .ok (.invokevirtual 40, 3) := by decide +kernel
theorem dL_call_153 : decode cL_call 153 = .ok (.ireturn, 1) := by decide +kernel
theorem dL_call_154 : decode cL_call 154 = .ok (.aload_n 0, 1) := by decide +kernel
theorem dL_call_155 : decode cL_call 155 = .ok (.iload_n 2, 1) := by decide +kernel
theorem dL_call_156 : decode cL_call 156 = .ok (.iload_n 3, 1) := by decide +kernel
theorem dL_call_157 : decode cL_call 157 = .ok (.iload 4, 2) := by decide +kernel
theorem dL_call_159 : decode cL_call 159 = .ok (.iload 5, 2) := by decide +kernel
theorem dL_call_161 : decode cL_call 161 = .ok (.invokevirtual 43, 3) := by decide +kernel
theorem dL_call_164 : decode cL_call 164 = .ok (.ireturn, 1) := by decide +kernel
theorem dL_call_165 : decode cL_call 165 = .ok (.aload_n 0, 1) := by decide +kernel
theorem dL_call_166 : decode cL_call 166 = .ok (.iload_n 2, 1) := by decide +kernel
theorem dL_call_167 : decode cL_call 167 = .ok (.iload_n 3, 1) := by decide +kernel
theorem dL_call_168 : decode cL_call 168 = .ok (.iload 4, 2) := by decide +kernel
theorem dL_call_170 : decode cL_call 170 = .ok (.invokevirtual 46, 3) := by decide +kernel
theorem dL_call_173 : decode cL_call 173 = .ok (.ireturn, 1) := by decide +kernel
theorem dL_call_174 : decode cL_call 174 = .ok (.aload_n 0, 1) := by decide +kernel
theorem dL_call_175 : decode cL_call 175 = .ok (.iload_n 2, 1) := by decide +kernel
theorem dL_call_176 : decode cL_call 176 = .ok (.iload_n 3, 1) := by decide +kernel
theorem dL_call_177 : decode cL_call 177 = .ok (.iload 4, 2) := by decide +kernel
theorem dL_call_179 : decode cL_call 179 = .ok (.invokevirtual 49, 3) := by decide +kernel
theorem dL_call_182 : decode cL_call 182 = .ok (.ireturn, 1) := by decide +kernel
theorem dL_call_183 : decode cL_call 183 = .ok (.aload_n 0, 1) := by decide +kernel
theorem dL_call_184 : decode cL_call 184 = .ok (.iload_n 2, 1) := by decide +kernel
theorem dL_call_185 : decode cL_call 185 = .ok (.iload_n 3, 1) := by decide +kernel
theorem dL_call_186 : decode cL_call 186 = .ok (.invokevirtual 52, 3) := by decide +kernel
theorem dL_call_189 : decode cL_call 189 = .ok (.ireturn, 1) := by decide +kernel
theorem dL_call_190 : decode cL_call 190 = .ok (.aload_n 0, 1) := by decide +kernel
theorem dL_call_191 : decode cL_call 191 = .ok (.iload_n 2, 1) := by decide +kernel
theorem dL_call_192 : decode cL_call 192 = .ok (.invokevirtual 55, 3) := by decide +kernel
theorem dL_call_195 : decode cL_call 195 = .ok (.ireturn, 1) := by decide +kernel
theorem dL_call_196 : decode cL_call 196 = .ok (.aload_n 0, 1) := by decide +kernel
theorem dL_call_197 : decode cL_call 197 = .ok (.iload_n 2, 1) := by decide +kernel
theorem dL_call_198 : decode cL_call 198 = .ok (.iload_n 3, 1) := by decide +kernel
theorem dL_call_199 : decode cL_call 199 = .ok (.iload 4, 2) := by decide +kernel
theorem dL_call_201 : decode cL_call 201 = .ok (.iload 5, 2) := by decide +kernel
theorem dL_call_203 : decode cL_call 203 = .ok (.invokevirtual 58, 3) := by decide +kernel
theorem dL_call_206 : decode cL_call 206 = .ok (.ireturn, 1) := by decide +kernel
theorem dL_call_207 : decode cL_call 207 = .ok (.aload_n 0, 1) := by decide +kernel
theorem dL_call_208 : decode cL_call 208 = .ok (.iload_n 2, 1) := by decide +kernel
theorem dL_call_209 : decode cL_call 209 = .ok (.iload_n 3, 1) := by decide +kernel
theorem dL_call_210 : decode cL_call 210 = .ok (.iload 4, 2) := by decide +kernel
theorem dL_call_212 : decode cL_call 212 = .ok (.iload 5, 2) := by decide +kernel
theorem dL_call_214 : decode cL_call 214 = .ok (.invokevirtual 61, 3) := by decide +kernel
theorem dL_call_217 : decode cL_call 217 = .ok (.ireturn, 1) := by decide +kernel
theorem dL_call_218 : decode cL_call 218 = .ok (.aload_n 0, 1) := by decide +kernel
theorem dL_call_219 : decode cL_call 219 = .ok (.iload_n 2, 1) := by decide +kernel
theorem dL_call_220 : decode cL_call 220 = .ok (.iload_n 3, 1) := by decide +kernel
theorem dL_call_221 : decode cL_call 221 = .ok (.invokevirtual 64, 3) := by decide +kernel
theorem dL_call_224 : decode cL_call 224 = .ok (.ireturn, 1) := by decide +kernel
theorem dL_call_225 : decode cL_call 225 = .ok (.aload_n 0, 1) := by decide +kernel
theorem dL_call_226 : decode cL_call 226 = .ok (.invokevirtual 67, 3) := by decide +kernel
theorem dL_call_229 : decode cL_call 229 = .ok (.ireturn, 1) := by decide +kernel
theorem dL_told_0 : decode cL_told 0 = .ok (.aload_n 0, 1) := by decide +kernel
theorem dL_told_1 : decode cL_told 1 = .ok (.iload_n 1, 1) := by decide +kernel
theorem dL_told_2 : decode cL_told 2 = .ok (.iload_n 2, 1) := by decide +kernel
theorem dL_told_3 : decode cL_told 3 = .ok (.iload_n 3, 1) := by decide +kernel
theorem dL_told_4 : decode cL_told 4 = .ok (.iload 4, 2) := by decide +kernel
theorem dL_told_6 : decode cL_told 6 = .ok (.iload 5, 2) := by decide +kernel
theorem dL_told_8 : decode cL_told 8 = .ok (.invokestatic 70, 3) := by decide +kernel
theorem dL_told_11 : decode cL_told 11 = .ok (.ireturn, 1) := by decide +kernel
theorem dL_told_12 : decode cL_told 12 = .ok (.astore 6, 2) := by decide +kernel
theorem dL_told_14 : decode cL_told 14 = .ok (.bipush (-11), 2) := by decide +kernel
theorem dL_told_16 : decode cL_told 16 = .ok (.ireturn, 1) := by decide +kernel
theorem dL_told_17 : decode cL_told 17 = .ok (.astore 6, 2) := by decide +kernel
theorem dL_told_19 : decode cL_told 19 = .ok (.bipush (-12), 2) := by decide +kernel
theorem dL_told_21 : decode cL_told 21 = .ok (.ireturn, 1) := by decide +kernel
theorem dL_told_22 : decode cL_told 22 = .ok (.astore 6, 2) := by decide +kernel
theorem dL_told_24 : decode cL_told 24 = .ok (.bipush (-13), 2) := by decide +kernel
theorem dL_told_26 : decode cL_told 26 = .ok (.ireturn, 1) := by decide +kernel
theorem dL_seen_0 : decode cL_seen 0 = .ok (.ldc2_w 82, 3) := by decide +kernel
theorem dL_seen_3 : decode cL_seen 3 = .ok (.lstore_n 1, 1) := by decide +kernel
theorem dL_seen_4 : decode cL_seen 4 = .ok (.iconst 0, 1) := by decide +kernel
theorem dL_seen_5 : decode cL_seen 5 = .ok (.istore_n 3, 1) := by decide +kernel
theorem dL_seen_6 : decode cL_seen 6 = .ok (.iload_n 3, 1) := by decide +kernel
theorem dL_seen_7 : decode cL_seen 7 = .ok (.bipush 7, 2) := by decide +kernel
theorem dL_seen_9 : decode cL_seen 9 = .ok (.if_icmp .ge 22, 3) := by decide +kernel
theorem dL_seen_12 : decode cL_seen 12 = .ok (.ldc2_w 84, 3) := by decide +kernel
theorem dL_seen_15 : decode cL_seen 15 = .ok (.lload_n 1, 1) := by decide +kernel
theorem dL_seen_16 : decode cL_seen 16 = .ok (.lmul, 1) := by decide +kernel
theorem dL_seen_17 : decode cL_seen 17 = .ok (.aload_n 0, 1) := by decide +kernel
theorem dL_seen_18 : decode cL_seen 18 = .ok (.iload_n 3, 1) := by decide +kernel
theorem dL_seen_19 : decode cL_seen 19 = .ok (.invokevirtual 55, 3) := by decide +kernel
theorem dL_seen_22 : decode cL_seen 22 = .ok (.i2l, 1) := by decide +kernel
theorem dL_seen_23 : decode cL_seen 23 = .ok (.ladd, 1) := by decide +kernel
theorem dL_seen_24 : decode cL_seen 24 = .ok (.lstore_n 1, 1) := by decide +kernel
theorem dL_seen_25 : decode cL_seen 25 = .ok (.iinc 3 1, 3) := by decide +kernel
theorem dL_seen_28 : decode cL_seen 28 = .ok (.goto (-22), 3) := by decide +kernel
theorem dL_seen_31 : decode cL_seen 31 = .ok (.iconst 0, 1) := by decide +kernel
theorem dL_seen_32 : decode cL_seen 32 = .ok (.istore_n 3, 1) := by decide +kernel
theorem dL_seen_33 : decode cL_seen 33 = .ok (.iload_n 3, 1) := by decide +kernel
theorem dL_seen_34 : decode cL_seen 34 = .ok (.bipush 36, 2) := by decide +kernel
theorem dL_seen_36 : decode cL_seen 36 = .ok (.if_icmp .ge 50, 3) := by decide +kernel
theorem dL_seen_39 : decode cL_seen 39 = .ok (.iconst 0, 1) := by decide +kernel
theorem dL_seen_40 : decode cL_seen 40 = .ok (.istore 4, 2) := by decide +kernel
theorem dL_seen_42 : decode cL_seen 42 = .ok (.iload 4, 2) := by decide +kernel
theorem dL_seen_44 : decode cL_seen 44 = .ok (.iconst 5, 1) := by decide +kernel
theorem dL_seen_45 : decode cL_seen 45 = .ok (.if_icmp .ge 35, 3) := by decide +kernel
theorem dL_seen_48 : decode cL_seen 48 = .ok (.ldc2_w 84, 3) := by decide +kernel
theorem dL_seen_51 : decode cL_seen 51 = .ok (.lload_n 1, 1) := by decide +kernel
theorem dL_seen_52 : decode cL_seen 52 = .ok (.lmul, 1) := by decide +kernel
theorem dL_seen_53 : decode cL_seen 53 = .ok (.aload_n 0, 1) := by decide +kernel
theorem dL_seen_54 : decode cL_seen 54 = .ok (.iload_n 3, 1) := by decide +kernel
theorem dL_seen_55 : decode cL_seen 55 = .ok (.bipush 12, 2) := by decide +kernel
theorem dL_seen_57 : decode cL_seen 57 = .ok (.idiv, 1) := by decide +kernel
theorem dL_seen_58 : decode cL_seen 58 = .ok (.iload_n 3, 1) := by decide +kernel
theorem dL_seen_59 : decode cL_seen 59 = .ok (.iconst 4, 1) := by decide +kernel
theorem dL_seen_60 : decode cL_seen 60 = .ok (.idiv, 1) := by decide +kernel
theorem dL_seen_61 : decode cL_seen 61 = .ok (.iconst 3, 1) := by decide +kernel
theorem dL_seen_62 : decode cL_seen 62 = .ok (.irem, 1) := by decide +kernel
theorem dL_seen_63 : decode cL_seen 63 = .ok (.iload_n 3, 1) := by decide +kernel
theorem dL_seen_64 : decode cL_seen 64 = .ok (.iconst 4, 1) := by decide +kernel
theorem dL_seen_65 : decode cL_seen 65 = .ok (.irem, 1) := by decide +kernel
theorem dL_seen_66 : decode cL_seen 66 = .ok (.iload 4, 2) := by decide +kernel
theorem dL_seen_68 : decode cL_seen 68 = .ok (.invokevirtual 43, 3) := by decide +kernel
theorem dL_seen_71 : decode cL_seen 71 = .ok (.i2l, 1) := by decide +kernel
theorem dL_seen_72 : decode cL_seen 72 = .ok (.ladd, 1) := by decide +kernel
theorem dL_seen_73 : decode cL_seen 73 = .ok (.lstore_n 1, 1) := by decide +kernel
theorem dL_seen_74 : decode cL_seen 74 = .ok (.iinc 4 1, 3) := by decide +kernel
theorem dL_seen_77 : decode cL_seen 77 = .ok (.goto (-35), 3) := by decide +kernel
theorem dL_seen_80 : decode cL_seen 80 = .ok (.iinc 3 1, 3) := by decide +kernel
theorem dL_seen_83 : decode cL_seen 83 = .ok (.goto (-50), 3) := by decide +kernel
theorem dL_seen_86 : decode cL_seen 86 = .ok (.iconst 0, 1) := by decide +kernel
theorem dL_seen_87 : decode cL_seen 87 = .ok (.istore_n 3, 1) := by decide +kernel
theorem dL_seen_88 : decode cL_seen 88 = .ok (.iload_n 3, 1) := by decide +kernel
theorem dL_seen_89 : decode cL_seen 89 = .ok (.bipush 45, 2) := by decide +kernel
theorem dL_seen_91 : decode cL_seen 91 = .ok (.if_icmp .ge 33, 3) := by decide +kernel
theorem dL_seen_94 : decode cL_seen 94 = .ok (.ldc2_w 84, 3) := by decide +kernel
theorem dL_seen_97 : decode cL_seen 97 = .ok (.lload_n 1, 1) := by decide +kernel
theorem dL_seen_98 : decode cL_seen 98 = .ok (.lmul, 1) := by decide +kernel
theorem dL_seen_99 : decode cL_seen 99 = .ok (.aload_n 0, 1) := by decide +kernel
theorem dL_seen_100 : decode cL_seen 100 = .ok (.iload_n 3, 1) := by decide +kernel
theorem dL_seen_101 : decode cL_seen 101 = .ok (.bipush 15, 2) := by decide +kernel
theorem dL_seen_103 : decode cL_seen 103 = .ok (.idiv, 1) := by decide +kernel
theorem dL_seen_104 : decode cL_seen 104 = .ok (.iload_n 3, 1) := by decide +kernel
theorem dL_seen_105 : decode cL_seen 105 = .ok (.iconst 5, 1) := by decide +kernel
theorem dL_seen_106 : decode cL_seen 106 = .ok (.idiv, 1) := by decide +kernel
theorem dL_seen_107 : decode cL_seen 107 = .ok (.iconst 3, 1) := by decide +kernel
theorem dL_seen_108 : decode cL_seen 108 = .ok (.irem, 1) := by decide +kernel
theorem dL_seen_109 : decode cL_seen 109 = .ok (.iload_n 3, 1) := by decide +kernel
theorem dL_seen_110 : decode cL_seen 110 = .ok (.iconst 5, 1) := by decide +kernel
theorem dL_seen_111 : decode cL_seen 111 = .ok (.irem, 1) := by decide +kernel
theorem dL_seen_112 : decode cL_seen 112 = .ok (.invokevirtual 46, 3) := by decide +kernel
theorem dL_seen_115 : decode cL_seen 115 = .ok (.i2l, 1) := by decide +kernel
theorem dL_seen_116 : decode cL_seen 116 = .ok (.ladd, 1) := by decide +kernel
theorem dL_seen_117 : decode cL_seen 117 = .ok (.lstore_n 1, 1) := by decide +kernel
theorem dL_seen_118 : decode cL_seen 118 = .ok (.iinc 3 1, 3) := by decide +kernel
theorem dL_seen_121 : decode cL_seen 121 = .ok (.goto (-33), 3) := by decide +kernel
theorem dL_seen_124 : decode cL_seen 124 = .ok (.iconst 0, 1) := by decide +kernel
theorem dL_seen_125 : decode cL_seen 125 = .ok (.istore_n 3, 1) := by decide +kernel
theorem dL_seen_126 : decode cL_seen 126 = .ok (.iload_n 3, 1) := by decide +kernel
theorem dL_seen_127 : decode cL_seen 127 = .ok (.bipush 75, 2) := by decide +kernel
theorem dL_seen_129 : decode cL_seen 129 = .ok (.if_icmp .ge 33, 3) := by decide +kernel
theorem dL_seen_132 : decode cL_seen 132 = .ok (.ldc2_w 84, 3) := by decide +kernel
theorem dL_seen_135 : decode cL_seen 135 = .ok (.lload_n 1, 1) := by decide +kernel
theorem dL_seen_136 : decode cL_seen 136 = .ok (.lmul, 1) := by decide +kernel
theorem dL_seen_137 : decode cL_seen 137 = .ok (.aload_n 0, 1) := by decide +kernel
theorem dL_seen_138 : decode cL_seen 138 = .ok (.iload_n 3, 1) := by decide +kernel
theorem dL_seen_139 : decode cL_seen 139 = .ok (.bipush 15, 2) := by decide +kernel
theorem dL_seen_141 : decode cL_seen 141 = .ok (.idiv, 1) := by decide +kernel
theorem dL_seen_142 : decode cL_seen 142 = .ok (.iload_n 3, 1) := by decide +kernel
theorem dL_seen_143 : decode cL_seen 143 = .ok (.iconst 5, 1) := by decide +kernel
theorem dL_seen_144 : decode cL_seen 144 = .ok (.idiv, 1) := by decide +kernel
theorem dL_seen_145 : decode cL_seen 145 = .ok (.iconst 3, 1) := by decide +kernel
theorem dL_seen_146 : decode cL_seen 146 = .ok (.irem, 1) := by decide +kernel
theorem dL_seen_147 : decode cL_seen 147 = .ok (.iload_n 3, 1) := by decide +kernel
theorem dL_seen_148 : decode cL_seen 148 = .ok (.iconst 5, 1) := by decide +kernel
theorem dL_seen_149 : decode cL_seen 149 = .ok (.irem, 1) := by decide +kernel
theorem dL_seen_150 : decode cL_seen 150 = .ok (.invokevirtual 49, 3) := by decide +kernel
theorem dL_seen_153 : decode cL_seen 153 = .ok (.i2l, 1) := by decide +kernel
theorem dL_seen_154 : decode cL_seen 154 = .ok (.ladd, 1) := by decide +kernel
theorem dL_seen_155 : decode cL_seen 155 = .ok (.lstore_n 1, 1) := by decide +kernel
theorem dL_seen_156 : decode cL_seen 156 = .ok (.iinc 3 1, 3) := by decide +kernel
theorem dL_seen_159 : decode cL_seen 159 = .ok (.goto (-33), 3) := by decide +kernel
theorem dL_seen_162 : decode cL_seen 162 = .ok (.iconst 0, 1) := by decide +kernel
theorem dL_seen_163 : decode cL_seen 163 = .ok (.istore_n 3, 1) := by decide +kernel
theorem dL_seen_164 : decode cL_seen 164 = .ok (.iload_n 3, 1) := by decide +kernel
theorem dL_seen_165 : decode cL_seen 165 = .ok (.bipush 24, 2) := by decide +kernel
theorem dL_seen_167 : decode cL_seen 167 = .ok (.if_icmp .ge 29, 3) := by decide +kernel
theorem dL_seen_170 : decode cL_seen 170 = .ok (.ldc2_w 84, 3) := by decide +kernel
theorem dL_seen_173 : decode cL_seen 173 = .ok (.lload_n 1, 1) := by decide +kernel
theorem dL_seen_174 : decode cL_seen 174 = .ok (.lmul, 1) := by decide +kernel
theorem dL_seen_175 : decode cL_seen 175 = .ok (.aload_n 0, 1) := by decide +kernel
theorem dL_seen_176 : decode cL_seen 176 = .ok (.iload_n 3, 1) := by decide +kernel
theorem dL_seen_177 : decode cL_seen 177 = .ok (.bipush 8, 2) := by decide +kernel
theorem dL_seen_179 : decode cL_seen 179 = .ok (.idiv, 1) := by decide +kernel
theorem dL_seen_180 : decode cL_seen 180 = .ok (.iload_n 3, 1) := by decide +kernel
theorem dL_seen_181 : decode cL_seen 181 = .ok (.bipush 8, 2) := by decide +kernel
theorem dL_seen_183 : decode cL_seen 183 = .ok (.irem, 1) := by decide +kernel
theorem dL_seen_184 : decode cL_seen 184 = .ok (.invokevirtual 52, 3) := by decide +kernel
theorem dL_seen_187 : decode cL_seen 187 = .ok (.i2l, 1) := by decide +kernel
theorem dL_seen_188 : decode cL_seen 188 = .ok (.ladd, 1) := by decide +kernel
theorem dL_seen_189 : decode cL_seen 189 = .ok (.lstore_n 1, 1) := by decide +kernel
theorem dL_seen_190 : decode cL_seen 190 = .ok (.iinc 3 1, 3) := by decide +kernel
theorem dL_seen_193 : decode cL_seen 193 = .ok (.goto (-29), 3) := by decide +kernel
theorem dL_seen_196 : decode cL_seen 196 = .ok (.lload_n 1, 1) := by decide +kernel
theorem dL_seen_197 : decode cL_seen 197 = .ok (.lreturn, 1) := by decide +kernel
theorem dL_refusesAll_0 : decode cL_refusesAll 0 = .ok (.iconst 1, 1) := by decide +kernel
theorem dL_refusesAll_1 : decode cL_refusesAll 1 = .ok (.istore 4, 2) := by decide +kernel
theorem dL_refusesAll_3 : decode cL_refusesAll 3 = .ok (.iconst 0, 1) := by decide +kernel
theorem dL_refusesAll_4 : decode cL_refusesAll 4 = .ok (.istore 5, 2) := by decide +kernel
theorem dL_refusesAll_6 : decode cL_refusesAll 6 = .ok (.iload 5, 2) := by decide +kernel
theorem dL_refusesAll_8 : decode cL_refusesAll 8 = .ok (.iconst 3, 1) := by decide +kernel
theorem dL_refusesAll_9 : decode cL_refusesAll 9 = .ok (.if_icmp .ge 159, 3) := by decide +kernel
theorem dL_refusesAll_12 : decode cL_refusesAll 12 = .ok (.iload_n 2, 1) := by decide +kernel
theorem dL_refusesAll_13 : decode cL_refusesAll 13 = .ok (.iload 5, 2) := by decide +kernel
theorem dL_refusesAll_15 : decode cL_refusesAll 15 = .ok (.ifCond .ne 8, 3) := by decide +kernel
theorem dL_refusesAll_18 : decode cL_refusesAll 18 = .ok (.bipush 100, 2) := by decide +kernel
theorem dL_refusesAll_20 : decode cL_refusesAll 20 = .ok (.goto 15, 3) := by decide +kernel
theorem dL_refusesAll_23 : decode cL_refusesAll 23 = .ok (.iload 5, 2) := by decide +kernel
theorem dL_refusesAll_25 : decode cL_refusesAll 25 = .ok (.iconst 1, 1) := by decide +kernel
theorem dL_refusesAll_26 : decode cL_refusesAll 26 = .ok (.if_icmp .ne 8, 3) := by decide +kernel
theorem dL_refusesAll_29 : decode cL_refusesAll 29 = .ok (.bipush 10, 2) := by decide +kernel
theorem dL_refusesAll_31 : decode cL_refusesAll 31 = .ok (.goto 4, 3) := by decide +kernel
theorem dL_refusesAll_34 : decode cL_refusesAll 34 = .ok (.iconst 1, 1) := by decide +kernel
theorem dL_refusesAll_35 : decode cL_refusesAll 35 = .ok (.idiv, 1) := by decide +kernel
theorem dL_refusesAll_36 : decode cL_refusesAll 36 = .ok (.bipush 10, 2) := by decide +kernel
theorem dL_refusesAll_38 : decode cL_refusesAll 38 = .ok (.irem, 1) := by decide +kernel
theorem dL_refusesAll_39 : decode cL_refusesAll 39 = .ok (.istore 6, 2) := by decide +kernel
theorem dL_refusesAll_41 : decode cL_refusesAll 41 = .ok (.iload 6, 2) := by decide +kernel
theorem dL_refusesAll_43 : decode cL_refusesAll 43 = .ok (.ifCond .ne 6, 3) := by decide +kernel
theorem dL_refusesAll_46 : decode cL_refusesAll 46 = .ok (.goto 116, 3) := by decide +kernel
theorem dL_refusesAll_49 : decode cL_refusesAll 49 = .ok (.iload 4, 2) := by decide +kernel
theorem dL_refusesAll_51 : decode cL_refusesAll 51 = .ok (.ifCond .eq 50, 3) := by decide +kernel
theorem dL_refusesAll_54 : decode cL_refusesAll 54 = .ok (.aload_n 0, 1) := by decide +kernel
theorem dL_refusesAll_55 : decode cL_refusesAll 55 = .ok (.iload_n 1, 1) := by decide +kernel
theorem dL_refusesAll_56 : decode cL_refusesAll 56 = .ok (.iload 5, 2) := by decide +kernel
theorem dL_refusesAll_58 : decode cL_refusesAll 58 = .ok (.ifCond .ne 7, 3) := by decide +kernel
theorem dL_refusesAll_61 : decode cL_refusesAll 61 = .ok (.iconst (-1), 1) := by decide +kernel
theorem dL_refusesAll_62 : decode cL_refusesAll 62 = .ok (.goto 4, 3) := by decide +kernel
theorem dL_refusesAll_65 : decode cL_refusesAll 65 = .ok (.iconst 1, 1) := by decide +kernel
theorem dL_refusesAll_66 : decode cL_refusesAll 66 = .ok (.iload 5, 2) := by decide +kernel
theorem dL_refusesAll_68 : decode cL_refusesAll 68 = .ok (.iconst 1, 1) := by decide +kernel
theorem dL_refusesAll_69 : decode cL_refusesAll 69 = .ok (.if_icmp .ne 7, 3) := by decide +kernel
theorem dL_refusesAll_72 : decode cL_refusesAll 72 = .ok (.iconst (-1), 1) := by decide +kernel
theorem dL_refusesAll_73 : decode cL_refusesAll 73 = .ok (.goto 4, 3) := by decide +kernel
theorem dL_refusesAll_76 : decode cL_refusesAll 76 = .ok (.iconst 0, 1) := by decide +kernel
theorem dL_refusesAll_77 : decode cL_refusesAll 77 = .ok (.iload 5, 2) := by decide +kernel
theorem dL_refusesAll_79 : decode cL_refusesAll 79 = .ok (.iconst 2, 1) := by decide +kernel
theorem dL_refusesAll_80 : decode cL_refusesAll 80 = .ok (.if_icmp .ne 7, 3) := by decide +kernel
theorem dL_refusesAll_83 : decode cL_refusesAll 83 = .ok (.iconst (-1), 1) := by decide +kernel
theorem dL_refusesAll_84 : decode cL_refusesAll 84 = .ok (.goto 4, 3) := by decide +kernel
theorem dL_refusesAll_87 : decode cL_refusesAll 87 = .ok (.iconst 2, 1) := by decide +kernel
theorem dL_refusesAll_88 : decode cL_refusesAll 88 = .ok (.iload_n 3, 1) := by decide +kernel
theorem dL_refusesAll_89 : decode cL_refusesAll 89 = .ok (.invokestatic 86, 3) := by decide +kernel
theorem dL_refusesAll_92 : decode cL_refusesAll 92 = .ok (.bipush (-11), 2) := by decide +kernel
theorem dL_refusesAll_94 : decode cL_refusesAll 94 = .ok (.if_icmp .ne 7, 3) := by decide +kernel
theorem dL_refusesAll_97 : decode cL_refusesAll 97 = .ok (.iconst 1, 1) := by decide +kernel
theorem dL_refusesAll_98 : decode cL_refusesAll 98 = .ok (.goto 4, 3) := by decide +kernel
theorem dL_refusesAll_101 : decode cL_refusesAll 101 = .ok (.iconst 0, 1) := by decide +kernel
theorem dL_refusesAll_102 : decode cL_refusesAll 102 = .ok (.istore 4, 2) := by decide +kernel
theorem dL_refusesAll_104 : decode cL_refusesAll 104 = .ok (.iload 4, 2) := by decide +kernel
theorem dL_refusesAll_106 : decode cL_refusesAll 106 = .ok (.ifCond .eq 53, 3) := by decide +kernel
theorem dL_refusesAll_109 : decode cL_refusesAll 109 = .ok (.aload_n 0, 1) := by decide +kernel
theorem dL_refusesAll_110 : decode cL_refusesAll 110 = .ok (.iload_n 1, 1) := by decide +kernel
theorem dL_refusesAll_111 : decode cL_refusesAll 111 = .ok (.iload 5, 2) := by decide +kernel
theorem dL_refusesAll_113 : decode cL_refusesAll 113 = .ok (.ifCond .ne 8, 3) := by decide +kernel
theorem dL_refusesAll_116 : decode cL_refusesAll 116 = .ok (.iload 6, 2) := by decide +kernel
theorem dL_refusesAll_118 : decode cL_refusesAll 118 = .ok (.goto 4, 3) := by decide +kernel
theorem dL_refusesAll_121 : decode cL_refusesAll 121 = .ok (.iconst 1, 1) := by decide +kernel
theorem dL_refusesAll_122 : decode cL_refusesAll 122 = .ok (.iload 5, 2) := by decide +kernel
theorem dL_refusesAll_124 : decode cL_refusesAll 124 = .ok (.iconst 1, 1) := by decide +kernel
theorem dL_refusesAll_125 : decode cL_refusesAll 125 = .ok (.if_icmp .ne 8, 3) := by decide +kernel
theorem dL_refusesAll_128 : decode cL_refusesAll 128 = .ok (.iload 6, 2) := by decide +kernel
theorem dL_refusesAll_130 : decode cL_refusesAll 130 = .ok (.goto 4, 3) := by decide +kernel
theorem dL_refusesAll_133 : decode cL_refusesAll 133 = .ok (.iconst 0, 1) := by decide +kernel
theorem dL_refusesAll_134 : decode cL_refusesAll 134 = .ok (.iload 5, 2) := by decide +kernel
theorem dL_refusesAll_136 : decode cL_refusesAll 136 = .ok (.iconst 2, 1) := by decide +kernel
theorem dL_refusesAll_137 : decode cL_refusesAll 137 = .ok (.if_icmp .ne 8, 3) := by decide +kernel
theorem dL_refusesAll_140 : decode cL_refusesAll 140 = .ok (.iload 6, 2) := by decide +kernel
theorem dL_refusesAll_142 : decode cL_refusesAll 142 = .ok (.goto 4, 3) := by decide +kernel
theorem dL_refusesAll_145 : decode cL_refusesAll 145 = .ok (.iconst 2, 1) := by decide +kernel
theorem dL_refusesAll_146 : decode cL_refusesAll 146 = .ok (.iload_n 3, 1) := by decide +kernel
theorem dL_refusesAll_147 : decode cL_refusesAll 147 = .ok (.invokestatic 86, 3) := by decide +kernel
theorem dL_refusesAll_150 : decode cL_refusesAll 150 = .ok (.bipush (-11), 2) := by decide +kernel
theorem dL_refusesAll_152 : decode cL_refusesAll 152 = .ok (.if_icmp .ne 7, 3) := by decide +kernel
theorem dL_refusesAll_155 : decode cL_refusesAll 155 = .ok (.iconst 1, 1) := by decide +kernel
theorem dL_refusesAll_156 : decode cL_refusesAll 156 = .ok (.goto 4, 3) := by decide +kernel
theorem dL_refusesAll_159 : decode cL_refusesAll 159 = .ok (.iconst 0, 1) := by decide +kernel
theorem dL_refusesAll_160 : decode cL_refusesAll 160 = .ok (.istore 4, 2) := by decide +kernel
theorem dL_refusesAll_162 : decode cL_refusesAll 162 = .ok (.iinc 5 1, 3) := by decide +kernel
theorem dL_refusesAll_165 : decode cL_refusesAll 165 = .ok (.goto (-159), 3) := by decide +kernel
theorem dL_refusesAll_168 : decode cL_refusesAll 168 = .ok (.iload 4, 2) := by decide +kernel
theorem dL_refusesAll_170 : decode cL_refusesAll 170 = .ok (.ireturn, 1) := by decide +kernel
theorem dL_refusesAny_0 : decode cL_refusesAny 0 = .ok (.aload_n 0, 1) := by decide +kernel
theorem dL_refusesAny_1 : decode cL_refusesAny 1 = .ok (.iconst 0, 1) := by decide +kernel
theorem dL_refusesAny_2 : decode cL_refusesAny 2 = .ok (.sipush 533, 3) := by decide +kernel
theorem dL_refusesAny_5 : decode cL_refusesAny 5 = .ok (.iconst 0, 1) := by decide +kernel
theorem dL_refusesAny_6 : decode cL_refusesAny 6 = .ok (.invokestatic 89, 3) := by decide +kernel
theorem dL_refusesAny_9 : decode cL_refusesAny 9 = .ok (.ifCond .eq 147, 3) := by decide +kernel
theorem dL_refusesAny_12 : decode cL_refusesAny 12 = .ok (.aload_n 0, 1) := by decide +kernel
theorem dL_refusesAny_13 : decode cL_refusesAny 13 = .ok (.iconst 1, 1) := by decide +kernel
theorem dL_refusesAny_14 : decode cL_refusesAny 14 = .ok (.sipush 533, 3) := by decide +kernel
theorem dL_refusesAny_17 : decode cL_refusesAny 17 = .ok (.sipush 999, 3) := by decide +kernel
theorem dL_refusesAny_20 : decode cL_refusesAny 20 = .ok (.invokestatic 89, 3) := by decide +kernel
theorem dL_refusesAny_23 : decode cL_refusesAny 23 = .ok (.ifCond .eq 133, 3) := by decide +kernel
theorem dL_refusesAny_26 : decode cL_refusesAny 26 = .ok (.aload_n 0, 1) := by decide +kernel
theorem dL_refusesAny_27 : decode cL_refusesAny 27 = .ok (.iconst 2, 1) := by decide +kernel
theorem dL_refusesAny_28 : decode cL_refusesAny 28 = .ok (.sipush 333, 3) := by decide +kernel
theorem dL_refusesAny_31 : decode cL_refusesAny 31 = .ok (.iconst 0, 1) := by decide +kernel
theorem dL_refusesAny_32 : decode cL_refusesAny 32 = .ok (.invokestatic 89, 3) := by decide +kernel
theorem dL_refusesAny_35 : decode cL_refusesAny 35 = .ok (.ifCond .eq 121, 3) := by decide +kernel
theorem dL_refusesAny_38 : decode cL_refusesAny 38 = .ok (.aload_n 0, 1) := by decide +kernel
theorem dL_refusesAny_39 : decode cL_refusesAny 39 = .ok (.iconst 3, 1) := by decide +kernel
theorem dL_refusesAny_40 : decode cL_refusesAny 40 = .ok (.sipush 533, 3) := by decide +kernel
theorem dL_refusesAny_43 : decode cL_refusesAny 43 = .ok (.bipush 99, 2) := by decide +kernel
theorem dL_refusesAny_45 : decode cL_refusesAny 45 = .ok (.invokestatic 89, 3) := by decide +kernel
theorem dL_refusesAny_48 : decode cL_refusesAny 48 = .ok (.ifCond .eq 108, 3) := by decide +kernel
theorem dL_refusesAny_51 : decode cL_refusesAny 51 = .ok (.aload_n 0, 1) := by decide +kernel
theorem dL_refusesAny_52 : decode cL_refusesAny 52 = .ok (.iconst 4, 1) := by decide +kernel
theorem dL_refusesAny_53 : decode cL_refusesAny 53 = .ok (.sipush 530, 3) := by decide +kernel
theorem dL_refusesAny_56 : decode cL_refusesAny 56 = .ok (.iconst 0, 1) := by decide +kernel
theorem dL_refusesAny_57 : decode cL_refusesAny 57 = .ok (.invokestatic 89, 3) := by decide +kernel
theorem dL_refusesAny_60 : decode cL_refusesAny 60 = .ok (.ifCond .eq 96, 3) := by decide +kernel
theorem dL_refusesAny_63 : decode cL_refusesAny 63 = .ok (.aload_n 0, 1) := by decide +kernel
theorem dL_refusesAny_64 : decode cL_refusesAny 64 = .ok (.iconst 5, 1) := by decide +kernel
theorem dL_refusesAny_65 : decode cL_refusesAny 65 = .ok (.sipush 530, 3) := by decide +kernel
theorem dL_refusesAny_68 : decode cL_refusesAny 68 = .ok (.iconst 0, 1) := by decide +kernel
theorem dL_refusesAny_69 : decode cL_refusesAny 69 = .ok (.invokestatic 89, 3) := by decide +kernel
theorem dL_refusesAny_72 : decode cL_refusesAny 72 = .ok (.ifCond .eq 84, 3) := by decide +kernel
theorem dL_refusesAny_75 : decode cL_refusesAny 75 = .ok (.aload_n 0, 1) := by decide +kernel
