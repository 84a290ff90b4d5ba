theorem dX0_init_0 : decode cX0_init 0 = .ok (.aload_n 0, 1) := by decide +kernel
theorem dX0_init_1 : decode cX0_init 1 = .ok (.invokespecial 3, 3) := by decide +kernel
theorem dX0_init_4 : decode cX0_init 4 = .ok (.aload_n 0, 1) := by decide +kernel
theorem dX0_init_5 : decode cX0_init 5 = .ok (.iconst 5, 1) := by decide +kernel
theorem dX0_init_6 : decode cX0_init 6 = .ok (.newarray .int, 2) := by decide +kernel
theorem dX0_init_8 : decode cX0_init 8 = .ok (.putfield 9, 3) := by decide +kernel
theorem dX0_init_11 : decode cX0_init 11 = .ok (.aload_n 0, 1) := by decide +kernel
theorem dX0_init_12 : decode cX0_init 12 = .ok (.iconst 4, 1) := by decide +kernel
theorem dX0_init_13 : decode cX0_init 13 = .ok (.newarray .int, 2) := by decide +kernel
theorem dX0_init_15 : decode cX0_init 15 = .ok (.putfield 15, 3) := by decide +kernel
theorem dX0_init_18 : decode cX0_init 18 = .ok (.aload_n 0, 1) := by decide +kernel
theorem dX0_init_19 : decode cX0_init 19 = .ok (.iconst 4, 1) := by decide +kernel
theorem dX0_init_20 : decode cX0_init 20 = .ok (.newarray .int, 2) := by decide +kernel
theorem dX0_init_22 : decode cX0_init 22 = .ok (.putfield 18, 3) := by decide +kernel
theorem dX0_init_25 : decode cX0_init 25 = .ok (.return_, 1) := by decide +kernel
theorem dX0_become_0 : decode cX0_become 0 = .ok (.aload_n 1, 1) := by decide +kernel
theorem dX0_become_1 : decode cX0_become 1 = .ok (.getfield 9, 3) := by decide +kernel
theorem dX0_become_4 : decode cX0_become 4 = .ok (.iconst 0, 1) := by decide +kernel
theorem dX0_become_5 : decode cX0_become 5 = .ok (.aload_n 0, 1) := by decide +kernel
theorem dX0_become_6 : decode cX0_become 6 = .ok (.getfield 9, 3) := by decide +kernel
theorem dX0_become_9 : decode cX0_become 9 = .ok (.iconst 0, 1) := by decide +kernel
theorem dX0_become_10 : decode cX0_become 10 = .ok (.iconst 5, 1) := by decide +kernel
theorem dX0_become_11 : decode cX0_become 11 = .ok (.invokestatic 21, 3) := by decide +kernel
theorem dX0_become_14 : decode cX0_become 14 = .ok (.aload_n 1, 1) := by decide +kernel
theorem dX0_become_15 : decode cX0_become 15 = .ok (.getfield 15, 3) := by decide +kernel
theorem dX0_become_18 : decode cX0_become 18 = .ok (.iconst 0, 1) := by decide +kernel
theorem dX0_become_19 : decode cX0_become 19 = .ok (.aload_n 0, 1) := by decide +kernel
theorem dX0_become_20 : decode cX0_become 20 = .ok (.getfield 15, 3) := by decide +kernel
theorem dX0_become_23 : decode cX0_become 23 = .ok (.iconst 0, 1) := by decide +kernel
theorem dX0_become_24 : decode cX0_become 24 = .ok (.iconst 4, 1) := by decide +kernel
theorem dX0_become_25 : decode cX0_become 25 = .ok (.invokestatic 21, 3) := by decide +kernel
theorem dX0_become_28 : decode cX0_become 28 = .ok (.aload_n 1, 1) := by decide +kernel
theorem dX0_become_29 : decode cX0_become 29 = .ok (.getfield 18, 3) := by decide +kernel
theorem dX0_become_32 : decode cX0_become 32 = .ok (.iconst 0, 1) := by decide +kernel
theorem dX0_become_33 : decode cX0_become 33 = .ok (.aload_n 0, 1) := by decide +kernel
theorem dX0_become_34 : decode cX0_become 34 = .ok (.getfield 18, 3) := by decide +kernel
theorem dX0_become_37 : decode cX0_become 37 = .ok (.iconst 0, 1) := by decide +kernel
theorem dX0_become_38 : decode cX0_become 38 = .ok (.iconst 4, 1) := by decide +kernel
theorem dX0_become_39 : decode cX0_become 39 = .ok (.invokestatic 21, 3) := by decide +kernel
theorem dX0_become_42 : decode cX0_become 42 = .ok (.aload_n 0, 1) := by decide +kernel
theorem dX0_become_43 : decode cX0_become 43 = .ok (.aload_n 1, 1) := by decide +kernel
theorem dX0_become_44 : decode cX0_become 44 = .ok (.getfield 27, 3) := by decide +kernel
theorem dX0_become_47 : decode cX0_become 47 = .ok (.putfield 27, 3) := by decide +kernel
theorem dX0_become_50 : decode cX0_become 50 = .ok (.return_, 1) := by decide +kernel
theorem dX0_has_0 : decode cX0_has 0 = .ok (.iconst 0, 1) := by decide +kernel
theorem dX0_has_1 : decode cX0_has 1 = .ok (.istore_n 2, 1) := by decide +kernel
theorem dX0_has_2 : decode cX0_has 2 = .ok (.iload_n 2, 1) := by decide +kernel
theorem dX0_has_3 : decode cX0_has 3 = .ok (.aload_n 0, 1) := by decide +kernel
theorem dX0_has_4 : decode cX0_has 4 = .ok (.getfield 27, 3) := by decide +kernel
theorem dX0_has_7 : decode cX0_has 7 = .ok (.if_icmp .ge 21, 3) := by decide +kernel
theorem dX0_has_10 : decode cX0_has 10 = .ok (.aload_n 0, 1) := by decide +kernel
theorem dX0_has_11 : decode cX0_has 11 = .ok (.getfield 15, 3) := by decide +kernel
theorem dX0_has_14 : decode cX0_has 14 = .ok (.iload_n 2, 1) := by decide +kernel
theorem dX0_has_15 : decode cX0_has 15 = .ok (.iaload, 1) := by decide +kernel
theorem dX0_has_16 : decode cX0_has 16 = .ok (.iload_n 1, 1) := by decide +kernel
theorem dX0_has_17 : decode cX0_has 17 = .ok (.if_icmp .ne 5, 3) := by decide +kernel
theorem dX0_has_20 : decode cX0_has 20 = .ok (.iconst 1, 1) := by decide +kernel
theorem dX0_has_21 : decode cX0_has 21 = .ok (.ireturn, 1) := by decide +kernel
theorem dX0_has_22 : decode cX0_has 22 = .ok (.iinc 2 1, 3) := by decide +kernel
theorem dX0_has_25 : decode cX0_has 25 = .ok (.goto (-23), 3) := by decide +kernel
theorem dX0_has_28 : decode cX0_has 28 = .ok (.iconst 0, 1) := by decide +kernel
theorem dX0_has_29 : decode cX0_has 29 = .ok (.ireturn, 1) := by decide +kernel
theorem dX0_hasOneOf_0 : decode cX0_hasOneOf 0 = .ok (.iconst 0, 1) := by decide +kernel
theorem dX0_hasOneOf_1 : decode cX0_hasOneOf 1 = .ok (.istore_n 2, 1) := by decide +kernel
theorem dX0_hasOneOf_2 : decode cX0_hasOneOf 2 = .ok (.iload_n 2, 1) := by decide +kernel
theorem dX0_hasOneOf_3 : decode cX0_hasOneOf 3 = .ok (.aload_n 0, 1) := by decide +kernel
theorem dX0_hasOneOf_4 : decode cX0_hasOneOf 4 = .ok (.getfield 27, 3) := by decide +kernel
theorem dX0_hasOneOf_7 : decode cX0_hasOneOf 7 = .ok (.if_icmp .ge 24, 3) := by decide +kernel
theorem dX0_hasOneOf_10 : decode cX0_hasOneOf 10 = .ok (.aload_n 0, 1) := by decide +kernel
theorem dX0_hasOneOf_11 : decode cX0_hasOneOf 11 = .ok (.getfield 15, 3) := by decide +kernel
theorem dX0_hasOneOf_14 : decode cX0_hasOneOf 14 = .ok (.iload_n 2, 1) := by decide +kernel
theorem dX0_hasOneOf_15 : decode cX0_hasOneOf 15 = .ok (.iaload, 1) := by decide +kernel
theorem dX0_hasOneOf_16 : decode cX0_hasOneOf 16 = .ok (.invokestatic 31, 3) := by decide +kernel
theorem dX0_hasOneOf_19 : decode cX0_hasOneOf 19 = .ok (.iload_n 1, 1) := by decide +kernel
theorem dX0_hasOneOf_20 : decode cX0_hasOneOf 20 = .ok (.if_icmp .ne 5, 3) := by decide +kernel
theorem dX0_hasOneOf_23 : decode cX0_hasOneOf 23 = .ok (.iconst 1, 1) := by decide +kernel
theorem dX0_hasOneOf_24 : decode cX0_hasOneOf 24 = .ok (.ireturn, 1) := by decide +kernel
theorem dX0_hasOneOf_25 : decode cX0_hasOneOf 25 = .ok (.iinc 2 1, 3) := by decide +kernel
theorem dX0_hasOneOf_28 : decode cX0_hasOneOf 28 = .ok (.goto (-26), 3) := by decide +kernel
theorem dX0_hasOneOf_31 : decode cX0_hasOneOf 31 = .ok (.iconst 0, 1) := by decide +kernel
theorem dX0_hasOneOf_32 : decode cX0_hasOneOf 32 = .ok (.ireturn, 1) := by decide +kernel
theorem dX0_hasSameSiblings_0 : decode cX0_hasSameSiblings 0 = .ok (.aload_n 0, 1) := by decide +kernel
theorem dX0_hasSameSiblings_1 : decode cX0_hasSameSiblings 1 = .ok (.getfield 27, 3) := by decide +kernel
theorem dX0_hasSameSiblings_4 : decode cX0_hasSameSiblings 4 = .ok (.aload_n 1, 1) := by decide +kernel
theorem dX0_hasSameSiblings_5 : decode cX0_hasSameSiblings 5 = .ok (.getfield 27, 3) := by decide +kernel
theorem dX0_hasSameSiblings_8 : decode cX0_hasSameSiblings 8 = .ok (.if_icmp .eq 5, 3) := by decide +kernel
theorem dX0_hasSameSiblings_11 : decode cX0_hasSameSiblings 11 = .ok (.iconst 0, 1) := by decide +kernel
theorem dX0_hasSameSiblings_12 : decode cX0_hasSameSiblings 12 = .ok (.ireturn, 1) := by decide +kernel
theorem dX0_hasSameSiblings_13 : decode cX0_hasSameSiblings 13 = .ok (.iconst 0, 1) := by decide +kernel
theorem dX0_hasSameSiblings_14 : decode cX0_hasSameSiblings 14 = .ok (.istore_n 2, 1) := by decide +kernel
theorem dX0_hasSameSiblings_15 : decode cX0_hasSameSiblings 15 = .ok (.iload_n 2, 1) := by decide +kernel
theorem dX0_hasSameSiblings_16 : decode cX0_hasSameSiblings 16 = .ok (.aload_n 0, 1) := by decide +kernel
theorem dX0_hasSameSiblings_17 : decode cX0_hasSameSiblings 17 = .ok (.getfield 27, 3) := by decide +kernel
theorem dX0_hasSameSiblings_20 : decode cX0_hasSameSiblings 20 = .ok (.if_icmp .ge 26, 3) := by decide +kernel
theorem dX0_hasSameSiblings_23 : decode cX0_hasSameSiblings 23 = .ok (.aload_n 0, 1) := by decide +kernel
theorem dX0_hasSameSiblings_24 : decode cX0_hasSameSiblings 24 = .ok (.getfield 15, 3) := by decide +kernel
theorem dX0_hasSameSiblings_27 : decode cX0_hasSameSiblings 27 = .ok (.iload_n 2, 1) := by decide +kernel
theorem dX0_hasSameSiblings_28 : decode cX0_hasSameSiblings 28 = .ok (.iaload, 1) := by decide +kernel
theorem dX0_hasSameSiblings_29 : decode cX0_hasSameSiblings 29 = .ok (.aload_n 1, 1) := by decide +kernel
theorem dX0_hasSameSiblings_30 : decode cX0_hasSameSiblings 30 = .ok (.getfield 15, 3) := by decide +kernel
theorem dX0_hasSameSiblings_33 : decode cX0_hasSameSiblings 33 = .ok (.iload_n 2, 1) := by decide +kernel
theorem dX0_hasSameSiblings_34 : decode cX0_hasSameSiblings 34 = .ok (.iaload, 1) := by decide +kernel
theorem dX0_hasSameSiblings_35 : decode cX0_hasSameSiblings 35 = .ok (.if_icmp .eq 5, 3) := by decide +kernel
theorem dX0_hasSameSiblings_38 : decode cX0_hasSameSiblings 38 = .ok (.iconst 0, 1) := by decide +kernel
theorem dX0_hasSameSiblings_39 : decode cX0_hasSameSiblings 39 = .ok (.ireturn, 1) := by decide +kernel
theorem dX0_hasSameSiblings_40 : decode cX0_hasSameSiblings 40 = .ok (.iinc 2 1, 3) := by decide +kernel
theorem dX0_hasSameSiblings_43 : decode cX0_hasSameSiblings 43 = .ok (.goto (-28), 3) := by decide +kernel
theorem dX0_hasSameSiblings_46 : decode cX0_hasSameSiblings 46 = .ok (.iconst 1, 1) := by decide +kernel
theorem dX0_hasSameSiblings_47 : decode cX0_hasSameSiblings 47 = .ok (.ireturn, 1) := by decide +kernel
theorem dX0_coveredBy_0 : decode cX0_coveredBy 0 = .ok (.iconst 0, 1) := by decide +kernel
theorem dX0_coveredBy_1 : decode cX0_coveredBy 1 = .ok (.istore_n 2, 1) := by decide +kernel
theorem dX0_coveredBy_2 : decode cX0_coveredBy 2 = .ok (.iconst 0, 1) := by decide +kernel
theorem dX0_coveredBy_3 : decode cX0_coveredBy 3 = .ok (.istore_n 3, 1) := by decide +kernel
theorem dX0_coveredBy_4 : decode cX0_coveredBy 4 = .ok (.iload_n 3, 1) := by decide +kernel
theorem dX0_coveredBy_5 : decode cX0_coveredBy 5 = .ok (.aload_n 0, 1) := by decide +kernel
theorem dX0_coveredBy_6 : decode cX0_coveredBy 6 = .ok (.getfield 27, 3) := by decide +kernel
theorem dX0_coveredBy_9 : decode cX0_coveredBy 9 = .ok (.if_icmp .ge 25, 3) := by decide +kernel
theorem dX0_coveredBy_12 : decode cX0_coveredBy 12 = .ok (.aload_n 1, 1) := by decide +kernel
theorem dX0_coveredBy_13 : decode cX0_coveredBy 13 = .ok (.aload_n 0, 1) := by decide +kernel
theorem dX0_coveredBy_14 : decode cX0_coveredBy 14 = .ok (.getfield 15, 3) := by decide +kernel
theorem dX0_coveredBy_17 : decode cX0_coveredBy 17 = .ok (.iload_n 3, 1) := by decide +kernel
theorem dX0_coveredBy_18 : decode cX0_coveredBy 18 = .ok (.iaload, 1) := by decide +kernel
theorem dX0_coveredBy_19 : decode cX0_coveredBy 19 = .ok (.invokestatic 35, 3) := by decide +kernel
theorem dX0_coveredBy_22 : decode cX0_coveredBy 22 = .ok (.ifCond .eq 6, 3) := by decide +kernel
theorem dX0_coveredBy_25 : decode cX0_coveredBy 25 = .ok (.iinc 2 1, 3) := by decide +kernel
theorem dX0_coveredBy_28 : decode cX0_coveredBy 28 = .ok (.iinc 3 1, 3) := by decide +kernel
theorem dX0_coveredBy_31 : decode cX0_coveredBy 31 = .ok (.goto (-27), 3) := by decide +kernel
theorem dX0_coveredBy_34 : decode cX0_coveredBy 34 = .ok (.iload_n 2, 1) := by decide +kernel
theorem dX0_coveredBy_35 : decode cX0_coveredBy 35 = .ok (.ireturn, 1) := by decide +kernel
theorem dX0_hasDropped_0 : decode cX0_hasDropped 0 = .ok (.aload_n 0, 1) := by decide +kernel
theorem dX0_hasDropped_1 : decode cX0_hasDropped 1 = .ok (.iload_n 1, 1) := by decide +kernel
theorem dX0_hasDropped_2 : decode cX0_hasDropped 2 = .ok (.invokevirtual 39, 3) := by decide +kernel
theorem dX0_hasDropped_5 : decode cX0_hasDropped 5 = .ok (.ifCond .ne 18, 3) := by decide +kernel
theorem dX0_hasDropped_8 : decode cX0_hasDropped 8 = .ok (.aload_n 0, 1) := by decide +kernel
theorem dX0_hasDropped_9 : decode cX0_hasDropped 9 = .ok (.getfield 9, 3) := by decide +kernel
theorem dX0_hasDropped_12 : decode cX0_hasDropped 12 = .ok (.iload_n 1, 1) := by decide +kernel
theorem dX0_hasDropped_13 : decode cX0_hasDropped 13 = .ok (.invokestatic 35, 3) := by decide +kernel
theorem dX0_hasDropped_16 : decode cX0_hasDropped 16 = .ok (.ifCond .eq 7, 3) := by decide +kernel
theorem dX0_hasDropped_19 : decode cX0_hasDropped 19 = .ok (.iconst 1, 1) := by decide +kernel
theorem dX0_hasDropped_20 : decode cX0_hasDropped 20 = .ok (.goto 4, 3) := by decide +kernel
theorem dX0_hasDropped_23 : decode cX0_hasDropped 23 = .ok (.iconst 0, 1) := by decide +kernel
theorem dX0_hasDropped_24 : decode cX0_hasDropped 24 = .ok (.ireturn, 1) := by decide +kernel
theorem dX0_isNew_0 : decode cX0_isNew 0 = .ok (.aload_n 0, 1) := by decide +kernel
theorem dX0_isNew_1 : decode cX0_isNew 1 = .ok (.iload_n 1, 1) := by decide +kernel
theorem dX0_isNew_2 : decode cX0_isNew 2 = .ok (.invokevirtual 39, 3) := by decide +kernel
theorem dX0_isNew_5 : decode cX0_isNew 5 = .ok (.ifCond .ne 18, 3) := by decide +kernel
theorem dX0_isNew_8 : decode cX0_isNew 8 = .ok (.aload_n 0, 1) := by decide +kernel
theorem dX0_isNew_9 : decode cX0_isNew 9 = .ok (.getfield 9, 3) := by decide +kernel
theorem dX0_isNew_12 : decode cX0_isNew 12 = .ok (.iload_n 1, 1) := by decide +kernel
theorem dX0_isNew_13 : decode cX0_isNew 13 = .ok (.invokestatic 35, 3) := by decide +kernel
theorem dX0_isNew_16 : decode cX0_isNew 16 = .ok (.ifCond .ne 7, 3) := by decide +kernel
theorem dX0_isNew_19 : decode cX0_isNew 19 = .ok (.iconst 1, 1) := by decide +kernel
theorem dX0_isNew_20 : decode cX0_isNew 20 = .ok (.goto 4, 3) := by decide +kernel
theorem dX0_isNew_23 : decode cX0_isNew 23 = .ok (.iconst 0, 1) := by decide +kernel
theorem dX0_isNew_24 : decode cX0_isNew 24 = .ok (.ireturn, 1) := by decide +kernel
theorem dX0_lostTo_0 : decode cX0_lostTo 0 = .ok (.iconst 0, 1) := by decide +kernel
theorem dX0_lostTo_1 : decode cX0_lostTo 1 = .ok (.istore_n 2, 1) := by decide +kernel
theorem dX0_lostTo_2 : decode cX0_lostTo 2 = .ok (.iconst 0, 1) := by decide +kernel
theorem dX0_lostTo_3 : decode cX0_lostTo 3 = .ok (.istore_n 3, 1) := by decide +kernel
theorem dX0_lostTo_4 : decode cX0_lostTo 4 = .ok (.iload_n 3, 1) := by decide +kernel
theorem dX0_lostTo_5 : decode cX0_lostTo 5 = .ok (.aload_n 0, 1) := by decide +kernel
theorem dX0_lostTo_6 : decode cX0_lostTo 6 = .ok (.getfield 27, 3) := by decide +kernel
theorem dX0_lostTo_9 : decode cX0_lostTo 9 = .ok (.if_icmp .ge 25, 3) := by decide +kernel
theorem dX0_lostTo_12 : decode cX0_lostTo 12 = .ok (.aload_n 1, 1) := by decide +kernel
theorem dX0_lostTo_13 : decode cX0_lostTo 13 = .ok (.aload_n 0, 1) := by decide +kernel
theorem dX0_lostTo_14 : decode cX0_lostTo 14 = .ok (.getfield 15, 3) := by decide +kernel
theorem dX0_lostTo_17 : decode cX0_lostTo 17 = .ok (.iload_n 3, 1) := by decide +kernel
theorem dX0_lostTo_18 : decode cX0_lostTo 18 = .ok (.iaload, 1) := by decide +kernel
theorem dX0_lostTo_19 : decode cX0_lostTo 19 = .ok (.invokevirtual 43, 3) := by decide +kernel
theorem dX0_lostTo_22 : decode cX0_lostTo 22 = .ok (.ifCond .eq 6, 3) := by decide +kernel
theorem dX0_lostTo_25 : decode cX0_lostTo 25 = .ok (.iinc 2 1, 3) := by decide +kernel
theorem dX0_lostTo_28 : decode cX0_lostTo 28 = .ok (.iinc 3 1, 3) := by decide +kernel
theorem dX0_lostTo_31 : decode cX0_lostTo 31 = .ok (.goto (-27), 3) := by decide +kernel
theorem dX0_lostTo_34 : decode cX0_lostTo 34 = .ok (.iload_n 2, 1) := by decide +kernel
theorem dX0_lostTo_35 : decode cX0_lostTo 35 = .ok (.ireturn, 1) := by decide +kernel
theorem dX0_gainedFrom_0 : decode cX0_gainedFrom 0 = .ok (.iconst 0, 1) := by decide +kernel
theorem dX0_gainedFrom_1 : decode cX0_gainedFrom 1 = .ok (.istore_n 2, 1) := by decide +kernel
theorem dX0_gainedFrom_2 : decode cX0_gainedFrom 2 = .ok (.iconst 0, 1) := by decide +kernel
theorem dX0_gainedFrom_3 : decode cX0_gainedFrom 3 = .ok (.istore_n 3, 1) := by decide +kernel
theorem dX0_gainedFrom_4 : decode cX0_gainedFrom 4 = .ok (.iload_n 3, 1) := by decide +kernel
theorem dX0_gainedFrom_5 : decode cX0_gainedFrom 5 = .ok (.aload_n 1, 1) := by decide +kernel
theorem dX0_gainedFrom_6 : decode cX0_gainedFrom 6 = .ok (.getfield 27, 3) := by decide +kernel
theorem dX0_gainedFrom_9 : decode cX0_gainedFrom 9 = .ok (.if_icmp .ge 25, 3) := by decide +kernel
theorem dX0_gainedFrom_12 : decode cX0_gainedFrom 12 = .ok (.aload_n 0, 1) := by decide +kernel
theorem dX0_gainedFrom_13 : decode cX0_gainedFrom 13 = .ok (.aload_n 1, 1) := by decide +kernel
theorem dX0_gainedFrom_14 : decode cX0_gainedFrom 14 = .ok (.getfield 15, 3) := by decide +kernel
theorem dX0_gainedFrom_17 : decode cX0_gainedFrom 17 = .ok (.iload_n 3, 1) := by decide +kernel
theorem dX0_gainedFrom_18 : decode cX0_gainedFrom 18 = .ok (.iaload, 1) := by decide +kernel
theorem dX0_gainedFrom_19 : decode cX0_gainedFrom 19 = .ok (.invokevirtual 46, 3) := by decide +kernel
theorem dX0_gainedFrom_22 : decode cX0_gainedFrom 22 = .ok (.ifCond .eq 6, 3) := by decide +kernel
theorem dX0_gainedFrom_25 : decode cX0_gainedFrom 25 = .ok (.iinc 2 1, 3) := by decide +kernel
theorem dX0_gainedFrom_28 : decode cX0_gainedFrom 28 = .ok (.iinc 3 1, 3) := by decide +kernel
theorem dX0_gainedFrom_31 : decode cX0_gainedFrom 31 = .ok (.goto (-27), 3) := by decide +kernel
theorem dX0_gainedFrom_34 : decode cX0_gainedFrom 34 = .ok (.iload_n 2, 1) := by decide +kernel
theorem dX0_gainedFrom_35 : decode cX0_gainedFrom 35 = .ok (.ireturn, 1) := by decide +kernel
theorem dX0_dropCoveredBy_0 : decode cX0_dropCoveredBy 0 = .ok (.aload_n 0, 1) := by decide +kernel
theorem dX0_dropCoveredBy_1 : decode cX0_dropCoveredBy 1 = .ok (.getfield 27, 3) := by decide +kernel
theorem dX0_dropCoveredBy_4 : decode cX0_dropCoveredBy 4 = .ok (.iconst 1, 1) := by decide +kernel
theorem dX0_dropCoveredBy_5 : decode cX0_dropCoveredBy 5 = .ok (.isub, 1) := by decide +kernel
theorem dX0_dropCoveredBy_6 : decode cX0_dropCoveredBy 6 = .ok (.istore_n 2, 1) := by decide +kernel
theorem dX0_dropCoveredBy_7 : decode cX0_dropCoveredBy 7 = .ok (.iload_n 2, 1) := by decide +kernel
theorem dX0_dropCoveredBy_8 : decode cX0_dropCoveredBy 8 = .ok (.ifCond .lt 27, 3) := by decide +kernel
theorem dX0_dropCoveredBy_11 : decode cX0_dropCoveredBy 11 = .ok (.aload_n 1, 1) := by decide +kernel
theorem dX0_dropCoveredBy_12 : decode cX0_dropCoveredBy 12 = .ok (.aload_n 0, 1) := by decide +kernel
theorem dX0_dropCoveredBy_13 : decode cX0_dropCoveredBy 13 = .ok (.getfield 15, 3) := by decide +kernel
theorem dX0_dropCoveredBy_16 : decode cX0_dropCoveredBy 16 = .ok (.iload_n 2, 1) := by decide +kernel
theorem dX0_dropCoveredBy_17 : decode cX0_dropCoveredBy 17 = .ok (.iaload, 1) := by decide +kernel
theorem dX0_dropCoveredBy_18 : decode cX0_dropCoveredBy 18 = .ok (.invokestatic 35, 3) := by decide +kernel
theorem dX0_dropCoveredBy_21 : decode cX0_dropCoveredBy 21 = .ok (.ifCond .eq 8, 3) := by decide +kernel
theorem dX0_dropCoveredBy_24 : decode cX0_dropCoveredBy 24 = .ok (.aload_n 0, 1) := by decide +kernel
theorem dX0_dropCoveredBy_25 : decode cX0_dropCoveredBy 25 = .ok (.iload_n 2, 1) := by decide +kernel
theorem dX0_dropCoveredBy_26 : decode cX0_dropCoveredBy 26 = .ok (.invokevirtual 49, 3) := by decide +kernel
theorem dX0_dropCoveredBy_29 : decode cX0_dropCoveredBy 29 = .ok (.iinc 2 (-1), 3) := by decide +kernel
theorem dX0_dropCoveredBy_32 : decode cX0_dropCoveredBy 32 = .ok (.goto (-25), 3) := by decide +kernel
theorem dX0_dropCoveredBy_35 : decode cX0_dropCoveredBy 35 = .ok (.return_, 1) := by decide +kernel
theorem dX0_takeFrom_0 : decode cX0_takeFrom 0 = .ok (.aload_n 0, 1) := by decide +kernel
theorem dX0_takeFrom_1 : decode cX0_takeFrom 1 = .ok (.getfield 27, 3) := by decide +kernel
theorem dX0_takeFrom_4 : decode cX0_takeFrom 4 = .ok (.iconst 1, 1) := by decide +kernel
theorem dX0_takeFrom_5 : decode cX0_takeFrom 5 = .ok (.isub, 1) := by decide +kernel
theorem dX0_takeFrom_6 : decode cX0_takeFrom 6 = .ok (.istore_n 2, 1) := by decide +kernel
theorem dX0_takeFrom_7 : decode cX0_takeFrom 7 = .ok (.iload_n 2, 1) := by decide +kernel
theorem dX0_takeFrom_8 : decode cX0_takeFrom 8 = .ok (.ifCond .lt 27, 3) := by decide +kernel
theorem dX0_takeFrom_11 : decode cX0_takeFrom 11 = .ok (.aload_n 1, 1) := by decide +kernel
theorem dX0_takeFrom_12 : decode cX0_takeFrom 12 = .ok (.aload_n 0, 1) := by decide +kernel
theorem dX0_takeFrom_13 : decode cX0_takeFrom 13 = .ok (.getfield 15, 3) := by decide +kernel
theorem dX0_takeFrom_16 : decode cX0_takeFrom 16 = .ok (.iload_n 2, 1) := by decide +kernel
theorem dX0_takeFrom_17 : decode cX0_takeFrom 17 = .ok (.iaload, 1) := by decide +kernel
theorem dX0_takeFrom_18 : decode cX0_takeFrom 18 = .ok (.invokevirtual 43, 3) := by decide +kernel
theorem dX0_takeFrom_21 : decode cX0_takeFrom 21 = .ok (.ifCond .eq 8, 3) := by decide +kernel
theorem dX0_takeFrom_24 : decode cX0_takeFrom 24 = .ok (.aload_n 0, 1) := by decide +kernel
theorem dX0_takeFrom_25 : decode cX0_takeFrom 25 = .ok (.iload_n 2, 1) := by decide +kernel
theorem dX0_takeFrom_26 : decode cX0_takeFrom 26 = .ok (.invokevirtual 49, 3) := by decide +kernel
theorem dX0_takeFrom_29 : decode cX0_takeFrom 29 = .ok (.iinc 2 (-1), 3) := by decide +kernel
theorem dX0_takeFrom_32 : decode cX0_takeFrom 32 = .ok (.goto (-25), 3) := by decide +kernel
theorem dX0_takeFrom_35 : decode cX0_takeFrom 35 = .ok (.iconst 0, 1) := by decide +kernel
theorem dX0_takeFrom_36 : decode cX0_takeFrom 36 = .ok (.istore_n 2, 1) := by decide +kernel
theorem dX0_takeFrom_37 : decode cX0_takeFrom 37 = .ok (.iload_n 2, 1) := by decide +kernel
theorem dX0_takeFrom_38 : decode cX0_takeFrom 38 = .ok (.aload_n 1, 1) := by decide +kernel
theorem dX0_takeFrom_39 : decode cX0_takeFrom 39 = .ok (.getfield 27, 3) := by decide +kernel
theorem dX0_takeFrom_42 : decode cX0_takeFrom 42 = .ok (.if_icmp .ge 38, 3) := by decide +kernel
theorem dX0_takeFrom_45 : decode cX0_takeFrom 45 = .ok (.aload_n 0, 1) := by decide +kernel
theorem dX0_takeFrom_46 : decode cX0_takeFrom 46 = .ok (.aload_n 1, 1) := by decide +kernel
theorem dX0_takeFrom_47 : decode cX0_takeFrom 47 = .ok (.getfield 15, 3) := by decide +kernel
theorem dX0_takeFrom_50 : decode cX0_takeFrom 50 = .ok (.iload_n 2, 1) := by decide +kernel
theorem dX0_takeFrom_51 : decode cX0_takeFrom 51 = .ok (.iaload, 1) := by decide +kernel
theorem dX0_takeFrom_52 : decode cX0_takeFrom 52 = .ok (.invokevirtual 46, 3) := by decide +kernel
theorem dX0_takeFrom_55 : decode cX0_takeFrom 55 = .ok (.ifCond .eq 19, 3) := by decide +kernel
theorem dX0_takeFrom_58 : decode cX0_takeFrom 58 = .ok (.aload_n 0, 1) := by decide +kernel
theorem dX0_takeFrom_59 : decode cX0_takeFrom 59 = .ok (.aload_n 1, 1) := by decide +kernel
theorem dX0_takeFrom_60 : decode cX0_takeFrom 60 = .ok (.getfield 15, 3) := by decide +kernel
theorem dX0_takeFrom_63 : decode cX0_takeFrom 63 = .ok (.iload_n 2, 1) := by decide +kernel
theorem dX0_takeFrom_64 : decode cX0_takeFrom 64 = .ok (.iaload, 1) := by decide +kernel
theorem dX0_takeFrom_65 : decode cX0_takeFrom 65 = .ok (.aload_n 1, 1) := by decide +kernel
theorem dX0_takeFrom_66 : decode cX0_takeFrom 66 = .ok (.getfield 18, 3) := by decide +kernel
theorem dX0_takeFrom_69 : decode cX0_takeFrom 69 = .ok (.iload_n 2, 1) := by decide +kernel
theorem dX0_takeFrom_70 : decode cX0_takeFrom 70 = .ok (.iaload, 1) := by decide +kernel
theorem dX0_takeFrom_71 : decode cX0_takeFrom 71 = .ok (.invokevirtual 53, 3) := by decide +kernel
theorem dX0_takeFrom_74 : decode cX0_takeFrom 74 = .ok (.iinc 2 1, 3) := by decide +kernel
theorem dX0_takeFrom_77 : decode cX0_takeFrom 77 = .ok (.goto (-40), 3) := by decide +kernel
theorem dX0_takeFrom_80 : decode cX0_takeFrom 80 = .ok (.aload_n 0, 1) := by decide +kernel
theorem dX0_takeFrom_81 : decode cX0_takeFrom 81 = .ok (.getfield 9, 3) := by decide +kernel
theorem dX0_takeFrom_84 : decode cX0_takeFrom 84 = .ok (.aload_n 1, 1) := by decide +kernel
theorem dX0_takeFrom_85 : decode cX0_takeFrom 85 = .ok (.getfield 9, 3) := by decide +kernel
theorem dX0_takeFrom_88 : decode cX0_takeFrom 88 = .ok (.invokestatic 57, 3) := by decide +kernel
theorem dX0_takeFrom_91 : decode cX0_takeFrom 91 = .ok (.return_, 1) := by decide +kernel
theorem dX0_insert_0 : decode cX0_insert 0 = .ok (.aload_n 0, 1) := by decide +kernel
theorem dX0_insert_1 : decode cX0_insert 1 = .ok (.getfield 27, 3) := by decide +kernel
theorem dX0_insert_4 : decode cX0_insert 4 = .ok (.ifCond .lt 11, 3) := by decide +kernel
theorem dX0_insert_7 : decode cX0_insert 7 = .ok (.aload_n 0, 1) := by decide +kernel
theorem dX0_insert_8 : decode cX0_insert 8 = .ok (.getfield 27, 3) := by decide +kernel
theorem dX0_insert_11 : decode cX0_insert 11 = .ok (.iconst 4, 1) := by decide +kernel
theorem dX0_insert_12 : decode cX0_insert 12 = .ok (.if_icmp .lt 4, 3) := by decide +kernel
theorem dX0_insert_15 : decode cX0_insert 15 = .ok (.return_, 1) := by decide +kernel
theorem dX0_insert_16 : decode cX0_insert 16 = .ok (.aload_n 0, 1) := by decide +kernel
theorem dX0_insert_17 : decode cX0_insert 17 = .ok (.getfield 27, 3) := by decide +kernel
theorem dX0_insert_20 : decode cX0_insert 20 = .ok (.istore_n 3, 1) := by decide +kernel
theorem dX0_insert_21 : decode cX0_insert 21 = .ok (.iload_n 3, 1) := by decide +kernel
theorem dX0_insert_22 : decode cX0_insert 22 = .ok (.ifCond .le 49, 3) := by decide +kernel
theorem dX0_insert_25 : decode cX0_insert 25 = .ok (.aload_n 0, 1) := by decide +kernel
theorem dX0_insert_26 : decode cX0_insert 26 = .ok (.getfield 15, 3) := by decide +kernel
theorem dX0_insert_29 : decode cX0_insert 29 = .ok (.iload_n 3, 1) := by decide +kernel
theorem dX0_insert_30 : decode cX0_insert 30 = .ok (.iconst 1, 1) := by decide +kernel
theorem dX0_insert_31 : decode cX0_insert 31 = .ok (.isub, 1) := by decide +kernel
theorem dX0_insert_32 : decode cX0_insert 32 = .ok (.iaload, 1) := by decide +kernel
theorem dX0_insert_33 : decode cX0_insert 33 = .ok (.iload_n 1, 1) := by decide +kernel
theorem dX0_insert_34 : decode cX0_insert 34 = .ok (.if_icmp .le 37, 3) := by decide +kernel
theorem dX0_insert_37 : decode cX0_insert 37 = .ok (.aload_n 0, 1) := by decide +kernel
theorem dX0_insert_38 : decode cX0_insert 38 = .ok (.getfield 15, 3) := by decide +kernel
theorem dX0_insert_41 : decode cX0_insert 41 = .ok (.iload_n 3, 1) := by decide +kernel
theorem dX0_insert_42 : decode cX0_insert 42 = .ok (.aload_n 0, 1) := by decide +kernel
theorem dX0_insert_43 : decode cX0_insert 43 = .ok (.getfield 15, 3) := by decide +kernel
theorem dX0_insert_46 : decode cX0_insert 46 = .ok (.iload_n 3, 1) := by decide +kernel
theorem dX0_insert_47 : decode cX0_insert 47 = .ok (.iconst 1, 1) := by decide +kernel
theorem dX0_insert_48 : decode cX0_insert 48 = .ok (.isub, 1) := by decide +kernel
theorem dX0_insert_49 : decode cX0_insert 49 = .ok (.iaload, 1) := by decide +kernel
theorem dX0_insert_50 : decode cX0_insert 50 = .ok (.iastore, 1) := by decide +kernel
theorem dX0_insert_51 : decode cX0_insert 51 = .ok (.aload_n 0, 1) := by decide +kernel
theorem dX0_insert_52 : decode cX0_insert 52 = .ok (.getfield 18, 3) := by decide +kernel
theorem dX0_insert_55 : decode cX0_insert 55 = .ok (.iload_n 3, 1) := by decide +kernel
theorem dX0_insert_56 : decode cX0_insert 56 = .ok (.aload_n 0, 1) := by decide +kernel
theorem dX0_insert_57 : decode cX0_insert 57 = .ok (.getfield 18, 3) := by decide +kernel
theorem dX0_insert_60 : decode cX0_insert 60 = .ok (.iload_n 3, 1) := by decide +kernel
theorem dX0_insert_61 : decode cX0_insert 61 = .ok (.iconst 1, 1) := by decide +kernel
theorem dX0_insert_62 : decode cX0_insert 62 = .ok (.isub, 1) := by decide +kernel
theorem dX0_insert_63 : decode cX0_insert 63 = .ok (.iaload, 1) := by decide +kernel
theorem dX0_insert_64 : decode cX0_insert 64 = .ok (.iastore, 1) := by decide +kernel
theorem dX0_insert_65 : decode cX0_insert 65 = .ok (.iinc 3 (-1), 3) := by decide +kernel
theorem dX0_insert_68 : decode cX0_insert 68 = .ok (.goto (-47), 3) := by decide +kernel
theorem dX0_insert_71 : decode cX0_insert 71 = .ok (.aload_n 0, 1) := by decide +kernel
theorem dX0_insert_72 : decode cX0_insert 72 = .ok (.getfield 15, 3) := by decide +kernel
theorem dX0_insert_75 : decode cX0_insert 75 = .ok (.iload_n 3, 1) := by decide +kernel
theorem dX0_insert_76 : decode cX0_insert 76 = .ok (.iload_n 1, 1) := by decide +kernel
theorem dX0_insert_77 : decode cX0_insert 77 = .ok (.iastore, 1) := by decide +kernel
theorem dX0_insert_78 : decode cX0_insert 78 = .ok (.aload_n 0, 1) := by decide +kernel
theorem dX0_insert_79 : decode cX0_insert 79 = .ok (.getfield 18, 3) := by decide +kernel
theorem dX0_insert_82 : decode cX0_insert 82 = .ok (.iload_n 3, 1) := by decide +kernel
theorem dX0_insert_83 : decode cX0_insert 83 = .ok (.iload_n 2, 1) := by decide +kernel
theorem dX0_insert_84 : decode cX0_insert 84 = .ok (.iastore, 1) := by decide +kernel
theorem dX0_insert_85 : decode cX0_insert 85 = .ok (.aload_n 0, 1) := by decide +kernel
theorem dX0_insert_86 : decode cX0_insert 86 = .ok (.dup, 1) := by decide +kernel
theorem dX0_insert_87 : decode cX0_insert 87 = .ok (.getfield 27, 3) := by decide +kernel
theorem dX0_insert_90 : decode cX0_insert 90 = .ok (.iconst 1, 1) := by decide +kernel
theorem dX0_insert_91 : decode cX0_insert 91 = .ok (.iadd, 1) := by decide +kernel
theorem dX0_insert_92 : decode cX0_insert 92 = .ok (.putfield 27, 3) := by decide +kernel
theorem dX0_insert_95 : decode cX0_insert 95 = .ok (.return_, 1) := by decide +kernel
theorem dX0_remove_0 : decode cX0_remove 0 = .ok (.iload_n 1, 1) := by decide +kernel
theorem dX0_remove_1 : decode cX0_remove 1 = .ok (.iconst 1, 1) := by decide +kernel
theorem dX0_remove_2 : decode cX0_remove 2 = .ok (.iadd, 1) := by decide +kernel
theorem dX0_remove_3 : decode cX0_remove 3 = .ok (.istore_n 2, 1) := by decide +kernel
theorem dX0_remove_4 : decode cX0_remove 4 = .ok (.iload_n 2, 1) := by decide +kernel
theorem dX0_remove_5 : decode cX0_remove 5 = .ok (.aload_n 0, 1) := by decide +kernel
theorem dX0_remove_6 : decode cX0_remove 6 = .ok (.getfield 27, 3) := by decide +kernel
theorem dX0_remove_9 : decode cX0_remove 9 = .ok (.if_icmp .ge 37, 3) := by decide +kernel
theorem dX0_remove_12 : decode cX0_remove 12 = .ok (.aload_n 0, 1) := by decide +kernel
theorem dX0_remove_13 : decode cX0_remove 13 = .ok (.getfield 15, 3) := by decide +kernel
theorem dX0_remove_16 : decode cX0_remove 16 = .ok (.iload_n 2, 1) := by decide +kernel
theorem dX0_remove_17 : decode cX0_remove 17 = .ok (.iconst 1, 1) := by decide +kernel
theorem dX0_remove_18 : decode cX0_remove 18 = .ok (.isub, 1) := by decide +kernel
theorem dX0_remove_19 : decode cX0_remove 19 = .ok (.aload_n 0, 1) := by decide +kernel
theorem dX0_remove_20 : decode cX0_remove 20 = .ok (.getfield 15, 3) := by decide +kernel
theorem dX0_remove_23 : decode cX0_remove 23 = .ok (.iload_n 2, 1) := by decide +kernel
theorem dX0_remove_24 : decode cX0_remove 24 = .ok (.iaload, 1) := by decide +kernel
theorem dX0_remove_25 : decode cX0_remove 25 = .ok (.iastore, 1) := by decide +kernel
theorem dX0_remove_26 : decode cX0_remove 26 = .ok (.aload_n 0, 1) := by decide +kernel
theorem dX0_remove_27 : decode cX0_remove 27 = .ok (.getfield 18, 3) := by decide +kernel
theorem dX0_remove_30 : decode cX0_remove 30 = .ok (.iload_n 2, 1) := by decide +kernel
theorem dX0_remove_31 : decode cX0_remove 31 = .ok (.iconst 1, 1) := by decide +kernel
theorem dX0_remove_32 : decode cX0_remove 32 = .ok (.isub, 1) := by decide +kernel
theorem dX0_remove_33 : decode cX0_remove 33 = .ok (.aload_n 0, 1) := by decide +kernel
theorem dX0_remove_34 : decode cX0_remove 34 = .ok (.getfield 18, 3) := by decide +kernel
theorem dX0_remove_37 : decode cX0_remove 37 = .ok (.iload_n 2, 1) := by decide +kernel
theorem dX0_remove_38 : decode cX0_remove 38 = .ok (.iaload, 1) := by decide +kernel
theorem dX0_remove_39 : decode cX0_remove 39 = .ok (.iastore, 1) := by decide +kernel
theorem dX0_remove_40 : decode cX0_remove 40 = .ok (.iinc 2 1, 3) := by decide +kernel
theorem dX0_remove_43 : decode cX0_remove 43 = .ok (.goto (-39), 3) := by decide +kernel
theorem dX0_remove_46 : decode cX0_remove 46 = .ok (.aload_n 0, 1) := by decide +kernel
theorem dX0_remove_47 : decode cX0_remove 47 = .ok (.dup, 1) := by decide +kernel
theorem dX0_remove_48 : decode cX0_remove 48 = .ok (.getfield 27, 3) := by decide +kernel
theorem dX0_remove_51 : decode cX0_remove 51 = .ok (.iconst 1, 1) := by decide +kernel
theorem dX0_remove_52 : decode cX0_remove 52 = .ok (.isub, 1) := by decide +kernel
theorem dX0_remove_53 : decode cX0_remove 53 = .ok (.putfield 27, 3) := by decide +kernel
theorem dX0_remove_56 : decode cX0_remove 56 = .ok (.return_, 1) := by decide +kernel
theorem dX0_valueBy_0 : decode cX0_valueBy 0 = .ok (.aload_n 0, 1) := by decide +kernel
theorem dX0_valueBy_1 : decode cX0_valueBy 1 = .ok (.getfield 18, 3) := by decide +kernel
theorem dX0_valueBy_4 : decode cX0_valueBy 4 = .ok (.iconst 0, 1) := by decide +kernel
theorem dX0_valueBy_5 : decode cX0_valueBy 5 = .ok (.iaload, 1) := by decide +kernel
theorem dX0_valueBy_6 : decode cX0_valueBy 6 = .ok (.istore_n 2, 1) := by decide +kernel
theorem dX0_valueBy_7 : decode cX0_valueBy 7 = .ok (.aload_n 0, 1) := by decide +kernel
theorem dX0_valueBy_8 : decode cX0_valueBy 8 = .ok (.getfield 18, 3) := by decide +kernel
theorem dX0_valueBy_11 : decode cX0_valueBy 11 = .ok (.iconst 0, 1) := by decide +kernel
theorem dX0_valueBy_12 : decode cX0_valueBy 12 = .ok (.iaload, 1) := by decide +kernel
theorem dX0_valueBy_13 : decode cX0_valueBy 13 = .ok (.istore_n 3, 1) := by decide +kernel
theorem dX0_valueBy_14 : decode cX0_valueBy 14 = .ok (.iconst 0, 1) := by decide +kernel
theorem dX0_valueBy_15 : decode cX0_valueBy 15 = .ok (.istore 4, 2) := by decide +kernel
theorem dX0_valueBy_17 : decode cX0_valueBy 17 = .ok (.iconst 0, 1) := by decide +kernel
theorem dX0_valueBy_18 : decode cX0_valueBy 18 = .ok (.istore 5, 2) := by decide +kernel
theorem dX0_valueBy_20 : decode cX0_valueBy 20 = .ok (.iload 5, 2) := by decide +kernel
theorem dX0_valueBy_22 : decode cX0_valueBy 22 = .ok (.aload_n 0, 1) := by decide +kernel
theorem dX0_valueBy_23 : decode cX0_valueBy 23 = .ok (.getfield 27, 3) := by decide +kernel
theorem dX0_valueBy_26 : decode cX0_valueBy 26 = .ok (.if_icmp .ge 45, 3) := by decide +kernel
theorem dX0_valueBy_29 : decode cX0_valueBy 29 = .ok (.iload_n 2, 1) := by decide +kernel
theorem dX0_valueBy_30 : decode cX0_valueBy 30 = .ok (.aload_n 0, 1) := by decide +kernel
theorem dX0_valueBy_31 : decode cX0_valueBy 31 = .ok (.getfield 18, 3) := by decide +kernel
theorem dX0_valueBy_34 : decode cX0_valueBy 34 = .ok (.iload 5, 2) := by decide +kernel
theorem dX0_valueBy_36 : decode cX0_valueBy 36 = .ok (.iaload, 1) := by decide +kernel
theorem dX0_valueBy_37 : decode cX0_valueBy 37 = .ok (.invokestatic 61, 3) := by decide +kernel
theorem dX0_valueBy_40 : decode cX0_valueBy 40 = .ok (.istore_n 2, 1) := by decide +kernel
theorem dX0_valueBy_41 : decode cX0_valueBy 41 = .ok (.iload_n 3, 1) := by decide +kernel
theorem dX0_valueBy_42 : decode cX0_valueBy 42 = .ok (.aload_n 0, 1) := by decide +kernel
theorem dX0_valueBy_43 : decode cX0_valueBy 43 = .ok (.getfield 18, 3) := by decide +kernel
theorem dX0_valueBy_46 : decode cX0_valueBy 46 = .ok (.iload 5, 2) := by decide +kernel
theorem dX0_valueBy_48 : decode cX0_valueBy 48 = .ok (.iaload, 1) := by decide +kernel
theorem dX0_valueBy_49 : decode cX0_valueBy 49 = .ok (.invokestatic 67, 3) := by decide +kernel
theorem dX0_valueBy_52 : decode cX0_valueBy 52 = .ok (.istore_n 3, 1) := by decide +kernel
theorem dX0_valueBy_53 : decode cX0_valueBy 53 = .ok (.iload 4, 2) := by decide +kernel
theorem dX0_valueBy_55 : decode cX0_valueBy 55 = .ok (.aload_n 0, 1) := by decide +kernel
theorem dX0_valueBy_56 : decode cX0_valueBy 56 = .ok (.getfield 18, 3) := by decide +kernel
theorem dX0_valueBy_59 : decode cX0_valueBy 59 = .ok (.iload 5, 2) := by decide +kernel
theorem dX0_valueBy_61 : decode cX0_valueBy 61 = .ok (.iaload, 1) := by decide +kernel
theorem dX0_valueBy_62 : decode cX0_valueBy 62 = .ok (.iadd, 1) := by decide +kernel
theorem dX0_valueBy_63 : decode cX0_valueBy 63 = .ok (.istore 4, 2) := by decide +kernel
theorem dX0_valueBy_65 : decode cX0_valueBy 65 = .ok (.iinc 5 1, 3) := by decide +kernel
theorem dX0_valueBy_68 : decode cX0_valueBy 68 = .ok (.goto (-48), 3) := by decide +kernel
theorem dX0_valueBy_71 : decode cX0_valueBy 71 = .ok (.iload_n 1, 1) := by decide +kernel
theorem dX0_valueBy_72 : decode cX0_valueBy 72 = .ok (.tableswitch 38 0 2 #[28, 30, 32], 28) := by decide +kernel
theorem dX0_valueBy_100 : decode cX0_valueBy 100 = .ok (.iload_n 2, 1) := by decide +kernel
theorem dX0_valueBy_101 : decode cX0_valueBy 101 = .ok (.ireturn, 1) := by decide +kernel
theorem dX0_valueBy_102 : decode cX0_valueBy 102 = .ok (.iload_n 3, 1) := by decide +kernel
theorem dX0_valueBy_103 : decode cX0_valueBy 103 = .ok (.ireturn, 1) := by decide +kernel
theorem dX0_valueBy_104 : decode cX0_valueBy 104 = .ok (.iload 4, 2) := by decide +kernel
theorem dX0_valueBy_106 : decode cX0_valueBy 106 = .ok (.bipush 100, 2) := by decide +kernel
theorem dX0_valueBy_108 : decode cX0_valueBy 108 = .ok (.irem, 1) := by decide +kernel
theorem dX0_valueBy_109 : decode cX0_valueBy 109 = .ok (.ireturn, 1) := by decide +kernel
theorem dX0_valueBy_110 : decode cX0_valueBy 110 = .ok (.aload_n 0, 1) := by decide +kernel
theorem dX0_valueBy_111 : decode cX0_valueBy 111 = .ok (.getfield 18, 3) := by decide +kernel
theorem dX0_valueBy_114 : decode cX0_valueBy 114 = .ok (.iconst 0, 1) := by decide +kernel
theorem dX0_valueBy_115 : decode cX0_valueBy 115 = .ok (.iaload, 1) := by decide +kernel
theorem dX0_valueBy_116 : decode cX0_valueBy 116 = .ok (.ireturn, 1) := by decide +kernel
theorem dX1_init_0 : decode cX1_init 0 = .ok (.aload_n 0, 1) := by decide +kernel
theorem dX1_init_1 : decode cX1_init 1 = .ok (.invokespecial 3, 3) := by decide +kernel
theorem dX1_init_4 : decode cX1_init 4 = .ok (.aload_n 0, 1) := by decide +kernel
theorem dX1_init_5 : decode cX1_init 5 = .ok (.iconst 3, 1) := by decide +kernel
theorem dX1_init_6 : decode cX1_init 6 = .ok (.anewarray 9, 3) := by decide +kernel
theorem dX1_init_9 : decode cX1_init 9 = .ok (.putfield 11, 3) := by decide +kernel
theorem dX1_init_12 : decode cX1_init 12 = .ok (.aload_n 0, 1) := by decide +kernel
theorem dX1_init_13 : decode cX1_init 13 = .ok (.iconst 5, 1) := by decide +kernel
theorem dX1_init_14 : decode cX1_init 14 = .ok (.iconst 5, 1) := by decide +kernel
theorem dX1_init_15 : decode cX1_init 15 = .ok (.multianewarray 17 2, 4) := by decide +kernel
theorem dX1_init_19 : decode cX1_init 19 = .ok (.putfield 19, 3) := by decide +kernel
theorem dX1_init_22 : decode cX1_init 22 = .ok (.aload_n 0, 1) := by decide +kernel
theorem dX1_init_23 : decode cX1_init 23 = .ok (.iconst 5, 1) := by decide +kernel
theorem dX1_init_24 : decode cX1_init 24 = .ok (.newarray .int, 2) := by decide +kernel
theorem dX1_init_26 : decode cX1_init 26 = .ok (.putfield 22, 3) := by decide +kernel
theorem dX1_init_29 : decode cX1_init 29 = .ok (.iconst 0, 1) := by decide +kernel
theorem dX1_init_30 : decode cX1_init 30 = .ok (.istore_n 1, 1) := by decide +kernel
theorem dX1_init_31 : decode cX1_init 31 = .ok (.iload_n 1, 1) := by decide +kernel
theorem dX1_init_32 : decode cX1_init 32 = .ok (.iconst 3, 1) := by decide +kernel
theorem dX1_init_33 : decode cX1_init 33 = .ok (.if_icmp .ge 22, 3) := by decide +kernel
theorem dX1_init_36 : decode cX1_init 36 = .ok (.aload_n 0, 1) := by decide +kernel
theorem dX1_init_37 : decode cX1_init 37 = .ok (.getfield 11, 3) := by decide +kernel
theorem dX1_init_40 : decode cX1_init 40 = .ok (.iload_n 1, 1) := by decide +kernel
theorem dX1_init_41 : decode cX1_init 41 = .ok (.new 9, 3) := by decide +kernel
theorem dX1_init_44 : decode cX1_init 44 = .ok (.dup, 1) := by decide +kernel
theorem dX1_init_45 : decode cX1_init 45 = .ok (.invokespecial 26, 3) := by decide +kernel
theorem dX1_init_48 : decode cX1_init 48 = .ok (.aastore, 1) := by decide +kernel
theorem dX1_init_49 : decode cX1_init 49 = .ok (.iinc 1 1, 3) := by decide +kernel
theorem dX1_init_52 : decode cX1_init 52 = .ok (.goto (-21), 3) := by decide +kernel
theorem dX1_init_55 : decode cX1_init 55 = .ok (.return_, 1) := by decide +kernel
theorem dX1_become_0 : decode cX1_become 0 = .ok (.iconst 0, 1) := by decide +kernel
theorem dX1_become_1 : decode cX1_become 1 = .ok (.istore_n 2, 1) := by decide +kernel
theorem dX1_become_2 : decode cX1_become 2 = .ok (.iload_n 2, 1) := by decide +kernel
theorem dX1_become_3 : decode cX1_become 3 = .ok (.iconst 3, 1) := by decide +kernel
theorem dX1_become_4 : decode cX1_become 4 = .ok (.if_icmp .ge 24, 3) := by decide +kernel
theorem dX1_become_7 : decode cX1_become 7 = .ok (.aload_n 0, 1) := by decide +kernel
theorem dX1_become_8 : decode cX1_become 8 = .ok (.getfield 11, 3) := by decide +kernel
theorem dX1_become_11 : decode cX1_become 11 = .ok (.iload_n 2, 1) := by decide +kernel
theorem dX1_become_12 : decode cX1_become 12 = .ok (.aaload, 1) := by decide +kernel
theorem dX1_become_13 : decode cX1_become 13 = .ok (.aload_n 1, 1) := by decide +kernel
theorem dX1_become_14 : decode cX1_become 14 = .ok (.getfield 11, 3) := by decide +kernel
theorem dX1_become_17 : decode cX1_become 17 = .ok (.iload_n 2, 1) := by decide +kernel
theorem dX1_become_18 : decode cX1_become 18 = .ok (.aaload, 1) := by decide +kernel
theorem dX1_become_19 : decode cX1_become 19 = .ok (.invokevirtual 27, 3) := by decide +kernel
theorem dX1_become_22 : decode cX1_become 22 = .ok (.iinc 2 1, 3) := by decide +kernel
theorem dX1_become_25 : decode cX1_become 25 = .ok (.goto (-23), 3) := by decide +kernel
theorem dX1_become_28 : decode cX1_become 28 = .ok (.iconst 0, 1) := by decide +kernel
theorem dX1_become_29 : decode cX1_become 29 = .ok (.istore_n 2, 1) := by decide +kernel
theorem dX1_become_30 : decode cX1_become 30 = .ok (.iload_n 2, 1) := by decide +kernel
theorem dX1_become_31 : decode cX1_become 31 = .ok (.iconst 5, 1) := by decide +kernel
theorem dX1_become_32 : decode cX1_become 32 = .ok (.if_icmp .ge 27, 3) := by decide +kernel
theorem dX1_become_35 : decode cX1_become 35 = .ok (.aload_n 1, 1) := by decide +kernel
theorem dX1_become_36 : decode cX1_become 36 = .ok (.getfield 19, 3) := by decide +kernel
theorem dX1_become_39 : decode cX1_become 39 = .ok (.iload_n 2, 1) := by decide +kernel
theorem dX1_become_40 : decode cX1_become 40 = .ok (.aaload, 1) := by decide +kernel
theorem dX1_become_41 : decode cX1_become 41 = .ok (.iconst 0, 1) := by decide +kernel
theorem dX1_become_42 : decode cX1_become 42 = .ok (.aload_n 0, 1) := by decide +kernel
theorem dX1_become_43 : decode cX1_become 43 = .ok (.getfield 19, 3) := by decide +kernel
theorem dX1_become_46 : decode cX1_become 46 = .ok (.iload_n 2, 1) := by decide +kernel
theorem dX1_become_47 : decode cX1_become 47 = .ok (.aaload, 1) := by decide +kernel
theorem dX1_become_48 : decode cX1_become 48 = .ok (.iconst 0, 1) := by decide +kernel
theorem dX1_become_49 : decode cX1_become 49 = .ok (.iconst 5, 1) := by decide +kernel
theorem dX1_become_50 : decode cX1_become 50 = .ok (.invokestatic 31, 3) := by decide +kernel
theorem dX1_become_53 : decode cX1_become 53 = .ok (.iinc 2 1, 3) := by decide +kernel
theorem dX1_become_56 : decode cX1_become 56 = .ok (.goto (-26), 3) := by decide +kernel
theorem dX1_become_59 : decode cX1_become 59 = .ok (.aload_n 1, 1) := by decide +kernel
theorem dX1_become_60 : decode cX1_become 60 = .ok (.getfield 22, 3) := by decide +kernel
theorem dX1_become_63 : decode cX1_become 63 = .ok (.iconst 0, 1) := by decide +kernel
theorem dX1_become_64 : decode cX1_become 64 = .ok (.aload_n 0, 1) := by decide +kernel
theorem dX1_become_65 : decode cX1_become 65 = .ok (.getfield 22, 3) := by decide +kernel
theorem dX1_become_68 : decode cX1_become 68 = .ok (.iconst 0, 1) := by decide +kernel
theorem dX1_become_69 : decode cX1_become 69 = .ok (.iconst 5, 1) := by decide +kernel
theorem dX1_become_70 : decode cX1_become 70 = .ok (.invokestatic 31, 3) := by decide +kernel
theorem dX1_become_73 : decode cX1_become 73 = .ok (.return_, 1) := by decide +kernel
theorem dX1_learn_0 : decode cX1_learn 0 = .ok (.aload_n 0, 1) := by decide +kernel
theorem dX1_learn_1 : decode cX1_learn 1 = .ok (.getfield 19, 3) := by decide +kernel
theorem dX1_learn_4 : decode cX1_learn 4 = .ok (.iload_n 1, 1) := by decide +kernel
theorem dX1_learn_5 : decode cX1_learn 5 = .ok (.aaload, 1) := by decide +kernel
theorem dX1_learn_6 : decode cX1_learn 6 = .ok (.aload_n 0, 1) := by decide +kernel
theorem dX1_learn_7 : decode cX1_learn 7 = .ok (.getfield 11, 3) := by decide +kernel
theorem dX1_learn_10 : decode cX1_learn 10 = .ok (.iload_n 2, 1) := by decide +kernel
theorem dX1_learn_11 : decode cX1_learn 11 = .ok (.aaload, 1) := by decide +kernel
theorem dX1_learn_12 : decode cX1_learn 12 = .ok (.getfield 37, 3) := by decide +kernel
theorem dX1_learn_15 : decode cX1_learn 15 = .ok (.invokestatic 40, 3) := by decide +kernel
theorem dX1_learn_18 : decode cX1_learn 18 = .ok (.return_, 1) := by decide +kernel
theorem dX1_mayWrite_0 : decode cX1_mayWrite 0 = .ok (.aload_n 0, 1) := by decide +kernel
theorem dX1_mayWrite_1 : decode cX1_mayWrite 1 = .ok (.getfield 22, 3) := by decide +kernel
theorem dX1_mayWrite_4 : decode cX1_mayWrite 4 = .ok (.iload_n 1, 1) := by decide +kernel
theorem dX1_mayWrite_5 : decode cX1_mayWrite 5 = .ok (.iaload, 1) := by decide +kernel
theorem dX1_mayWrite_6 : decode cX1_mayWrite 6 = .ok (.sipush 999, 3) := by decide +kernel
theorem dX1_mayWrite_9 : decode cX1_mayWrite 9 = .ok (.if_icmp .ge 18, 3) := by decide +kernel
theorem dX1_mayWrite_12 : decode cX1_mayWrite 12 = .ok (.aload_n 0, 1) := by decide +kernel
theorem dX1_mayWrite_13 : decode cX1_mayWrite 13 = .ok (.iload_n 1, 1) := by decide +kernel
theorem dX1_mayWrite_14 : decode cX1_mayWrite 14 = .ok (.iload_n 2, 1) := by decide +kernel
theorem dX1_mayWrite_15 : decode cX1_mayWrite 15 = .ok (.iconst 1, 1) := by decide +kernel
theorem dX1_mayWrite_16 : decode cX1_mayWrite 16 = .ok (.invokevirtual 44, 3) := by decide +kernel
theorem dX1_mayWrite_19 : decode cX1_mayWrite 19 = .ok (.iconst 4, 1) := by decide +kernel
theorem dX1_mayWrite_20 : decode cX1_mayWrite 20 = .ok (.if_icmp .gt 7, 3) := by decide +kernel
theorem dX1_mayWrite_23 : decode cX1_mayWrite 23 = .ok (.iconst 1, 1) := by decide +kernel
theorem dX1_mayWrite_24 : decode cX1_mayWrite 24 = .ok (.goto 4, 3) := by decide +kernel
theorem dX1_mayWrite_27 : decode cX1_mayWrite 27 = .ok (.iconst 0, 1) := by decide +kernel
theorem dX1_mayWrite_28 : decode cX1_mayWrite 28 = .ok (.ireturn, 1) := by decide +kernel
theorem dX1_mayPull_0 : decode cX1_mayPull 0 = .ok (.aload_n 0, 1) := by decide +kernel
theorem dX1_mayPull_1 : decode cX1_mayPull 1 = .ok (.iload_n 1, 1) := by decide +kernel
theorem dX1_mayPull_2 : decode cX1_mayPull 2 = .ok (.iload_n 2, 1) := by decide +kernel
theorem dX1_mayPull_3 : decode cX1_mayPull 3 = .ok (.iconst 2, 1) := by decide +kernel
theorem dX1_mayPull_4 : decode cX1_mayPull 4 = .ok (.invokevirtual 48, 3) := by decide +kernel
theorem dX1_mayPull_7 : decode cX1_mayPull 7 = .ok (.iconst 4, 1) := by decide +kernel
theorem dX1_mayPull_8 : decode cX1_mayPull 8 = .ok (.if_icmp .gt 7, 3) := by decide +kernel
theorem dX1_mayPull_11 : decode cX1_mayPull 11 = .ok (.iconst 1, 1) := by decide +kernel
theorem dX1_mayPull_12 : decode cX1_mayPull 12 = .ok (.goto 4, 3) := by decide +kernel
theorem dX1_mayPull_15 : decode cX1_mayPull 15 = .ok (.iconst 0, 1) := by decide +kernel
theorem dX1_mayPull_16 : decode cX1_mayPull 16 = .ok (.ireturn, 1) := by decide +kernel
theorem dX1_writeOutlook_0 : decode cX1_writeOutlook 0 = .ok (.aload_n 0, 1) := by decide +kernel
theorem dX1_writeOutlook_1 : decode cX1_writeOutlook 1 = .ok (.getfield 11, 3) := by decide +kernel
theorem dX1_writeOutlook_4 : decode cX1_writeOutlook 4 = .ok (.iload_n 2, 1) := by decide +kernel
theorem dX1_writeOutlook_5 : decode cX1_writeOutlook 5 = .ok (.aaload, 1) := by decide +kernel
theorem dX1_writeOutlook_6 : decode cX1_writeOutlook 6 = .ok (.aload_n 0, 1) := by decide +kernel
theorem dX1_writeOutlook_7 : decode cX1_writeOutlook 7 = .ok (.getfield 19, 3) := by decide +kernel
theorem dX1_writeOutlook_10 : decode cX1_writeOutlook 10 = .ok (.iload_n 1, 1) := by decide +kernel
theorem dX1_writeOutlook_11 : decode cX1_writeOutlook 11 = .ok (.aaload, 1) := by decide +kernel
theorem dX1_writeOutlook_12 : decode cX1_writeOutlook 12 = .ok (.invokevirtual 51, 3) := by decide +kernel
theorem dX1_writeOutlook_15 : decode cX1_writeOutlook 15 = .ok (.istore 4, 2) := by decide +kernel
theorem dX1_writeOutlook_17 : decode cX1_writeOutlook 17 = .ok (.iload_n 3, 1) := by decide +kernel
theorem dX1_writeOutlook_18 : decode cX1_writeOutlook 18 = .ok (.ifCond .ne 8, 3) := by decide +kernel
theorem dX1_writeOutlook_21 : decode cX1_writeOutlook 21 = .ok (.iload 4, 2) := by decide +kernel
theorem dX1_writeOutlook_23 : decode cX1_writeOutlook 23 = .ok (.goto 17, 3) := by decide +kernel
theorem dX1_writeOutlook_26 : decode cX1_writeOutlook 26 = .ok (.aload_n 0, 1) := by decide +kernel
theorem dX1_writeOutlook_27 : decode cX1_writeOutlook 27 = .ok (.getfield 11, 3) := by decide +kernel
theorem dX1_writeOutlook_30 : decode cX1_writeOutlook 30 = .ok (.iload_n 2, 1) := by decide +kernel
theorem dX1_writeOutlook_31 : decode cX1_writeOutlook 31 = .ok (.aaload, 1) := by decide +kernel
theorem dX1_writeOutlook_32 : decode cX1_writeOutlook 32 = .ok (.getfield 55, 3) := by decide +kernel
theorem dX1_writeOutlook_35 : decode cX1_writeOutlook 35 = .ok (.iload 4, 2) := by decide +kernel
theorem dX1_writeOutlook_37 : decode cX1_writeOutlook 37 = .ok (.isub, 1) := by decide +kernel
theorem dX1_writeOutlook_38 : decode cX1_writeOutlook 38 = .ok (.iconst 1, 1) := by decide +kernel
theorem dX1_writeOutlook_39 : decode cX1_writeOutlook 39 = .ok (.iadd, 1) := by decide +kernel
theorem dX1_writeOutlook_40 : decode cX1_writeOutlook 40 = .ok (.ireturn, 1) := by decide +kernel
theorem dX1_pullOutlook_0 : decode cX1_pullOutlook 0 = .ok (.aload_n 0, 1) := by decide +kernel
theorem dX1_pullOutlook_1 : decode cX1_pullOutlook 1 = .ok (.getfield 11, 3) := by decide +kernel
theorem dX1_pullOutlook_4 : decode cX1_pullOutlook 4 = .ok (.iload_n 1, 1) := by decide +kernel
theorem dX1_pullOutlook_5 : decode cX1_pullOutlook 5 = .ok (.aaload, 1) := by decide +kernel
theorem dX1_pullOutlook_6 : decode cX1_pullOutlook 6 = .ok (.aload_n 0, 1) := by decide +kernel
theorem dX1_pullOutlook_7 : decode cX1_pullOutlook 7 = .ok (.getfield 11, 3) := by decide +kernel
theorem dX1_pullOutlook_10 : decode cX1_pullOutlook 10 = .ok (.iload_n 2, 1) := by decide +kernel
theorem dX1_pullOutlook_11 : decode cX1_pullOutlook 11 = .ok (.aaload, 1) := by decide +kernel
theorem dX1_pullOutlook_12 : decode cX1_pullOutlook 12 = .ok (.invokevirtual 59, 3) := by decide +kernel
theorem dX1_pullOutlook_15 : decode cX1_pullOutlook 15 = .ok (.istore 4, 2) := by decide +kernel
theorem dX1_pullOutlook_17 : decode cX1_pullOutlook 17 = .ok (.aload_n 0, 1) := by decide +kernel
theorem dX1_pullOutlook_18 : decode cX1_pullOutlook 18 = .ok (.getfield 11, 3) := by decide +kernel
theorem dX1_pullOutlook_21 : decode cX1_pullOutlook 21 = .ok (.iload_n 1, 1) := by decide +kernel
theorem dX1_pullOutlook_22 : decode cX1_pullOutlook 22 = .ok (.aaload, 1) := by decide +kernel
theorem dX1_pullOutlook_23 : decode cX1_pullOutlook 23 = .ok (.aload_n 0, 1) := by decide +kernel
theorem dX1_pullOutlook_24 : decode cX1_pullOutlook 24 = .ok (.getfield 11, 3) := by decide +kernel
theorem dX1_pullOutlook_27 : decode cX1_pullOutlook 27 = .ok (.iload_n 2, 1) := by decide +kernel
theorem dX1_pullOutlook_28 : decode cX1_pullOutlook 28 = .ok (.aaload, 1) := by decide +kernel
theorem dX1_pullOutlook_29 : decode cX1_pullOutlook 29 = .ok (.invokevirtual 63, 3) := by decide +kernel
theorem dX1_pullOutlook_32 : decode cX1_pullOutlook 32 = .ok (.istore 5, 2) := by decide +kernel
theorem dX1_pullOutlook_34 : decode cX1_pullOutlook 34 = .ok (.iload_n 3, 1) := by decide +kernel
theorem dX1_pullOutlook_35 : decode cX1_pullOutlook 35 = .ok (.lookupswitch 31 #[(0, 25), (1, 28)], 25) := by decide +kernel
theorem dX1_pullOutlook_60 : decode cX1_pullOutlook 60 = .ok (.iload 4, 2) := by decide +kernel
theorem dX1_pullOutlook_62 : decode cX1_pullOutlook 62 = .ok (.ireturn, 1) := by decide +kernel
theorem dX1_pullOutlook_63 : decode cX1_pullOutlook 63 = .ok (.iload 5, 2) := by decide +kernel
theorem dX1_pullOutlook_65 : decode cX1_pullOutlook 65 = .ok (.ireturn, 1) := by decide +kernel
theorem dX1_pullOutlook_66 : decode cX1_pullOutlook 66 = .ok (.aload_n 0, 1) := by decide +kernel
theorem dX1_pullOutlook_67 : decode cX1_pullOutlook 67 = .ok (.getfield 11, 3) := by decide +kernel
theorem dX1_pullOutlook_70 : decode cX1_pullOutlook 70 = .ok (.iload_n 1, 1) := by decide +kernel
theorem dX1_pullOutlook_71 : decode cX1_pullOutlook 71 = .ok (.aaload, 1) := by decide +kernel
theorem dX1_pullOutlook_72 : decode cX1_pullOutlook 72 = .ok (.getfield 55, 3) := by decide +kernel
theorem dX1_pullOutlook_75 : decode cX1_pullOutlook 75 = .ok (.iload 4, 2) := by decide +kernel
theorem dX1_pullOutlook_77 : decode cX1_pullOutlook 77 = .ok (.isub, 1) := by decide +kernel
theorem dX1_pullOutlook_78 : decode cX1_pullOutlook 78 = .ok (.iload 5, 2) := by decide +kernel
theorem dX1_pullOutlook_80 : decode cX1_pullOutlook 80 = .ok (.iadd, 1) := by decide +kernel
theorem dX1_pullOutlook_81 : decode cX1_pullOutlook 81 = .ok (.ireturn, 1) := by decide +kernel
theorem dX1_put_0 : decode cX1_put 0 = .ok (.aload_n 0, 1) := by decide +kernel
theorem dX1_put_1 : decode cX1_put 1 = .ok (.getfield 11, 3) := by decide +kernel
theorem dX1_put_4 : decode cX1_put 4 = .ok (.iload_n 2, 1) := by decide +kernel
theorem dX1_put_5 : decode cX1_put 5 = .ok (.aaload, 1) := by decide +kernel
theorem dX1_put_6 : decode cX1_put 6 = .ok (.aload_n 0, 1) := by decide +kernel
theorem dX1_put_7 : decode cX1_put 7 = .ok (.getfield 19, 3) := by decide +kernel
theorem dX1_put_10 : decode cX1_put 10 = .ok (.iload_n 1, 1) := by decide +kernel
theorem dX1_put_11 : decode cX1_put 11 = .ok (.aaload, 1) := by decide +kernel
theorem dX1_put_12 : decode cX1_put 12 = .ok (.invokevirtual 66, 3) := by decide +kernel
theorem dX1_put_15 : decode cX1_put 15 = .ok (.aload_n 0, 1) := by decide +kernel
theorem dX1_put_16 : decode cX1_put 16 = .ok (.getfield 22, 3) := by decide +kernel
theorem dX1_put_19 : decode cX1_put 19 = .ok (.iload_n 1, 1) := by decide +kernel
theorem dX1_put_20 : decode cX1_put 20 = .ok (.dup2, 1) := by decide +kernel
theorem dX1_put_21 : decode cX1_put 21 = .ok (.iaload, 1) := by decide +kernel
theorem dX1_put_22 : decode cX1_put 22 = .ok (.iconst 1, 1) := by decide +kernel
theorem dX1_put_23 : decode cX1_put 23 = .ok (.iadd, 1) := by decide +kernel
theorem dX1_put_24 : decode cX1_put 24 = .ok (.iastore, 1) := by decide +kernel
theorem dX1_put_25 : decode cX1_put 25 = .ok (.aload_n 0, 1) := by decide +kernel
theorem dX1_put_26 : decode cX1_put 26 = .ok (.getfield 11, 3) := by decide +kernel
theorem dX1_put_29 : decode cX1_put 29 = .ok (.iload_n 2, 1) := by decide +kernel
theorem dX1_put_30 : decode cX1_put 30 = .ok (.aaload, 1) := by decide +kernel
theorem dX1_put_31 : decode cX1_put 31 = .ok (.iload_n 1, 1) := by decide +kernel
theorem dX1_put_32 : decode cX1_put 32 = .ok (.sipush 1000, 3) := by decide +kernel
theorem dX1_put_35 : decode cX1_put 35 = .ok (.imul, 1) := by decide +kernel
theorem dX1_put_36 : decode cX1_put 36 = .ok (.aload_n 0, 1) := by decide +kernel
theorem dX1_put_37 : decode cX1_put 37 = .ok (.getfield 22, 3) := by decide +kernel
theorem dX1_put_40 : decode cX1_put 40 = .ok (.iload_n 1, 1) := by decide +kernel
theorem dX1_put_41 : decode cX1_put 41 = .ok (.iaload, 1) := by decide +kernel
theorem dX1_put_42 : decode cX1_put 42 = .ok (.iadd, 1) := by decide +kernel
theorem dX1_put_43 : decode cX1_put 43 = .ok (.iload_n 3, 1) := by decide +kernel
theorem dX1_put_44 : decode cX1_put 44 = .ok (.invokevirtual 70, 3) := by decide +kernel
theorem dX1_put_47 : decode cX1_put 47 = .ok (.aload_n 0, 1) := by decide +kernel
theorem dX1_put_48 : decode cX1_put 48 = .ok (.getfield 19, 3) := by decide +kernel
theorem dX1_put_51 : decode cX1_put 51 = .ok (.iload_n 1, 1) := by decide +kernel
theorem dX1_put_52 : decode cX1_put 52 = .ok (.aaload, 1) := by decide +kernel
theorem dX1_put_53 : decode cX1_put 53 = .ok (.iload_n 1, 1) := by decide +kernel
theorem dX1_put_54 : decode cX1_put 54 = .ok (.aload_n 0, 1) := by decide +kernel
theorem dX1_put_55 : decode cX1_put 55 = .ok (.getfield 22, 3) := by decide +kernel
theorem dX1_put_58 : decode cX1_put 58 = .ok (.iload_n 1, 1) := by decide +kernel
theorem dX1_put_59 : decode cX1_put 59 = .ok (.iaload, 1) := by decide +kernel
theorem dX1_put_60 : decode cX1_put 60 = .ok (.iastore, 1) := by decide +kernel
theorem dX1_put_61 : decode cX1_put 61 = .ok (.aload_n 0, 1) := by decide +kernel
theorem dX1_put_62 : decode cX1_put 62 = .ok (.getfield 11, 3) := by decide +kernel
theorem dX1_put_65 : decode cX1_put 65 = .ok (.iload_n 2, 1) := by decide +kernel
theorem dX1_put_66 : decode cX1_put 66 = .ok (.aaload, 1) := by decide +kernel
theorem dX1_put_67 : decode cX1_put 67 = .ok (.getfield 37, 3) := by decide +kernel
theorem dX1_put_70 : decode cX1_put 70 = .ok (.aload_n 0, 1) := by decide +kernel
theorem dX1_put_71 : decode cX1_put 71 = .ok (.getfield 19, 3) := by decide +kernel
theorem dX1_put_74 : decode cX1_put 74 = .ok (.iload_n 1, 1) := by decide +kernel
theorem dX1_put_75 : decode cX1_put 75 = .ok (.aaload, 1) := by decide +kernel
theorem dX1_put_76 : decode cX1_put 76 = .ok (.invokestatic 40, 3) := by decide +kernel
theorem dX1_put_79 : decode cX1_put 79 = .ok (.return_, 1) := by decide +kernel
theorem dX1_unlearn_0 : decode cX1_unlearn 0 = .ok (.iconst 0, 1) := by decide +kernel
theorem dX1_unlearn_1 : decode cX1_unlearn 1 = .ok (.istore_n 2, 1) := by decide +kernel
theorem dX1_unlearn_2 : decode cX1_unlearn 2 = .ok (.iconst 0, 1) := by decide +kernel
theorem dX1_unlearn_3 : decode cX1_unlearn 3 = .ok (.istore_n 3, 1) := by decide +kernel
theorem dX1_unlearn_4 : decode cX1_unlearn 4 = .ok (.iload_n 3, 1) := by decide +kernel
theorem dX1_unlearn_5 : decode cX1_unlearn 5 = .ok (.iconst 5, 1) := by decide +kernel
theorem dX1_unlearn_6 : decode cX1_unlearn 6 = .ok (.if_icmp .ge 34, 3) := by decide +kernel
theorem dX1_unlearn_9 : decode cX1_unlearn 9 = .ok (.iload_n 3, 1) := by decide +kernel
theorem dX1_unlearn_10 : decode cX1_unlearn 10 = .ok (.iload_n 1, 1) := by decide +kernel
theorem dX1_unlearn_11 : decode cX1_unlearn 11 = .ok (.if_icmp .eq 23, 3) := by decide +kernel
theorem dX1_unlearn_14 : decode cX1_unlearn 14 = .ok (.iload_n 2, 1) := by decide +kernel
theorem dX1_unlearn_15 : decode cX1_unlearn 15 = .ok (.aload_n 0, 1) := by decide +kernel
theorem dX1_unlearn_16 : decode cX1_unlearn 16 = .ok (.getfield 19, 3) := by decide +kernel
theorem dX1_unlearn_19 : decode cX1_unlearn 19 = .ok (.iload_n 1, 1) := by decide +kernel
theorem dX1_unlearn_20 : decode cX1_unlearn 20 = .ok (.aaload, 1) := by decide +kernel
theorem dX1_unlearn_21 : decode cX1_unlearn 21 = .ok (.iload_n 3, 1) := by decide +kernel
theorem dX1_unlearn_22 : decode cX1_unlearn 22 = .ok (.iaload, 1) := by decide +kernel
theorem dX1_unlearn_23 : decode cX1_unlearn 23 = .ok (.iadd, 1) := by decide +kernel
theorem dX1_unlearn_24 : decode cX1_unlearn 24 = .ok (.istore_n 2, 1) := by decide +kernel
theorem dX1_unlearn_25 : decode cX1_unlearn 25 = .ok (.aload_n 0, 1) := by decide +kernel
theorem dX1_unlearn_26 : decode cX1_unlearn 26 = .ok (.getfield 19, 3) := by decide +kernel
theorem dX1_unlearn_29 : decode cX1_unlearn 29 = .ok (.iload_n 1, 1) := by decide +kernel
theorem dX1_unlearn_30 : decode cX1_unlearn 30 = .ok (.aaload, 1) := by decide +kernel
theorem dX1_unlearn_31 : decode cX1_unlearn 31 = .ok (.iload_n 3, 1) := by decide +kernel
theorem dX1_unlearn_32 : decode cX1_unlearn 32 = .ok (.iconst 0, 1) := by decide +kernel
theorem dX1_unlearn_33 : decode cX1_unlearn 33 = .ok (.iastore, 1) := by decide +kernel
theorem dX1_unlearn_34 : decode cX1_unlearn 34 = .ok (.iinc 3 1, 3) := by decide +kernel
theorem dX1_unlearn_37 : decode cX1_unlearn 37 = .ok (.goto (-33), 3) := by decide +kernel
theorem dX1_unlearn_40 : decode cX1_unlearn 40 = .ok (.iload_n 2, 1) := by decide +kernel
theorem dX1_unlearn_41 : decode cX1_unlearn 41 = .ok (.ireturn, 1) := by decide +kernel
theorem dX1_hindrance_0 : decode cX1_hindrance 0 = .ok (.iconst 0, 1) := by decide +kernel
theorem dX1_hindrance_1 : decode cX1_hindrance 1 = .ok (.istore_n 2, 1) := by decide +kernel
theorem dX1_hindrance_2 : decode cX1_hindrance 2 = .ok (.iconst 0, 1) := by decide +kernel
theorem dX1_hindrance_3 : decode cX1_hindrance 3 = .ok (.istore_n 3, 1) := by decide +kernel
theorem dX1_hindrance_4 : decode cX1_hindrance 4 = .ok (.iload_n 3, 1) := by decide +kernel
theorem dX1_hindrance_5 : decode cX1_hindrance 5 = .ok (.iconst 3, 1) := by decide +kernel
theorem dX1_hindrance_6 : decode cX1_hindrance 6 = .ok (.if_icmp .ge 51, 3) := by decide +kernel
theorem dX1_hindrance_9 : decode cX1_hindrance 9 = .ok (.aload_n 0, 1) := by decide +kernel
theorem dX1_hindrance_10 : decode cX1_hindrance 10 = .ok (.getfield 11, 3) := by decide +kernel
theorem dX1_hindrance_13 : decode cX1_hindrance 13 = .ok (.iload_n 3, 1) := by decide +kernel
theorem dX1_hindrance_14 : decode cX1_hindrance 14 = .ok (.aaload, 1) := by decide +kernel
theorem dX1_hindrance_15 : decode cX1_hindrance 15 = .ok (.iload_n 1, 1) := by decide +kernel
theorem dX1_hindrance_16 : decode cX1_hindrance 16 = .ok (.invokevirtual 74, 3) := by decide +kernel
theorem dX1_hindrance_19 : decode cX1_hindrance 19 = .ok (.ifCond .eq 5, 3) := by decide +kernel
theorem dX1_hindrance_22 : decode cX1_hindrance 22 = .ok (.iconst 1, 1) := by decide +kernel
theorem dX1_hindrance_23 : decode cX1_hindrance 23 = .ok (.ireturn, 1) := by decide +kernel
theorem dX1_hindrance_24 : decode cX1_hindrance 24 = .ok (.aload_n 0, 1) := by decide +kernel
theorem dX1_hindrance_25 : decode cX1_hindrance 25 = .ok (.getfield 11, 3) := by decide +kernel
theorem dX1_hindrance_28 : decode cX1_hindrance 28 = .ok (.iload_n 3, 1) := by decide +kernel
theorem dX1_hindrance_29 : decode cX1_hindrance 29 = .ok (.aaload, 1) := by decide +kernel
theorem dX1_hindrance_30 : decode cX1_hindrance 30 = .ok (.getfield 37, 3) := by decide +kernel
theorem dX1_hindrance_33 : decode cX1_hindrance 33 = .ok (.iload_n 1, 1) := by decide +kernel
theorem dX1_hindrance_34 : decode cX1_hindrance 34 = .ok (.iaload, 1) := by decide +kernel
theorem dX1_hindrance_35 : decode cX1_hindrance 35 = .ok (.aload_n 0, 1) := by decide +kernel
theorem dX1_hindrance_36 : decode cX1_hindrance 36 = .ok (.getfield 11, 3) := by decide +kernel
theorem dX1_hindrance_39 : decode cX1_hindrance 39 = .ok (.iconst 0, 1) := by decide +kernel
theorem dX1_hindrance_40 : decode cX1_hindrance 40 = .ok (.aaload, 1) := by decide +kernel
theorem dX1_hindrance_41 : decode cX1_hindrance 41 = .ok (.getfield 37, 3) := by decide +kernel
theorem dX1_hindrance_44 : decode cX1_hindrance 44 = .ok (.iload_n 1, 1) := by decide +kernel
theorem dX1_hindrance_45 : decode cX1_hindrance 45 = .ok (.iaload, 1) := by decide +kernel
theorem dX1_hindrance_46 : decode cX1_hindrance 46 = .ok (.if_icmp .eq 5, 3) := by decide +kernel
theorem dX1_hindrance_49 : decode cX1_hindrance 49 = .ok (.iconst 1, 1) := by decide +kernel
theorem dX1_hindrance_50 : decode cX1_hindrance 50 = .ok (.istore_n 2, 1) := by decide +kernel
theorem dX1_hindrance_51 : decode cX1_hindrance 51 = .ok (.iinc 3 1, 3) := by decide +kernel
theorem dX1_hindrance_54 : decode cX1_hindrance 54 = .ok (.goto (-50), 3) := by decide +kernel
theorem dX1_hindrance_57 : decode cX1_hindrance 57 = .ok (.iload_n 2, 1) := by decide +kernel
theorem dX1_hindrance_58 : decode cX1_hindrance 58 = .ok (.ifCond .eq 7, 3) := by decide +kernel
theorem dX1_hindrance_61 : decode cX1_hindrance 61 = .ok (.iconst 2, 1) := by decide +kernel
theorem dX1_hindrance_62 : decode cX1_hindrance 62 = .ok (.goto 4, 3) := by decide +kernel
theorem dX1_hindrance_65 : decode cX1_hindrance 65 = .ok (.iconst 0, 1) := by decide +kernel
theorem dX1_hindrance_66 : decode cX1_hindrance 66 = .ok (.ireturn, 1) := by decide +kernel
theorem dX1_erase_0 : decode cX1_erase 0 = .ok (.iconst 0, 1) := by decide +kernel
theorem dX1_erase_1 : decode cX1_erase 1 = .ok (.istore_n 2, 1) := by decide +kernel
theorem dX1_erase_2 : decode cX1_erase 2 = .ok (.iload_n 2, 1) := by decide +kernel
theorem dX1_erase_3 : decode cX1_erase 3 = .ok (.iconst 3, 1) := by decide +kernel
theorem dX1_erase_4 : decode cX1_erase 4 = .ok (.if_icmp .ge 21, 3) := by decide +kernel
theorem dX1_erase_7 : decode cX1_erase 7 = .ok (.aload_n 0, 1) := by decide +kernel
theorem dX1_erase_8 : decode cX1_erase 8 = .ok (.getfield 11, 3) := by decide +kernel
theorem dX1_erase_11 : decode cX1_erase 11 = .ok (.iload_n 2, 1) := by decide +kernel
theorem dX1_erase_12 : decode cX1_erase 12 = .ok (.aaload, 1) := by decide +kernel
theorem dX1_erase_13 : decode cX1_erase 13 = .ok (.getfield 37, 3) := by decide +kernel
theorem dX1_erase_16 : decode cX1_erase 16 = .ok (.iload_n 1, 1) := by decide +kernel
theorem dX1_erase_17 : decode cX1_erase 17 = .ok (.iconst 0, 1) := by decide +kernel
theorem dX1_erase_18 : decode cX1_erase 18 = .ok (.iastore, 1) := by decide +kernel
theorem dX1_erase_19 : decode cX1_erase 19 = .ok (.iinc 2 1, 3) := by decide +kernel
theorem dX1_erase_22 : decode cX1_erase 22 = .ok (.goto (-20), 3) := by decide +kernel
theorem dX1_erase_25 : decode cX1_erase 25 = .ok (.iconst 0, 1) := by decide +kernel
theorem dX1_erase_26 : decode cX1_erase 26 = .ok (.istore_n 2, 1) := by decide +kernel
theorem dX1_erase_27 : decode cX1_erase 27 = .ok (.iload_n 2, 1) := by decide +kernel
theorem dX1_erase_28 : decode cX1_erase 28 = .ok (.iconst 5, 1) := by decide +kernel
theorem dX1_erase_29 : decode cX1_erase 29 = .ok (.if_icmp .ge 18, 3) := by decide +kernel
theorem dX1_erase_32 : decode cX1_erase 32 = .ok (.aload_n 0, 1) := by decide +kernel
theorem dX1_erase_33 : decode cX1_erase 33 = .ok (.getfield 19, 3) := by decide +kernel
theorem dX1_erase_36 : decode cX1_erase 36 = .ok (.iload_n 2, 1) := by decide +kernel
theorem dX1_erase_37 : decode cX1_erase 37 = .ok (.aaload, 1) := by decide +kernel
theorem dX1_erase_38 : decode cX1_erase 38 = .ok (.iload_n 1, 1) := by decide +kernel
theorem dX1_erase_39 : decode cX1_erase 39 = .ok (.iconst 0, 1) := by decide +kernel
theorem dX1_erase_40 : decode cX1_erase 40 = .ok (.iastore, 1) := by decide +kernel
theorem dX1_erase_41 : decode cX1_erase 41 = .ok (.iinc 2 1, 3) := by decide +kernel
theorem dX1_erase_44 : decode cX1_erase 44 = .ok (.goto (-17), 3) := by decide +kernel
theorem dX1_erase_47 : decode cX1_erase 47 = .ok (.aload_n 0, 1) := by decide +kernel
theorem dX1_erase_48 : decode cX1_erase 48 = .ok (.getfield 22, 3) := by decide +kernel
theorem dX1_erase_51 : decode cX1_erase 51 = .ok (.iload_n 1, 1) := by decide +kernel
theorem dX1_erase_52 : decode cX1_erase 52 = .ok (.iconst 0, 1) := by decide +kernel
theorem dX1_erase_53 : decode cX1_erase 53 = .ok (.iastore, 1) := by decide +kernel
theorem dX1_erase_54 : decode cX1_erase 54 = .ok (.return_, 1) := by decide +kernel
theorem dX1_siblingFact_0 : decode cX1_siblingFact 0 = .ok (.aload_n 0, 1) := by decide +kernel
theorem dX1_siblingFact_1 : decode cX1_siblingFact 1 = .ok (.getfield 11, 3) := by decide +kernel
theorem dX1_siblingFact_4 : decode cX1_siblingFact 4 = .ok (.iload_n 1, 1) := by decide +kernel
theorem dX1_siblingFact_5 : decode cX1_siblingFact 5 = .ok (.aaload, 1) := by decide +kernel
theorem dX1_siblingFact_6 : decode cX1_siblingFact 6 = .ok (.astore 4, 2) := by decide +kernel
theorem dX1_siblingFact_8 : decode cX1_siblingFact 8 = .ok (.iload_n 2, 1) := by decide +kernel
theorem dX1_siblingFact_9 : decode cX1_siblingFact 9 = .ok (.aload 4, 2) := by decide +kernel
theorem dX1_siblingFact_11 : decode cX1_siblingFact 11 = .ok (.getfield 55, 3) := by decide +kernel
theorem dX1_siblingFact_14 : decode cX1_siblingFact 14 = .ok (.if_icmp .lt 5, 3) := by decide +kernel
theorem dX1_siblingFact_17 : decode cX1_siblingFact 17 = .ok (.iconst (-1), 1) := by decide +kernel
theorem dX1_siblingFact_18 : decode cX1_siblingFact 18 = .ok (.ireturn, 1) := by decide +kernel
theorem dX1_siblingFact_19 : decode cX1_siblingFact 19 = .ok (.aload 4, 2) := by decide +kernel
theorem dX1_siblingFact_21 : decode cX1_siblingFact 21 = .ok (.getfield 78, 3) := by decide +kernel
theorem dX1_siblingFact_24 : decode cX1_siblingFact 24 = .ok (.iload_n 2, 1) := by decide +kernel
theorem dX1_siblingFact_25 : decode cX1_siblingFact 25 = .ok (.iaload, 1) := by decide +kernel
theorem dX1_siblingFact_26 : decode cX1_siblingFact 26 = .ok (.istore 5, 2) := by decide +kernel
theorem dX1_siblingFact_28 : decode cX1_siblingFact 28 = .ok (.iload_n 3, 1) := by decide +kernel
theorem dX1_siblingFact_29 : decode cX1_siblingFact 29 = .ok (.tableswitch 58 0 3 #[31, 37, 43, 51], 31) := by decide +kernel
theorem dX1_siblingFact_60 : decode cX1_siblingFact 60 = .ok (.iload 5, 2) := by decide +kernel
theorem dX1_siblingFact_62 : decode cX1_siblingFact 62 = .ok (.invokestatic 81, 3) := by decide +kernel
theorem dX1_siblingFact_65 : decode cX1_siblingFact 65 = .ok (.ireturn, 1) := by decide +kernel
theorem dX1_siblingFact_66 : decode cX1_siblingFact 66 = .ok (.iload 5, 2) := by decide +kernel
theorem dX1_siblingFact_68 : decode cX1_siblingFact 68 = .ok (.invokestatic 85, 3) := by decide +kernel
theorem dX1_siblingFact_71 : decode cX1_siblingFact 71 = .ok (.ireturn, 1) := by decide +kernel
theorem dX1_siblingFact_72 : decode cX1_siblingFact 72 = .ok (.aload 4, 2) := by decide +kernel
theorem dX1_siblingFact_74 : decode cX1_siblingFact 74 = .ok (.getfield 88, 3) := by decide +kernel
theorem dX1_siblingFact_77 : decode cX1_siblingFact 77 = .ok (.iload_n 2, 1) := by decide +kernel
theorem dX1_siblingFact_78 : decode cX1_siblingFact 78 = .ok (.iaload, 1) := by decide +kernel
theorem dX1_siblingFact_79 : decode cX1_siblingFact 79 = .ok (.ireturn, 1) := by decide +kernel
theorem dX1_siblingFact_80 : decode cX1_siblingFact 80 = .ok (.aload_n 0, 1) := by decide +kernel
theorem dX1_siblingFact_81 : decode cX1_siblingFact 81 = .ok (.iload 5, 2) := by decide +kernel
theorem dX1_siblingFact_83 : decode cX1_siblingFact 83 = .ok (.invokevirtual 91, 3) := by decide +kernel
theorem dX1_siblingFact_86 : decode cX1_siblingFact 86 = .ok (.ireturn, 1) := by decide +kernel
theorem dX1_siblingFact_87 : decode cX1_siblingFact 87 = .ok (.aload_n 0, 1) := by decide +kernel
theorem dX1_siblingFact_88 : decode cX1_siblingFact 88 = .ok (.iload 5, 2) := by decide +kernel
theorem dX1_siblingFact_90 : decode cX1_siblingFact 90 = .ok (.invokevirtual 94, 3) := by decide +kernel
theorem dX1_siblingFact_93 : decode cX1_siblingFact 93 = .ok (.ireturn, 1) := by decide +kernel
theorem dX1_knowers_0 : decode cX1_knowers 0 = .ok (.iconst 0, 1) := by decide +kernel
theorem dX1_knowers_1 : decode cX1_knowers 1 = .ok (.istore_n 2, 1) := by decide +kernel
theorem dX1_knowers_2 : decode cX1_knowers 2 = .ok (.iconst 0, 1) := by decide +kernel
theorem dX1_knowers_3 : decode cX1_knowers 3 = .ok (.istore_n 3, 1) := by decide +kernel
theorem dX1_knowers_4 : decode cX1_knowers 4 = .ok (.iload_n 3, 1) := by decide +kernel
theorem dX1_knowers_5 : decode cX1_knowers 5 = .ok (.iconst 5, 1) := by decide +kernel
theorem dX1_knowers_6 : decode cX1_knowers 6 = .ok (.if_icmp .ge 28, 3) := by decide +kernel
theorem dX1_knowers_9 : decode cX1_knowers 9 = .ok (.aload_n 0, 1) := by decide +kernel
theorem dX1_knowers_10 : decode cX1_knowers 10 = .ok (.getfield 19, 3) := by decide +kernel
theorem dX1_knowers_13 : decode cX1_knowers 13 = .ok (.iload_n 3, 1) := by decide +kernel
theorem dX1_knowers_14 : decode cX1_knowers 14 = .ok (.aaload, 1) := by decide +kernel
theorem dX1_knowers_15 : decode cX1_knowers 15 = .ok (.iload_n 1, 1) := by decide +kernel
theorem dX1_knowers_16 : decode cX1_knowers 16 = .ok (.invokestatic 97, 3) := by decide +kernel
theorem dX1_knowers_19 : decode cX1_knowers 19 = .ok (.ifCond .eq 9, 3) := by decide +kernel
theorem dX1_knowers_22 : decode cX1_knowers 22 = .ok (.iload_n 2, 1) := by decide +kernel
theorem dX1_knowers_23 : decode cX1_knowers 23 = .ok (.iconst 1, 1) := by decide +kernel
theorem dX1_knowers_24 : decode cX1_knowers 24 = .ok (.iload_n 3, 1) := by decide +kernel
theorem dX1_knowers_25 : decode cX1_knowers 25 = .ok (.ishl, 1) := by decide +kernel
theorem dX1_knowers_26 : decode cX1_knowers 26 = .ok (.ior, 1) := by decide +kernel
theorem dX1_knowers_27 : decode cX1_knowers 27 = .ok (.istore_n 2, 1) := by decide +kernel
theorem dX1_knowers_28 : decode cX1_knowers 28 = .ok (.iinc 3 1, 3) := by decide +kernel
theorem dX1_knowers_31 : decode cX1_knowers 31 = .ok (.goto (-27), 3) := by decide +kernel
theorem dX1_knowers_34 : decode cX1_knowers 34 = .ok (.iload_n 2, 1) := by decide +kernel
theorem dX1_knowers_35 : decode cX1_knowers 35 = .ok (.ireturn, 1) := by decide +kernel
theorem dX1_holders_0 : decode cX1_holders 0 = .ok (.iconst 0, 1) := by decide +kernel
theorem dX1_holders_1 : decode cX1_holders 1 = .ok (.istore_n 2, 1) := by decide +kernel
theorem dX1_holders_2 : decode cX1_holders 2 = .ok (.iconst 0, 1) := by decide +kernel
theorem dX1_holders_3 : decode cX1_holders 3 = .ok (.istore_n 3, 1) := by decide +kernel
theorem dX1_holders_4 : decode cX1_holders 4 = .ok (.iload_n 3, 1) := by decide +kernel
theorem dX1_holders_5 : decode cX1_holders 5 = .ok (.iconst 3, 1) := by decide +kernel
theorem dX1_holders_6 : decode cX1_holders 6 = .ok (.if_icmp .ge 28, 3) := by decide +kernel
theorem dX1_holders_9 : decode cX1_holders 9 = .ok (.aload_n 0, 1) := by decide +kernel
theorem dX1_holders_10 : decode cX1_holders 10 = .ok (.getfield 11, 3) := by decide +kernel
theorem dX1_holders_13 : decode cX1_holders 13 = .ok (.iload_n 3, 1) := by decide +kernel
theorem dX1_holders_14 : decode cX1_holders 14 = .ok (.aaload, 1) := by decide +kernel
theorem dX1_holders_15 : decode cX1_holders 15 = .ok (.iload_n 1, 1) := by decide +kernel
theorem dX1_holders_16 : decode cX1_holders 16 = .ok (.invokevirtual 101, 3) := by decide +kernel
theorem dX1_holders_19 : decode cX1_holders 19 = .ok (.ifCond .eq 9, 3) := by decide +kernel
theorem dX1_holders_22 : decode cX1_holders 22 = .ok (.iload_n 2, 1) := by decide +kernel
theorem dX1_holders_23 : decode cX1_holders 23 = .ok (.iconst 1, 1) := by decide +kernel
theorem dX1_holders_24 : decode cX1_holders 24 = .ok (.iload_n 3, 1) := by decide +kernel
theorem dX1_holders_25 : decode cX1_holders 25 = .ok (.ishl, 1) := by decide +kernel
theorem dX1_holders_26 : decode cX1_holders 26 = .ok (.ior, 1) := by decide +kernel
theorem dX1_holders_27 : decode cX1_holders 27 = .ok (.istore_n 2, 1) := by decide +kernel
theorem dX1_holders_28 : decode cX1_holders 28 = .ok (.iinc 3 1, 3) := by decide +kernel
theorem dX1_holders_31 : decode cX1_holders 31 = .ok (.goto (-27), 3) := by decide +kernel
theorem dX1_holders_34 : decode cX1_holders 34 = .ok (.iload_n 2, 1) := by decide +kernel
theorem dX1_holders_35 : decode cX1_holders 35 = .ok (.ireturn, 1) := by decide +kernel
theorem dX1_keyFact_0 : decode cX1_keyFact 0 = .ok (.iload_n 1, 1) := by decide +kernel
theorem dX1_keyFact_1 : decode cX1_keyFact 1 = .ok (.tableswitch 77 3 7 #[35, 40, 45, 59, 72], 35) := by decide +kernel
theorem dX1_keyFact_36 : decode cX1_keyFact 36 = .ok (.aload_n 0, 1) := by decide +kernel
theorem dX1_keyFact_37 : decode cX1_keyFact 37 = .ok (.invokevirtual 104, 3) := by decide +kernel
theorem dX1_keyFact_40 : decode cX1_keyFact 40 = .ok (.ireturn, 1) := by decide +kernel
theorem dX1_keyFact_41 : decode cX1_keyFact 41 = .ok (.aload_n 0, 1) := by decide +kernel
theorem dX1_keyFact_42 : decode cX1_keyFact 42 = .ok (.invokevirtual 108, 3) := by decide +kernel
theorem dX1_keyFact_45 : decode cX1_keyFact 45 = .ok (.ireturn, 1) := by decide +kernel
theorem dX1_keyFact_46 : decode cX1_keyFact 46 = .ok (.aload_n 0, 1) := by decide +kernel
theorem dX1_keyFact_47 : decode cX1_keyFact 47 = .ok (.invokevirtual 111, 3) := by decide +kernel
theorem dX1_keyFact_50 : decode cX1_keyFact 50 = .ok (.iconst 3, 1) := by decide +kernel
theorem dX1_keyFact_51 : decode cX1_keyFact 51 = .ok (.if_icmp .ne 7, 3) := by decide +kernel
theorem dX1_keyFact_54 : decode cX1_keyFact 54 = .ok (.iconst 1, 1) := by decide +kernel
theorem dX1_keyFact_55 : decode cX1_keyFact 55 = .ok (.goto 4, 3) := by decide +kernel
theorem dX1_keyFact_58 : decode cX1_keyFact 58 = .ok (.iconst 0, 1) := by decide +kernel
theorem dX1_keyFact_59 : decode cX1_keyFact 59 = .ok (.ireturn, 1) := by decide +kernel
theorem dX1_keyFact_60 : decode cX1_keyFact 60 = .ok (.aload_n 0, 1) := by decide +kernel
theorem dX1_keyFact_61 : decode cX1_keyFact 61 = .ok (.invokevirtual 114, 3) := by decide +kernel
theorem dX1_keyFact_64 : decode cX1_keyFact 64 = .ok (.ifCond .eq 7, 3) := by decide +kernel
theorem dX1_keyFact_67 : decode cX1_keyFact 67 = .ok (.iconst 1, 1) := by decide +kernel
theorem dX1_keyFact_68 : decode cX1_keyFact 68 = .ok (.goto 4, 3) := by decide +kernel
theorem dX1_keyFact_71 : decode cX1_keyFact 71 = .ok (.iconst 0, 1) := by decide +kernel
theorem dX1_keyFact_72 : decode cX1_keyFact 72 = .ok (.ireturn, 1) := by decide +kernel
theorem dX1_keyFact_73 : decode cX1_keyFact 73 = .ok (.aload_n 0, 1) := by decide +kernel
theorem dX1_keyFact_74 : decode cX1_keyFact 74 = .ok (.invokevirtual 118, 3) := by decide +kernel
theorem dX1_keyFact_77 : decode cX1_keyFact 77 = .ok (.ireturn, 1) := by decide +kernel
theorem dX1_keyFact_78 : decode cX1_keyFact 78 = .ok (.iload_n 1, 1) := by decide +kernel
theorem dX1_keyFact_79 : decode cX1_keyFact 79 = .ok (.ifCond .lt 20, 3) := by decide +kernel
theorem dX1_keyFact_82 : decode cX1_keyFact 82 = .ok (.iload_n 1, 1) := by decide +kernel
theorem dX1_keyFact_83 : decode cX1_keyFact 83 = .ok (.iconst 3, 1) := by decide +kernel
theorem dX1_keyFact_84 : decode cX1_keyFact 84 = .ok (.if_icmp .ge 15, 3) := by decide +kernel
theorem dX1_keyFact_87 : decode cX1_keyFact 87 = .ok (.aload_n 0, 1) := by decide +kernel
theorem dX1_keyFact_88 : decode cX1_keyFact 88 = .ok (.getfield 11, 3) := by decide +kernel
theorem dX1_keyFact_91 : decode cX1_keyFact 91 = .ok (.iload_n 1, 1) := by decide +kernel
theorem dX1_keyFact_92 : decode cX1_keyFact 92 = .ok (.aaload, 1) := by decide +kernel
theorem dX1_keyFact_93 : decode cX1_keyFact 93 = .ok (.getfield 55, 3) := by decide +kernel
theorem dX1_keyFact_96 : decode cX1_keyFact 96 = .ok (.goto 4, 3) := by decide +kernel
theorem dX1_keyFact_99 : decode cX1_keyFact 99 = .ok (.iconst (-1), 1) := by decide +kernel
theorem dX1_keyFact_100 : decode cX1_keyFact 100 = .ok (.ireturn, 1) := by decide +kernel
theorem dX1_unlikeSiblings_0 : decode cX1_unlikeSiblings 0 = .ok (.iconst 0, 1) := by decide +kernel
theorem dX1_unlikeSiblings_1 : decode cX1_unlikeSiblings 1 = .ok (.istore_n 1, 1) := by decide +kernel
theorem dX1_unlikeSiblings_2 : decode cX1_unlikeSiblings 2 = .ok (.iconst 0, 1) := by decide +kernel
theorem dX1_unlikeSiblings_3 : decode cX1_unlikeSiblings 3 = .ok (.istore_n 2, 1) := by decide +kernel
theorem dX1_unlikeSiblings_4 : decode cX1_unlikeSiblings 4 = .ok (.iload_n 2, 1) := by decide +kernel
theorem dX1_unlikeSiblings_5 : decode cX1_unlikeSiblings 5 = .ok (.iconst 3, 1) := by decide +kernel
theorem dX1_unlikeSiblings_6 : decode cX1_unlikeSiblings 6 = .ok (.if_icmp .ge 61, 3) := by decide +kernel
theorem dX1_unlikeSiblings_9 : decode cX1_unlikeSiblings 9 = .ok (.iconst 0, 1) := by decide +kernel
theorem dX1_unlikeSiblings_10 : decode cX1_unlikeSiblings 10 = .ok (.istore_n 3, 1) := by decide +kernel
theorem dX1_unlikeSiblings_11 : decode cX1_unlikeSiblings 11 = .ok (.iload_n 3, 1) := by decide +kernel
theorem dX1_unlikeSiblings_12 : decode cX1_unlikeSiblings 12 = .ok (.aload_n 0, 1) := by decide +kernel
theorem dX1_unlikeSiblings_13 : decode cX1_unlikeSiblings 13 = .ok (.getfield 11, 3) := by decide +kernel
theorem dX1_unlikeSiblings_16 : decode cX1_unlikeSiblings 16 = .ok (.iload_n 2, 1) := by decide +kernel
theorem dX1_unlikeSiblings_17 : decode cX1_unlikeSiblings 17 = .ok (.aaload, 1) := by decide +kernel
theorem dX1_unlikeSiblings_18 : decode cX1_unlikeSiblings 18 = .ok (.getfield 55, 3) := by decide +kernel
theorem dX1_unlikeSiblings_21 : decode cX1_unlikeSiblings 21 = .ok (.if_icmp .ge 40, 3) := by decide +kernel
theorem dX1_unlikeSiblings_24 : decode cX1_unlikeSiblings 24 = .ok (.aload_n 0, 1) := by decide +kernel
theorem dX1_unlikeSiblings_25 : decode cX1_unlikeSiblings 25 = .ok (.aload_n 0, 1) := by decide +kernel
theorem dX1_unlikeSiblings_26 : decode cX1_unlikeSiblings 26 = .ok (.getfield 11, 3) := by decide +kernel
theorem dX1_unlikeSiblings_29 : decode cX1_unlikeSiblings 29 = .ok (.iload_n 2, 1) := by decide +kernel
theorem dX1_unlikeSiblings_30 : decode cX1_unlikeSiblings 30 = .ok (.aaload, 1) := by decide +kernel
theorem dX1_unlikeSiblings_31 : decode cX1_unlikeSiblings 31 = .ok (.getfield 78, 3) := by decide +kernel
theorem dX1_unlikeSiblings_34 : decode cX1_unlikeSiblings 34 = .ok (.iload_n 3, 1) := by decide +kernel
theorem dX1_unlikeSiblings_35 : decode cX1_unlikeSiblings 35 = .ok (.iaload, 1) := by decide +kernel
theorem dX1_unlikeSiblings_36 : decode cX1_unlikeSiblings 36 = .ok (.invokevirtual 94, 3) := by decide +kernel
theorem dX1_unlikeSiblings_39 : decode cX1_unlikeSiblings 39 = .ok (.iconst 1, 1) := by decide +kernel
theorem dX1_unlikeSiblings_40 : decode cX1_unlikeSiblings 40 = .ok (.iload_n 2, 1) := by decide +kernel
theorem dX1_unlikeSiblings_41 : decode cX1_unlikeSiblings 41 = .ok (.ishl, 1) := by decide +kernel
theorem dX1_unlikeSiblings_42 : decode cX1_unlikeSiblings 42 = .ok (.iconst 1, 1) := by decide +kernel
theorem dX1_unlikeSiblings_43 : decode cX1_unlikeSiblings 43 = .ok (.isub, 1) := by decide +kernel
theorem dX1_unlikeSiblings_44 : decode cX1_unlikeSiblings 44 = .ok (.iand, 1) := by decide +kernel
theorem dX1_unlikeSiblings_45 : decode cX1_unlikeSiblings 45 = .ok (.istore 4, 2) := by decide +kernel
theorem dX1_unlikeSiblings_47 : decode cX1_unlikeSiblings 47 = .ok (.iload 4, 2) := by decide +kernel
theorem dX1_unlikeSiblings_49 : decode cX1_unlikeSiblings 49 = .ok (.ifCond .ne 6, 3) := by decide +kernel
theorem dX1_unlikeSiblings_52 : decode cX1_unlikeSiblings 52 = .ok (.iinc 1 1, 3) := by decide +kernel
theorem dX1_unlikeSiblings_55 : decode cX1_unlikeSiblings 55 = .ok (.iinc 3 1, 3) := by decide +kernel
theorem dX1_unlikeSiblings_58 : decode cX1_unlikeSiblings 58 = .ok (.goto (-47), 3) := by decide +kernel
theorem dX1_unlikeSiblings_61 : decode cX1_unlikeSiblings 61 = .ok (.iinc 2 1, 3) := by decide +kernel
theorem dX1_unlikeSiblings_64 : decode cX1_unlikeSiblings 64 = .ok (.goto (-60), 3) := by decide +kernel
theorem dX1_unlikeSiblings_67 : decode cX1_unlikeSiblings 67 = .ok (.iload_n 1, 1) := by decide +kernel
theorem dX1_unlikeSiblings_68 : decode cX1_unlikeSiblings 68 = .ok (.ireturn, 1) := by decide +kernel
theorem dX1_writesInAll_0 : decode cX1_writesInAll 0 = .ok (.iconst 0, 1) := by decide +kernel
theorem dX1_writesInAll_1 : decode cX1_writesInAll 1 = .ok (.istore_n 1, 1) := by decide +kernel
theorem dX1_writesInAll_2 : decode cX1_writesInAll 2 = .ok (.iconst 0, 1) := by decide +kernel
theorem dX1_writesInAll_3 : decode cX1_writesInAll 3 = .ok (.istore_n 2, 1) := by decide +kernel
theorem dX1_writesInAll_4 : decode cX1_writesInAll 4 = .ok (.iload_n 2, 1) := by decide +kernel
theorem dX1_writesInAll_5 : decode cX1_writesInAll 5 = .ok (.iconst 5, 1) := by decide +kernel
theorem dX1_writesInAll_6 : decode cX1_writesInAll 6 = .ok (.if_icmp .ge 18, 3) := by decide +kernel
theorem dX1_writesInAll_9 : decode cX1_writesInAll 9 = .ok (.iload_n 1, 1) := by decide +kernel
theorem dX1_writesInAll_10 : decode cX1_writesInAll 10 = .ok (.aload_n 0, 1) := by decide +kernel
theorem dX1_writesInAll_11 : decode cX1_writesInAll 11 = .ok (.getfield 22, 3) := by decide +kernel
theorem dX1_writesInAll_14 : decode cX1_writesInAll 14 = .ok (.iload_n 2, 1) := by decide +kernel
theorem dX1_writesInAll_15 : decode cX1_writesInAll 15 = .ok (.iaload, 1) := by decide +kernel
theorem dX1_writesInAll_16 : decode cX1_writesInAll 16 = .ok (.iadd, 1) := by decide +kernel
theorem dX1_writesInAll_17 : decode cX1_writesInAll 17 = .ok (.istore_n 1, 1) := by decide +kernel
theorem dX1_writesInAll_18 : decode cX1_writesInAll 18 = .ok (.iinc 2 1, 3) := by decide +kernel
theorem dX1_writesInAll_21 : decode cX1_writesInAll 21 = .ok (.goto (-17), 3) := by decide +kernel
theorem dX1_writesInAll_24 : decode cX1_writesInAll 24 = .ok (.iload_n 1, 1) := by decide +kernel
theorem dX1_writesInAll_25 : decode cX1_writesInAll 25 = .ok (.ireturn, 1) := by decide +kernel
theorem dX1_agreeingPairs_0 : decode cX1_agreeingPairs 0 = .ok (.iconst 0, 1) := by decide +kernel
theorem dX1_agreeingPairs_1 : decode cX1_agreeingPairs 1 = .ok (.istore_n 1, 1) := by decide +kernel
theorem dX1_agreeingPairs_2 : decode cX1_agreeingPairs 2 = .ok (.iconst 0, 1) := by decide +kernel
theorem dX1_agreeingPairs_3 : decode cX1_agreeingPairs 3 = .ok (.istore_n 2, 1) := by decide +kernel
theorem dX1_agreeingPairs_4 : decode cX1_agreeingPairs 4 = .ok (.iload_n 2, 1) := by decide +kernel
theorem dX1_agreeingPairs_5 : decode cX1_agreeingPairs 5 = .ok (.iconst 3, 1) := by decide +kernel
theorem dX1_agreeingPairs_6 : decode cX1_agreeingPairs 6 = .ok (.if_icmp .ge 45, 3) := by decide +kernel
theorem dX1_agreeingPairs_9 : decode cX1_agreeingPairs 9 = .ok (.iload_n 2, 1) := by decide +kernel
theorem dX1_agreeingPairs_10 : decode cX1_agreeingPairs 10 = .ok (.iconst 1, 1) := by decide +kernel
theorem dX1_agreeingPairs_11 : decode cX1_agreeingPairs 11 = .ok (.iadd, 1) := by decide +kernel
theorem dX1_agreeingPairs_12 : decode cX1_agreeingPairs 12 = .ok (.istore_n 3, 1) := by decide +kernel
theorem dX1_agreeingPairs_13 : decode cX1_agreeingPairs 13 = .ok (.iload_n 3, 1) := by decide +kernel
theorem dX1_agreeingPairs_14 : decode cX1_agreeingPairs 14 = .ok (.iconst 3, 1) := by decide +kernel
theorem dX1_agreeingPairs_15 : decode cX1_agreeingPairs 15 = .ok (.if_icmp .ge 30, 3) := by decide +kernel
theorem dX1_agreeingPairs_18 : decode cX1_agreeingPairs 18 = .ok (.aload_n 0, 1) := by decide +kernel
theorem dX1_agreeingPairs_19 : decode cX1_agreeingPairs 19 = .ok (.getfield 11, 3) := by decide +kernel
theorem dX1_agreeingPairs_22 : decode cX1_agreeingPairs 22 = .ok (.iload_n 2, 1) := by decide +kernel
theorem dX1_agreeingPairs_23 : decode cX1_agreeingPairs 23 = .ok (.aaload, 1) := by decide +kernel
theorem dX1_agreeingPairs_24 : decode cX1_agreeingPairs 24 = .ok (.aload_n 0, 1) := by decide +kernel
theorem dX1_agreeingPairs_25 : decode cX1_agreeingPairs 25 = .ok (.getfield 11, 3) := by decide +kernel
theorem dX1_agreeingPairs_28 : decode cX1_agreeingPairs 28 = .ok (.iload_n 3, 1) := by decide +kernel
theorem dX1_agreeingPairs_29 : decode cX1_agreeingPairs 29 = .ok (.aaload, 1) := by decide +kernel
theorem dX1_agreeingPairs_30 : decode cX1_agreeingPairs 30 = .ok (.invokevirtual 121, 3) := by decide +kernel
theorem dX1_agreeingPairs_33 : decode cX1_agreeingPairs 33 = .ok (.ifCond .eq 6, 3) := by decide +kernel
theorem dX1_agreeingPairs_36 : decode cX1_agreeingPairs 36 = .ok (.iinc 1 1, 3) := by decide +kernel
theorem dX1_agreeingPairs_39 : decode cX1_agreeingPairs 39 = .ok (.iinc 3 1, 3) := by decide +kernel
theorem dX1_agreeingPairs_42 : decode cX1_agreeingPairs 42 = .ok (.goto (-29), 3) := by decide +kernel
theorem dX1_agreeingPairs_45 : decode cX1_agreeingPairs 45 = .ok (.iinc 2 1, 3) := by decide +kernel
theorem dX1_agreeingPairs_48 : decode cX1_agreeingPairs 48 = .ok (.goto (-44), 3) := by decide +kernel
theorem dX1_agreeingPairs_51 : decode cX1_agreeingPairs 51 = .ok (.iload_n 1, 1) := by decide +kernel
theorem dX1_agreeingPairs_52 : decode cX1_agreeingPairs 52 = .ok (.ireturn, 1) := by decide +kernel
theorem dX1_allSeeTheSame_0 : decode cX1_allSeeTheSame 0 = .ok (.iconst 1, 1) := by decide +kernel
theorem dX1_allSeeTheSame_1 : decode cX1_allSeeTheSame 1 = .ok (.istore_n 1, 1) := by decide +kernel
theorem dX1_allSeeTheSame_2 : decode cX1_allSeeTheSame 2 = .ok (.iload_n 1, 1) := by decide +kernel
theorem dX1_allSeeTheSame_3 : decode cX1_allSeeTheSame 3 = .ok (.iconst 3, 1) := by decide +kernel
theorem dX1_allSeeTheSame_4 : decode cX1_allSeeTheSame 4 = .ok (.if_icmp .ge 35, 3) := by decide +kernel
theorem dX1_allSeeTheSame_7 : decode cX1_allSeeTheSame 7 = .ok (.aload_n 0, 1) := by decide +kernel
theorem dX1_allSeeTheSame_8 : decode cX1_allSeeTheSame 8 = .ok (.getfield 11, 3) := by decide +kernel
theorem dX1_allSeeTheSame_11 : decode cX1_allSeeTheSame 11 = .ok (.iconst 0, 1) := by decide +kernel
theorem dX1_allSeeTheSame_12 : decode cX1_allSeeTheSame 12 = .ok (.aaload, 1) := by decide +kernel
theorem dX1_allSeeTheSame_13 : decode cX1_allSeeTheSame 13 = .ok (.getfield 37, 3) := by decide +kernel
theorem dX1_allSeeTheSame_16 : decode cX1_allSeeTheSame 16 = .ok (.aload_n 0, 1) := by decide +kernel
theorem dX1_allSeeTheSame_17 : decode cX1_allSeeTheSame 17 = .ok (.getfield 11, 3) := by decide +kernel
theorem dX1_allSeeTheSame_20 : decode cX1_allSeeTheSame 20 = .ok (.iload_n 1, 1) := by decide +kernel
theorem dX1_allSeeTheSame_21 : decode cX1_allSeeTheSame 21 = .ok (.aaload, 1) := by decide +kernel
theorem dX1_allSeeTheSame_22 : decode cX1_allSeeTheSame 22 = .ok (.getfield 37, 3) := by decide +kernel
theorem dX1_allSeeTheSame_25 : decode cX1_allSeeTheSame 25 = .ok (.invokestatic 125, 3) := by decide +kernel
theorem dX1_allSeeTheSame_28 : decode cX1_allSeeTheSame 28 = .ok (.ifCond .ne 5, 3) := by decide +kernel
theorem dX1_allSeeTheSame_31 : decode cX1_allSeeTheSame 31 = .ok (.iconst 0, 1) := by decide +kernel
theorem dX1_allSeeTheSame_32 : decode cX1_allSeeTheSame 32 = .ok (.ireturn, 1) := by decide +kernel
theorem dX1_allSeeTheSame_33 : decode cX1_allSeeTheSame 33 = .ok (.iinc 1 1, 3) := by decide +kernel
theorem dX1_allSeeTheSame_36 : decode cX1_allSeeTheSame 36 = .ok (.goto (-34), 3) := by decide +kernel
theorem dX1_allSeeTheSame_39 : decode cX1_allSeeTheSame 39 = .ok (.iconst 1, 1) := by decide +kernel
theorem dX1_allSeeTheSame_40 : decode cX1_allSeeTheSame 40 = .ok (.ireturn, 1) := by decide +kernel
theorem dX1_forgettable_0 : decode cX1_forgettable 0 = .ok (.iconst 0, 1) := by decide +kernel
theorem dX1_forgettable_1 : decode cX1_forgettable 1 = .ok (.istore_n 1, 1) := by decide +kernel
theorem dX1_forgettable_2 : decode cX1_forgettable 2 = .ok (.iconst 0, 1) := by decide +kernel
theorem dX1_forgettable_3 : decode cX1_forgettable 3 = .ok (.istore_n 2, 1) := by decide +kernel
theorem dX1_forgettable_4 : decode cX1_forgettable 4 = .ok (.iload_n 2, 1) := by decide +kernel
theorem dX1_forgettable_5 : decode cX1_forgettable 5 = .ok (.iconst 5, 1) := by decide +kernel
theorem dX1_forgettable_6 : decode cX1_forgettable 6 = .ok (.if_icmp .ge 37, 3) := by decide +kernel
theorem dX1_forgettable_9 : decode cX1_forgettable 9 = .ok (.aload_n 0, 1) := by decide +kernel
theorem dX1_forgettable_10 : decode cX1_forgettable 10 = .ok (.iload_n 2, 1) := by decide +kernel
theorem dX1_forgettable_11 : decode cX1_forgettable 11 = .ok (.invokevirtual 129, 3) := by decide +kernel
theorem dX1_forgettable_14 : decode cX1_forgettable 14 = .ok (.ifCond .ne 23, 3) := by decide +kernel
theorem dX1_forgettable_17 : decode cX1_forgettable 17 = .ok (.aload_n 0, 1) := by decide +kernel
theorem dX1_forgettable_18 : decode cX1_forgettable 18 = .ok (.getfield 11, 3) := by decide +kernel
theorem dX1_forgettable_21 : decode cX1_forgettable 21 = .ok (.iconst 0, 1) := by decide +kernel
theorem dX1_forgettable_22 : decode cX1_forgettable 22 = .ok (.aaload, 1) := by decide +kernel
theorem dX1_forgettable_23 : decode cX1_forgettable 23 = .ok (.getfield 37, 3) := by decide +kernel
theorem dX1_forgettable_26 : decode cX1_forgettable 26 = .ok (.iload_n 2, 1) := by decide +kernel
theorem dX1_forgettable_27 : decode cX1_forgettable 27 = .ok (.iaload, 1) := by decide +kernel
theorem dX1_forgettable_28 : decode cX1_forgettable 28 = .ok (.ifCond .le 9, 3) := by decide +kernel
theorem dX1_forgettable_31 : decode cX1_forgettable 31 = .ok (.iload_n 1, 1) := by decide +kernel
theorem dX1_forgettable_32 : decode cX1_forgettable 32 = .ok (.iconst 1, 1) := by decide +kernel
theorem dX1_forgettable_33 : decode cX1_forgettable 33 = .ok (.iload_n 2, 1) := by decide +kernel
theorem dX1_forgettable_34 : decode cX1_forgettable 34 = .ok (.ishl, 1) := by decide +kernel
theorem dX1_forgettable_35 : decode cX1_forgettable 35 = .ok (.ior, 1) := by decide +kernel
theorem dX1_forgettable_36 : decode cX1_forgettable 36 = .ok (.istore_n 1, 1) := by decide +kernel
theorem dX1_forgettable_37 : decode cX1_forgettable 37 = .ok (.iinc 2 1, 3) := by decide +kernel
theorem dX1_forgettable_40 : decode cX1_forgettable 40 = .ok (.goto (-36), 3) := by decide +kernel
theorem dX1_forgettable_43 : decode cX1_forgettable 43 = .ok (.iload_n 1, 1) := by decide +kernel
theorem dX1_forgettable_44 : decode cX1_forgettable 44 = .ok (.ireturn, 1) := by decide +kernel
theorem dX2_init_0 : decode cX2_init 0 = .ok (.aload_n 0, 1) := by decide +kernel
theorem dX2_init_1 : decode cX2_init 1 = .ok (.invokespecial 1, 3) := by decide +kernel
theorem dX2_init_4 : decode cX2_init 4 = .ok (.return_, 1) := by decide +kernel
theorem dX2_restart_0 : decode cX2_restart 0 = .ok (.aload_n 0, 1) := by decide +kernel
theorem dX2_restart_1 : decode cX2_restart 1 = .ok (.iconst 0, 1) := by decide +kernel
theorem dX2_restart_2 : decode cX2_restart 2 = .ok (.putfield 7, 3) := by decide +kernel
theorem dX2_restart_5 : decode cX2_restart 5 = .ok (.return_, 1) := by decide +kernel
theorem dX2_isWhole_0 : decode cX2_isWhole 0 = .ok (.aload_n 0, 1) := by decide +kernel
theorem dX2_isWhole_1 : decode cX2_isWhole 1 = .ok (.getfield 7, 3) := by decide +kernel
theorem dX2_isWhole_4 : decode cX2_isWhole 4 = .ok (.aload_n 0, 1) := by decide +kernel
theorem dX2_isWhole_5 : decode cX2_isWhole 5 = .ok (.invokevirtual 13, 3) := by decide +kernel
theorem dX2_isWhole_8 : decode cX2_isWhole 8 = .ok (.invokevirtual 17, 3) := by decide +kernel
theorem dX2_isWhole_11 : decode cX2_isWhole 11 = .ok (.if_icmp .lt 7, 3) := by decide +kernel
theorem dX2_isWhole_14 : decode cX2_isWhole 14 = .ok (.iconst 1, 1) := by decide +kernel
theorem dX2_isWhole_15 : decode cX2_isWhole 15 = .ok (.goto 4, 3) := by decide +kernel
theorem dX2_isWhole_18 : decode cX2_isWhole 18 = .ok (.iconst 0, 1) := by decide +kernel
theorem dX2_isWhole_19 : decode cX2_isWhole 19 = .ok (.ireturn, 1) := by decide +kernel
theorem dX2_takes_0 : decode cX2_takes 0 = .ok (.aload_n 0, 1) := by decide +kernel
theorem dX2_takes_1 : decode cX2_takes 1 = .ok (.getfield 7, 3) := by decide +kernel
theorem dX2_takes_4 : decode cX2_takes 4 = .ok (.ifCond .ne 9, 3) := by decide +kernel
theorem dX2_takes_7 : decode cX2_takes 7 = .ok (.aload_n 0, 1) := by decide +kernel
theorem dX2_takes_8 : decode cX2_takes 8 = .ok (.iload_n 1, 1) := by decide +kernel
theorem dX2_takes_9 : decode cX2_takes 9 = .ok (.invokevirtual 23, 3) := by decide +kernel
theorem dX2_takes_12 : decode cX2_takes 12 = .ok (.ireturn, 1) := by decide +kernel
theorem dX2_takes_13 : decode cX2_takes 13 = .ok (.aload_n 0, 1) := by decide +kernel
theorem dX2_takes_14 : decode cX2_takes 14 = .ok (.invokevirtual 27, 3) := by decide +kernel
theorem dX2_takes_17 : decode cX2_takes 17 = .ok (.ifCond .eq 9, 3) := by decide +kernel
theorem dX2_takes_20 : decode cX2_takes 20 = .ok (.aload_n 0, 1) := by decide +kernel
theorem dX2_takes_21 : decode cX2_takes 21 = .ok (.iload_n 1, 1) := by decide +kernel
theorem dX2_takes_22 : decode cX2_takes 22 = .ok (.invokevirtual 31, 3) := by decide +kernel
theorem dX2_takes_25 : decode cX2_takes 25 = .ok (.ireturn, 1) := by decide +kernel
theorem dX2_takes_26 : decode cX2_takes 26 = .ok (.aload_n 0, 1) := by decide +kernel
theorem dX2_takes_27 : decode cX2_takes 27 = .ok (.invokevirtual 13, 3) := by decide +kernel
theorem dX2_takes_30 : decode cX2_takes 30 = .ok (.aload_n 0, 1) := by decide +kernel
theorem dX2_takes_31 : decode cX2_takes 31 = .ok (.getfield 7, 3) := by decide +kernel
theorem dX2_takes_34 : decode cX2_takes 34 = .ok (.invokevirtual 34, 3) := by decide +kernel
theorem dX2_takes_37 : decode cX2_takes 37 = .ok (.istore_n 2, 1) := by decide +kernel
theorem dX2_takes_38 : decode cX2_takes 38 = .ok (.iload_n 2, 1) := by decide +kernel
theorem dX2_takes_39 : decode cX2_takes 39 = .ok (.bipush 48, 2) := by decide +kernel
theorem dX2_takes_41 : decode cX2_takes 41 = .ok (.if_icmp .lt 16, 3) := by decide +kernel
theorem dX2_takes_44 : decode cX2_takes 44 = .ok (.iload_n 2, 1) := by decide +kernel
theorem dX2_takes_45 : decode cX2_takes 45 = .ok (.bipush 57, 2) := by decide +kernel
theorem dX2_takes_47 : decode cX2_takes 47 = .ok (.if_icmp .gt 10, 3) := by decide +kernel
theorem dX2_takes_50 : decode cX2_takes 50 = .ok (.aload_n 0, 1) := by decide +kernel
theorem dX2_takes_51 : decode cX2_takes 51 = .ok (.iload_n 1, 1) := by decide +kernel
theorem dX2_takes_52 : decode cX2_takes 52 = .ok (.iload_n 2, 1) := by decide +kernel
theorem dX2_takes_53 : decode cX2_takes 53 = .ok (.invokevirtual 38, 3) := by decide +kernel
theorem dX2_takes_56 : decode cX2_takes 56 = .ok (.ireturn, 1) := by decide +kernel
theorem dX2_takes_57 : decode cX2_takes 57 = .ok (.iload_n 1, 1) := by decide +kernel
theorem dX2_takes_58 : decode cX2_takes 58 = .ok (.iload_n 2, 1) := by decide +kernel
theorem dX2_takes_59 : decode cX2_takes 59 = .ok (.if_icmp .eq 5, 3) := by decide +kernel
theorem dX2_takes_62 : decode cX2_takes 62 = .ok (.iconst 0, 1) := by decide +kernel
theorem dX2_takes_63 : decode cX2_takes 63 = .ok (.ireturn, 1) := by decide +kernel
theorem dX2_takes_64 : decode cX2_takes 64 = .ok (.aload_n 0, 1) := by decide +kernel
theorem dX2_takes_65 : decode cX2_takes 65 = .ok (.dup, 1) := by decide +kernel
theorem dX2_takes_66 : decode cX2_takes 66 = .ok (.getfield 7, 3) := by decide +kernel
theorem dX2_takes_69 : decode cX2_takes 69 = .ok (.iconst 1, 1) := by decide +kernel
theorem dX2_takes_70 : decode cX2_takes 70 = .ok (.iadd, 1) := by decide +kernel
theorem dX2_takes_71 : decode cX2_takes 71 = .ok (.putfield 7, 3) := by decide +kernel
theorem dX2_takes_74 : decode cX2_takes 74 = .ok (.iconst 1, 1) := by decide +kernel
theorem dX2_takes_75 : decode cX2_takes 75 = .ok (.ireturn, 1) := by decide +kernel
theorem dX2_shape_0 : decode cX2_shape 0 = .ok (.aload_n 0, 1) := by decide +kernel
theorem dX2_shape_1 : decode cX2_shape 1 = .ok (.getfield 42, 3) := by decide +kernel
theorem dX2_shape_4 : decode cX2_shape 4 = .ok (.ifCond .eq 8, 3) := by decide +kernel
theorem dX2_shape_7 : decode cX2_shape 7 = .ok (.ldc 46, 2) := by decide +kernel
theorem dX2_shape_9 : decode cX2_shape 9 = .ok (.goto 5, 3) := by decide +kernel
theorem dX2_shape_12 : decode cX2_shape 12 = .ok (.ldc 48, 2) := by decide +kernel
theorem dX2_shape_14 : decode cX2_shape 14 = .ok (.areturn, 1) := by decide +kernel
theorem dX2_takesKind_0 : decode cX2_takesKind 0 = .ok (.iload_n 1, 1) := by decide +kernel
theorem dX2_takesKind_1 : decode cX2_takesKind 1 = .ok (.bipush 114, 2) := by decide +kernel
theorem dX2_takesKind_3 : decode cX2_takesKind 3 = .ok (.if_icmp .eq 11, 3) := by decide +kernel
theorem dX2_takesKind_6 : decode cX2_takesKind 6 = .ok (.iload_n 1, 1) := by decide +kernel
theorem dX2_takesKind_7 : decode cX2_takesKind 7 = .ok (.bipush 119, 2) := by decide +kernel
theorem dX2_takesKind_9 : decode cX2_takesKind 9 = .ok (.if_icmp .eq 5, 3) := by decide +kernel
theorem dX2_takesKind_12 : decode cX2_takesKind 12 = .ok (.iconst 0, 1) := by decide +kernel
theorem dX2_takesKind_13 : decode cX2_takesKind 13 = .ok (.ireturn, 1) := by decide +kernel
theorem dX2_takesKind_14 : decode cX2_takesKind 14 = .ok (.aload_n 0, 1) := by decide +kernel
theorem dX2_takesKind_15 : decode cX2_takesKind 15 = .ok (.iload_n 1, 1) := by decide +kernel
theorem dX2_takesKind_16 : decode cX2_takesKind 16 = .ok (.bipush 119, 2) := by decide +kernel
theorem dX2_takesKind_18 : decode cX2_takesKind 18 = .ok (.if_icmp .ne 7, 3) := by decide +kernel
theorem dX2_takesKind_21 : decode cX2_takesKind 21 = .ok (.iconst 1, 1) := by decide +kernel
theorem dX2_takesKind_22 : decode cX2_takesKind 22 = .ok (.goto 4, 3) := by decide +kernel
theorem dX2_takesKind_25 : decode cX2_takesKind 25 = .ok (.iconst 0, 1) := by decide +kernel
theorem dX2_takesKind_26 : decode cX2_takesKind 26 = .ok (.putfield 42, 3) := by decide +kernel
theorem dX2_takesKind_29 : decode cX2_takesKind 29 = .ok (.aload_n 0, 1) := by decide +kernel
theorem dX2_takesKind_30 : decode cX2_takesKind 30 = .ok (.iconst 1, 1) := by decide +kernel
theorem dX2_takesKind_31 : decode cX2_takesKind 31 = .ok (.putfield 7, 3) := by decide +kernel
theorem dX2_takesKind_34 : decode cX2_takesKind 34 = .ok (.iconst 1, 1) := by decide +kernel
theorem dX2_takesKind_35 : decode cX2_takesKind 35 = .ok (.ireturn, 1) := by decide +kernel
theorem dX2_takesDigit_0 : decode cX2_takesDigit 0 = .ok (.iload_n 1, 1) := by decide +kernel
theorem dX2_takesDigit_1 : decode cX2_takesDigit 1 = .ok (.bipush 48, 2) := by decide +kernel
theorem dX2_takesDigit_3 : decode cX2_takesDigit 3 = .ok (.if_icmp .lt 8, 3) := by decide +kernel
theorem dX2_takesDigit_6 : decode cX2_takesDigit 6 = .ok (.iload_n 1, 1) := by decide +kernel
theorem dX2_takesDigit_7 : decode cX2_takesDigit 7 = .ok (.iload_n 2, 1) := by decide +kernel
theorem dX2_takesDigit_8 : decode cX2_takesDigit 8 = .ok (.if_icmp .le 5, 3) := by decide +kernel
theorem dX2_takesDigit_11 : decode cX2_takesDigit 11 = .ok (.iconst 0, 1) := by decide +kernel
theorem dX2_takesDigit_12 : decode cX2_takesDigit 12 = .ok (.ireturn, 1) := by decide +kernel
theorem dX2_takesDigit_13 : decode cX2_takesDigit 13 = .ok (.iload_n 1, 1) := by decide +kernel
theorem dX2_takesDigit_14 : decode cX2_takesDigit 14 = .ok (.bipush 48, 2) := by decide +kernel
theorem dX2_takesDigit_16 : decode cX2_takesDigit 16 = .ok (.isub, 1) := by decide +kernel
theorem dX2_takesDigit_17 : decode cX2_takesDigit 17 = .ok (.istore_n 3, 1) := by decide +kernel
theorem dX2_takesDigit_18 : decode cX2_takesDigit 18 = .ok (.aload_n 0, 1) := by decide +kernel
theorem dX2_takesDigit_19 : decode cX2_takesDigit 19 = .ok (.getfield 7, 3) := by decide +kernel
theorem dX2_takesDigit_22 : decode cX2_takesDigit 22 = .ok (.tableswitch 58 1 5 #[34, 58, 42, 58, 50], 34) := by decide +kernel
theorem dX2_takesDigit_56 : decode cX2_takesDigit 56 = .ok (.aload_n 0, 1) := by decide +kernel
theorem dX2_takesDigit_57 : decode cX2_takesDigit 57 = .ok (.iload_n 3, 1) := by decide +kernel
theorem dX2_takesDigit_58 : decode cX2_takesDigit 58 = .ok (.putfield 50, 3) := by decide +kernel
theorem dX2_takesDigit_61 : decode cX2_takesDigit 61 = .ok (.goto 24, 3) := by decide +kernel
theorem dX2_takesDigit_64 : decode cX2_takesDigit 64 = .ok (.aload_n 0, 1) := by decide +kernel
theorem dX2_takesDigit_65 : decode cX2_takesDigit 65 = .ok (.iload_n 3, 1) := by decide +kernel
theorem dX2_takesDigit_66 : decode cX2_takesDigit 66 = .ok (.putfield 53, 3) := by decide +kernel
theorem dX2_takesDigit_69 : decode cX2_takesDigit 69 = .ok (.goto 16, 3) := by decide +kernel
theorem dX2_takesDigit_72 : decode cX2_takesDigit 72 = .ok (.aload_n 0, 1) := by decide +kernel
theorem dX2_takesDigit_73 : decode cX2_takesDigit 73 = .ok (.iload_n 3, 1) := by decide +kernel
theorem dX2_takesDigit_74 : decode cX2_takesDigit 74 = .ok (.putfield 56, 3) := by decide +kernel
theorem dX2_takesDigit_77 : decode cX2_takesDigit 77 = .ok (.goto 8, 3) := by decide +kernel
theorem dX2_takesDigit_80 : decode cX2_takesDigit 80 = .ok (.aload_n 0, 1) := by decide +kernel
theorem dX2_takesDigit_81 : decode cX2_takesDigit 81 = .ok (.iload_n 3, 1) := by decide +kernel
theorem dX2_takesDigit_82 : decode cX2_takesDigit 82 = .ok (.putfield 59, 3) := by decide +kernel
theorem dX2_takesDigit_85 : decode cX2_takesDigit 85 = .ok (.aload_n 0, 1) := by decide +kernel
theorem dX2_takesDigit_86 : decode cX2_takesDigit 86 = .ok (.dup, 1) := by decide +kernel
theorem dX2_takesDigit_87 : decode cX2_takesDigit 87 = .ok (.getfield 7, 3) := by decide +kernel
theorem dX2_takesDigit_90 : decode cX2_takesDigit 90 = .ok (.iconst 1, 1) := by decide +kernel
theorem dX2_takesDigit_91 : decode cX2_takesDigit 91 = .ok (.iadd, 1) := by decide +kernel
theorem dX2_takesDigit_92 : decode cX2_takesDigit 92 = .ok (.putfield 7, 3) := by decide +kernel
theorem dX2_takesDigit_95 : decode cX2_takesDigit 95 = .ok (.iconst 1, 1) := by decide +kernel
theorem dX2_takesDigit_96 : decode cX2_takesDigit 96 = .ok (.ireturn, 1) := by decide +kernel
theorem dX2_takesEnd_0 : decode cX2_takesEnd 0 = .ok (.iload_n 1, 1) := by decide +kernel
theorem dX2_takesEnd_1 : decode cX2_takesEnd 1 = .ok (.bipush 59, 2) := by decide +kernel
theorem dX2_takesEnd_3 : decode cX2_takesEnd 3 = .ok (.if_icmp .ne 9, 3) := by decide +kernel
theorem dX2_takesEnd_6 : decode cX2_takesEnd 6 = .ok (.aload_n 0, 1) := by decide +kernel
theorem dX2_takesEnd_7 : decode cX2_takesEnd 7 = .ok (.invokevirtual 62, 3) := by decide +kernel
theorem dX2_takesEnd_10 : decode cX2_takesEnd 10 = .ok (.iconst 1, 1) := by decide +kernel
theorem dX2_takesEnd_11 : decode cX2_takesEnd 11 = .ok (.ireturn, 1) := by decide +kernel
theorem dX2_takesEnd_12 : decode cX2_takesEnd 12 = .ok (.aload_n 0, 1) := by decide +kernel
theorem dX2_takesEnd_13 : decode cX2_takesEnd 13 = .ok (.getfield 42, 3) := by decide +kernel
theorem dX2_takesEnd_16 : decode cX2_takesEnd 16 = .ok (.ifCond .eq 26, 3) := by decide +kernel
theorem dX2_takesEnd_19 : decode cX2_takesEnd 19 = .ok (.aload_n 0, 1) := by decide +kernel
theorem dX2_takesEnd_20 : decode cX2_takesEnd 20 = .ok (.getfield 7, 3) := by decide +kernel
theorem dX2_takesEnd_23 : decode cX2_takesEnd 23 = .ok (.ldc 46, 2) := by decide +kernel
theorem dX2_takesEnd_25 : decode cX2_takesEnd 25 = .ok (.invokevirtual 17, 3) := by decide +kernel
theorem dX2_takesEnd_28 : decode cX2_takesEnd 28 = .ok (.if_icmp .ne 14, 3) := by decide +kernel
theorem dX2_takesEnd_31 : decode cX2_takesEnd 31 = .ok (.aload_n 0, 1) := by decide +kernel
theorem dX2_takesEnd_32 : decode cX2_takesEnd 32 = .ok (.getfield 59, 3) := by decide +kernel
theorem dX2_takesEnd_35 : decode cX2_takesEnd 35 = .ok (.ifCond .le 7, 3) := by decide +kernel
theorem dX2_takesEnd_38 : decode cX2_takesEnd 38 = .ok (.iconst 1, 1) := by decide +kernel
theorem dX2_takesEnd_39 : decode cX2_takesEnd 39 = .ok (.goto 4, 3) := by decide +kernel
theorem dX2_takesEnd_42 : decode cX2_takesEnd 42 = .ok (.iconst 0, 1) := by decide +kernel
theorem dX2_takesEnd_43 : decode cX2_takesEnd 43 = .ok (.istore_n 2, 1) := by decide +kernel
theorem dX2_takesEnd_44 : decode cX2_takesEnd 44 = .ok (.iload_n 2, 1) := by decide +kernel
theorem dX2_takesEnd_45 : decode cX2_takesEnd 45 = .ok (.ifCond .eq 15, 3) := by decide +kernel
theorem dX2_takesEnd_48 : decode cX2_takesEnd 48 = .ok (.iload_n 1, 1) := by decide +kernel
theorem dX2_takesEnd_49 : decode cX2_takesEnd 49 = .ok (.bipush 48, 2) := by decide +kernel
theorem dX2_takesEnd_51 : decode cX2_takesEnd 51 = .ok (.if_icmp .lt 9, 3) := by decide +kernel
theorem dX2_takesEnd_54 : decode cX2_takesEnd 54 = .ok (.iload_n 1, 1) := by decide +kernel
theorem dX2_takesEnd_55 : decode cX2_takesEnd 55 = .ok (.bipush 57, 2) := by decide +kernel
theorem dX2_takesEnd_57 : decode cX2_takesEnd 57 = .ok (.if_icmp .le 5, 3) := by decide +kernel
theorem dX2_takesEnd_60 : decode cX2_takesEnd 60 = .ok (.iconst 0, 1) := by decide +kernel
theorem dX2_takesEnd_61 : decode cX2_takesEnd 61 = .ok (.ireturn, 1) := by decide +kernel
theorem dX2_takesEnd_62 : decode cX2_takesEnd 62 = .ok (.aload_n 0, 1) := by decide +kernel
theorem dX2_takesEnd_63 : decode cX2_takesEnd 63 = .ok (.bipush 10, 2) := by decide +kernel
theorem dX2_takesEnd_65 : decode cX2_takesEnd 65 = .ok (.aload_n 0, 1) := by decide +kernel
theorem dX2_takesEnd_66 : decode cX2_takesEnd 66 = .ok (.getfield 59, 3) := by decide +kernel
theorem dX2_takesEnd_69 : decode cX2_takesEnd 69 = .ok (.imul, 1) := by decide +kernel
theorem dX2_takesEnd_70 : decode cX2_takesEnd 70 = .ok (.iload_n 1, 1) := by decide +kernel
theorem dX2_takesEnd_71 : decode cX2_takesEnd 71 = .ok (.iadd, 1) := by decide +kernel
theorem dX2_takesEnd_72 : decode cX2_takesEnd 72 = .ok (.bipush 48, 2) := by decide +kernel
theorem dX2_takesEnd_74 : decode cX2_takesEnd 74 = .ok (.isub, 1) := by decide +kernel
theorem dX2_takesEnd_75 : decode cX2_takesEnd 75 = .ok (.putfield 59, 3) := by decide +kernel
theorem dX2_takesEnd_78 : decode cX2_takesEnd 78 = .ok (.aload_n 0, 1) := by decide +kernel
theorem dX2_takesEnd_79 : decode cX2_takesEnd 79 = .ok (.dup, 1) := by decide +kernel
theorem dX2_takesEnd_80 : decode cX2_takesEnd 80 = .ok (.getfield 7, 3) := by decide +kernel
theorem dX2_takesEnd_83 : decode cX2_takesEnd 83 = .ok (.iconst 1, 1) := by decide +kernel
theorem dX2_takesEnd_84 : decode cX2_takesEnd 84 = .ok (.iadd, 1) := by decide +kernel
theorem dX2_takesEnd_85 : decode cX2_takesEnd 85 = .ok (.putfield 7, 3) := by decide +kernel
theorem dX2_takesEnd_88 : decode cX2_takesEnd 88 = .ok (.iconst 1, 1) := by decide +kernel
theorem dX2_takesEnd_89 : decode cX2_takesEnd 89 = .ok (.ireturn, 1) := by decide +kernel
theorem dX3_init_0 : decode cX3_init 0 = .ok (.aload_n 0, 1) := by decide +kernel
theorem dX3_init_1 : decode cX3_init 1 = .ok (.invokespecial 3, 3) := by decide +kernel
theorem dX3_init_4 : decode cX3_init 4 = .ok (.aload_n 0, 1) := by decide +kernel
theorem dX3_init_5 : decode cX3_init 5 = .ok (.iconst 3, 1) := by decide +kernel
theorem dX3_init_6 : decode cX3_init 6 = .ok (.anewarray 9, 3) := by decide +kernel
theorem dX3_init_9 : decode cX3_init 9 = .ok (.putfield 11, 3) := by decide +kernel
theorem dX3_init_12 : decode cX3_init 12 = .ok (.iconst 0, 1) := by decide +kernel
theorem dX3_init_13 : decode cX3_init 13 = .ok (.istore_n 1, 1) := by decide +kernel
theorem dX3_init_14 : decode cX3_init 14 = .ok (.iload_n 1, 1) := by decide +kernel
theorem dX3_init_15 : decode cX3_init 15 = .ok (.iconst 3, 1) := by decide +kernel
theorem dX3_init_16 : decode cX3_init 16 = .ok (.if_icmp .ge 22, 3) := by decide +kernel
theorem dX3_init_19 : decode cX3_init 19 = .ok (.aload_n 0, 1) := by decide +kernel
theorem dX3_init_20 : decode cX3_init 20 = .ok (.getfield 11, 3) := by decide +kernel
theorem dX3_init_23 : decode cX3_init 23 = .ok (.iload_n 1, 1) := by decide +kernel
theorem dX3_init_24 : decode cX3_init 24 = .ok (.new 9, 3) := by decide +kernel
theorem dX3_init_27 : decode cX3_init 27 = .ok (.dup, 1) := by decide +kernel
theorem dX3_init_28 : decode cX3_init 28 = .ok (.invokespecial 17, 3) := by decide +kernel
theorem dX3_init_31 : decode cX3_init 31 = .ok (.aastore, 1) := by decide +kernel
theorem dX3_init_32 : decode cX3_init 32 = .ok (.iinc 1 1, 3) := by decide +kernel
theorem dX3_init_35 : decode cX3_init 35 = .ok (.goto (-21), 3) := by decide +kernel
theorem dX3_init_38 : decode cX3_init 38 = .ok (.return_, 1) := by decide +kernel
theorem dX3_become_0 : decode cX3_become 0 = .ok (.iconst 0, 1) := by decide +kernel
theorem dX3_become_1 : decode cX3_become 1 = .ok (.istore_n 2, 1) := by decide +kernel
theorem dX3_become_2 : decode cX3_become 2 = .ok (.iload_n 2, 1) := by decide +kernel
theorem dX3_become_3 : decode cX3_become 3 = .ok (.iconst 3, 1) := by decide +kernel
theorem dX3_become_4 : decode cX3_become 4 = .ok (.if_icmp .ge 24, 3) := by decide +kernel
theorem dX3_become_7 : decode cX3_become 7 = .ok (.aload_n 0, 1) := by decide +kernel
theorem dX3_become_8 : decode cX3_become 8 = .ok (.getfield 11, 3) := by decide +kernel
theorem dX3_become_11 : decode cX3_become 11 = .ok (.iload_n 2, 1) := by decide +kernel
theorem dX3_become_12 : decode cX3_become 12 = .ok (.aaload, 1) := by decide +kernel
theorem dX3_become_13 : decode cX3_become 13 = .ok (.aload_n 1, 1) := by decide +kernel
theorem dX3_become_14 : decode cX3_become 14 = .ok (.getfield 11, 3) := by decide +kernel
theorem dX3_become_17 : decode cX3_become 17 = .ok (.iload_n 2, 1) := by decide +kernel
theorem dX3_become_18 : decode cX3_become 18 = .ok (.aaload, 1) := by decide +kernel
theorem dX3_become_19 : decode cX3_become 19 = .ok (.invokevirtual 18, 3) := by decide +kernel
theorem dX3_become_22 : decode cX3_become 22 = .ok (.iinc 2 1, 3) := by decide +kernel
theorem dX3_become_25 : decode cX3_become 25 = .ok (.goto (-23), 3) := by decide +kernel
theorem dX3_become_28 : decode cX3_become 28 = .ok (.aload_n 0, 1) := by decide +kernel
theorem dX3_become_29 : decode cX3_become 29 = .ok (.aload_n 1, 1) := by decide +kernel
theorem dX3_become_30 : decode cX3_become 30 = .ok (.getfield 22, 3) := by decide +kernel
theorem dX3_become_33 : decode cX3_become 33 = .ok (.putfield 22, 3) := by decide +kernel
theorem dX3_become_36 : decode cX3_become 36 = .ok (.aload_n 0, 1) := by decide +kernel
theorem dX3_become_37 : decode cX3_become 37 = .ok (.aload_n 1, 1) := by decide +kernel
theorem dX3_become_38 : decode cX3_become 38 = .ok (.getfield 26, 3) := by decide +kernel
theorem dX3_become_41 : decode cX3_become 41 = .ok (.putfield 26, 3) := by decide +kernel
theorem dX3_become_44 : decode cX3_become 44 = .ok (.aload_n 0, 1) := by decide +kernel
theorem dX3_become_45 : decode cX3_become 45 = .ok (.aload_n 1, 1) := by decide +kernel
theorem dX3_become_46 : decode cX3_become 46 = .ok (.getfield 29, 3) := by decide +kernel
theorem dX3_become_49 : decode cX3_become 49 = .ok (.putfield 29, 3) := by decide +kernel
theorem dX3_become_52 : decode cX3_become 52 = .ok (.aload_n 0, 1) := by decide +kernel
theorem dX3_become_53 : decode cX3_become 53 = .ok (.aload_n 1, 1) := by decide +kernel
theorem dX3_become_54 : decode cX3_become 54 = .ok (.getfield 32, 3) := by decide +kernel
theorem dX3_become_57 : decode cX3_become 57 = .ok (.putfield 32, 3) := by decide +kernel
theorem dX3_become_60 : decode cX3_become 60 = .ok (.aload_n 0, 1) := by decide +kernel
theorem dX3_become_61 : decode cX3_become 61 = .ok (.aload_n 1, 1) := by decide +kernel
theorem dX3_become_62 : decode cX3_become 62 = .ok (.getfield 35, 3) := by decide +kernel
theorem dX3_become_65 : decode cX3_become 65 = .ok (.putfield 35, 3) := by decide +kernel
theorem dX3_become_68 : decode cX3_become 68 = .ok (.return_, 1) := by decide +kernel
theorem dX3_replace_0 : decode cX3_replace 0 = .ok (.aload_n 0, 1) := by decide +kernel
theorem dX3_replace_1 : decode cX3_replace 1 = .ok (.getfield 11, 3) := by decide +kernel
theorem dX3_replace_4 : decode cX3_replace 4 = .ok (.iload_n 2, 1) := by decide +kernel
theorem dX3_replace_5 : decode cX3_replace 5 = .ok (.aaload, 1) := by decide +kernel
theorem dX3_replace_6 : decode cX3_replace 6 = .ok (.iload_n 1, 1) := by decide +kernel
theorem dX3_replace_7 : decode cX3_replace 7 = .ok (.iload_n 3, 1) := by decide +kernel
theorem dX3_replace_8 : decode cX3_replace 8 = .ok (.iconst 0, 1) := by decide +kernel
theorem dX3_replace_9 : decode cX3_replace 9 = .ok (.invokevirtual 38, 3) := by decide +kernel
theorem dX3_replace_12 : decode cX3_replace 12 = .ok (.istore 5, 2) := by decide +kernel
theorem dX3_replace_14 : decode cX3_replace 14 = .ok (.aload_n 0, 1) := by decide +kernel
theorem dX3_replace_15 : decode cX3_replace 15 = .ok (.getfield 11, 3) := by decide +kernel
theorem dX3_replace_18 : decode cX3_replace 18 = .ok (.iload_n 2, 1) := by decide +kernel
theorem dX3_replace_19 : decode cX3_replace 19 = .ok (.aaload, 1) := by decide +kernel
theorem dX3_replace_20 : decode cX3_replace 20 = .ok (.iload_n 1, 1) := by decide +kernel
theorem dX3_replace_21 : decode cX3_replace 21 = .ok (.iload_n 3, 1) := by decide +kernel
theorem dX3_replace_22 : decode cX3_replace 22 = .ok (.iload 4, 2) := by decide +kernel
theorem dX3_replace_24 : decode cX3_replace 24 = .ok (.invokevirtual 42, 3) := by decide +kernel
theorem dX3_replace_27 : decode cX3_replace 27 = .ok (.aload_n 0, 1) := by decide +kernel
theorem dX3_replace_28 : decode cX3_replace 28 = .ok (.dup, 1) := by decide +kernel
theorem dX3_replace_29 : decode cX3_replace 29 = .ok (.getfield 22, 3) := by decide +kernel
theorem dX3_replace_32 : decode cX3_replace 32 = .ok (.iconst 1, 1) := by decide +kernel
theorem dX3_replace_33 : decode cX3_replace 33 = .ok (.iadd, 1) := by decide +kernel
theorem dX3_replace_34 : decode cX3_replace 34 = .ok (.putfield 22, 3) := by decide +kernel
theorem dX3_replace_37 : decode cX3_replace 37 = .ok (.aload_n 0, 1) := by decide +kernel
theorem dX3_replace_38 : decode cX3_replace 38 = .ok (.dup, 1) := by decide +kernel
theorem dX3_replace_39 : decode cX3_replace 39 = .ok (.getfield 26, 3) := by decide +kernel
theorem dX3_replace_42 : decode cX3_replace 42 = .ok (.iload 5, 2) := by decide +kernel
theorem dX3_replace_44 : decode cX3_replace 44 = .ok (.iadd, 1) := by decide +kernel
theorem dX3_replace_45 : decode cX3_replace 45 = .ok (.putfield 26, 3) := by decide +kernel
theorem dX3_replace_48 : decode cX3_replace 48 = .ok (.iload 5, 2) := by decide +kernel
theorem dX3_replace_50 : decode cX3_replace 50 = .ok (.ireturn, 1) := by decide +kernel
theorem dX3_bring_0 : decode cX3_bring 0 = .ok (.aload_n 0, 1) := by decide +kernel
theorem dX3_bring_1 : decode cX3_bring 1 = .ok (.getfield 11, 3) := by decide +kernel
theorem dX3_bring_4 : decode cX3_bring 4 = .ok (.iload_n 3, 1) := by decide +kernel
theorem dX3_bring_5 : decode cX3_bring 5 = .ok (.aaload, 1) := by decide +kernel
theorem dX3_bring_6 : decode cX3_bring 6 = .ok (.iload_n 1, 1) := by decide +kernel
theorem dX3_bring_7 : decode cX3_bring 7 = .ok (.iload_n 2, 1) := by decide +kernel
theorem dX3_bring_8 : decode cX3_bring 8 = .ok (.iconst 0, 1) := by decide +kernel
theorem dX3_bring_9 : decode cX3_bring 9 = .ok (.invokevirtual 46, 3) := by decide +kernel
theorem dX3_bring_12 : decode cX3_bring 12 = .ok (.istore 4, 2) := by decide +kernel
theorem dX3_bring_14 : decode cX3_bring 14 = .ok (.aload_n 0, 1) := by decide +kernel
theorem dX3_bring_15 : decode cX3_bring 15 = .ok (.getfield 11, 3) := by decide +kernel
theorem dX3_bring_18 : decode cX3_bring 18 = .ok (.iload_n 3, 1) := by decide +kernel
theorem dX3_bring_19 : decode cX3_bring 19 = .ok (.aaload, 1) := by decide +kernel
theorem dX3_bring_20 : decode cX3_bring 20 = .ok (.getfield 49, 3) := by decide +kernel
theorem dX3_bring_23 : decode cX3_bring 23 = .ok (.iload_n 1, 1) := by decide +kernel
theorem dX3_bring_24 : decode cX3_bring 24 = .ok (.aaload, 1) := by decide +kernel
theorem dX3_bring_25 : decode cX3_bring 25 = .ok (.aload_n 0, 1) := by decide +kernel
theorem dX3_bring_26 : decode cX3_bring 26 = .ok (.getfield 11, 3) := by decide +kernel
theorem dX3_bring_29 : decode cX3_bring 29 = .ok (.iload_n 3, 1) := by decide +kernel
theorem dX3_bring_30 : decode cX3_bring 30 = .ok (.aaload, 1) := by decide +kernel
theorem dX3_bring_31 : decode cX3_bring 31 = .ok (.getfield 49, 3) := by decide +kernel
theorem dX3_bring_34 : decode cX3_bring 34 = .ok (.iload_n 2, 1) := by decide +kernel
theorem dX3_bring_35 : decode cX3_bring 35 = .ok (.aaload, 1) := by decide +kernel
theorem dX3_bring_36 : decode cX3_bring 36 = .ok (.invokevirtual 53, 3) := by decide +kernel
theorem dX3_bring_39 : decode cX3_bring 39 = .ok (.aload_n 0, 1) := by decide +kernel
theorem dX3_bring_40 : decode cX3_bring 40 = .ok (.dup, 1) := by decide +kernel
theorem dX3_bring_41 : decode cX3_bring 41 = .ok (.getfield 29, 3) := by decide +kernel
theorem dX3_bring_44 : decode cX3_bring 44 = .ok (.iload 4, 2) := by decide +kernel
theorem dX3_bring_46 : decode cX3_bring 46 = .ok (.iadd, 1) := by decide +kernel
theorem dX3_bring_47 : decode cX3_bring 47 = .ok (.putfield 29, 3) := by decide +kernel
theorem dX3_bring_50 : decode cX3_bring 50 = .ok (.iload 4, 2) := by decide +kernel
theorem dX3_bring_52 : decode cX3_bring 52 = .ok (.ireturn, 1) := by decide +kernel
theorem dX3_bringAll_0 : decode cX3_bringAll 0 = .ok (.iconst 0, 1) := by decide +kernel
theorem dX3_bringAll_1 : decode cX3_bringAll 1 = .ok (.istore_n 1, 1) := by decide +kernel
theorem dX3_bringAll_2 : decode cX3_bringAll 2 = .ok (.iload_n 1, 1) := by decide +kernel
theorem dX3_bringAll_3 : decode cX3_bringAll 3 = .ok (.iconst 3, 1) := by decide +kernel
theorem dX3_bringAll_4 : decode cX3_bringAll 4 = .ok (.if_icmp .ge 69, 3) := by decide +kernel
theorem dX3_bringAll_7 : decode cX3_bringAll 7 = .ok (.iconst 0, 1) := by decide +kernel
theorem dX3_bringAll_8 : decode cX3_bringAll 8 = .ok (.istore_n 2, 1) := by decide +kernel
theorem dX3_bringAll_9 : decode cX3_bringAll 9 = .ok (.iload_n 2, 1) := by decide +kernel
theorem dX3_bringAll_10 : decode cX3_bringAll 10 = .ok (.iconst 3, 1) := by decide +kernel
theorem dX3_bringAll_11 : decode cX3_bringAll 11 = .ok (.if_icmp .ge 56, 3) := by decide +kernel
theorem dX3_bringAll_14 : decode cX3_bringAll 14 = .ok (.iconst 0, 1) := by decide +kernel
theorem dX3_bringAll_15 : decode cX3_bringAll 15 = .ok (.istore_n 3, 1) := by decide +kernel
theorem dX3_bringAll_16 : decode cX3_bringAll 16 = .ok (.iload_n 3, 1) := by decide +kernel
theorem dX3_bringAll_17 : decode cX3_bringAll 17 = .ok (.iconst 3, 1) := by decide +kernel
theorem dX3_bringAll_18 : decode cX3_bringAll 18 = .ok (.if_icmp .ge 43, 3) := by decide +kernel
theorem dX3_bringAll_21 : decode cX3_bringAll 21 = .ok (.iload_n 2, 1) := by decide +kernel
theorem dX3_bringAll_22 : decode cX3_bringAll 22 = .ok (.iload_n 3, 1) := by decide +kernel
theorem dX3_bringAll_23 : decode cX3_bringAll 23 = .ok (.if_icmp .eq 19, 3) := by decide +kernel
theorem dX3_bringAll_26 : decode cX3_bringAll 26 = .ok (.aload_n 0, 1) := by decide +kernel
theorem dX3_bringAll_27 : decode cX3_bringAll 27 = .ok (.getfield 11, 3) := by decide +kernel
theorem dX3_bringAll_30 : decode cX3_bringAll 30 = .ok (.iload_n 1, 1) := by decide +kernel
theorem dX3_bringAll_31 : decode cX3_bringAll 31 = .ok (.aaload, 1) := by decide +kernel
theorem dX3_bringAll_32 : decode cX3_bringAll 32 = .ok (.iload_n 2, 1) := by decide +kernel
theorem dX3_bringAll_33 : decode cX3_bringAll 33 = .ok (.iload_n 3, 1) := by decide +kernel
theorem dX3_bringAll_34 : decode cX3_bringAll 34 = .ok (.invokevirtual 59, 3) := by decide +kernel
theorem dX3_bringAll_37 : decode cX3_bringAll 37 = .ok (.ifCond .ne 5, 3) := by decide +kernel
theorem dX3_bringAll_40 : decode cX3_bringAll 40 = .ok (.iconst 0, 1) := by decide +kernel
theorem dX3_bringAll_41 : decode cX3_bringAll 41 = .ok (.ireturn, 1) := by decide +kernel
theorem dX3_bringAll_42 : decode cX3_bringAll 42 = .ok (.iload_n 2, 1) := by decide +kernel
theorem dX3_bringAll_43 : decode cX3_bringAll 43 = .ok (.iload_n 3, 1) := by decide +kernel
theorem dX3_bringAll_44 : decode cX3_bringAll 44 = .ok (.if_icmp .eq 11, 3) := by decide +kernel
theorem dX3_bringAll_47 : decode cX3_bringAll 47 = .ok (.aload_n 0, 1) := by decide +kernel
theorem dX3_bringAll_48 : decode cX3_bringAll 48 = .ok (.iload_n 2, 1) := by decide +kernel
theorem dX3_bringAll_49 : decode cX3_bringAll 49 = .ok (.iload_n 3, 1) := by decide +kernel
theorem dX3_bringAll_50 : decode cX3_bringAll 50 = .ok (.iload_n 1, 1) := by decide +kernel
theorem dX3_bringAll_51 : decode cX3_bringAll 51 = .ok (.invokevirtual 63, 3) := by decide +kernel
theorem dX3_bringAll_54 : decode cX3_bringAll 54 = .ok (.pop, 1) := by decide +kernel
theorem dX3_bringAll_55 : decode cX3_bringAll 55 = .ok (.iinc 3 1, 3) := by decide +kernel
theorem dX3_bringAll_58 : decode cX3_bringAll 58 = .ok (.goto (-42), 3) := by decide +kernel
theorem dX3_bringAll_61 : decode cX3_bringAll 61 = .ok (.iinc 2 1, 3) := by decide +kernel
theorem dX3_bringAll_64 : decode cX3_bringAll 64 = .ok (.goto (-55), 3) := by decide +kernel
theorem dX3_bringAll_67 : decode cX3_bringAll 67 = .ok (.iinc 1 1, 3) := by decide +kernel
theorem dX3_bringAll_70 : decode cX3_bringAll 70 = .ok (.goto (-68), 3) := by decide +kernel
theorem dX3_bringAll_73 : decode cX3_bringAll 73 = .ok (.iconst 1, 1) := by decide +kernel
theorem dX3_bringAll_74 : decode cX3_bringAll 74 = .ok (.ireturn, 1) := by decide +kernel
theorem dX3_siblingsInAll_0 : decode cX3_siblingsInAll 0 = .ok (.iconst 0, 1) := by decide +kernel
theorem dX3_siblingsInAll_1 : decode cX3_siblingsInAll 1 = .ok (.istore_n 1, 1) := by decide +kernel
theorem dX3_siblingsInAll_2 : decode cX3_siblingsInAll 2 = .ok (.iconst 0, 1) := by decide +kernel
theorem dX3_siblingsInAll_3 : decode cX3_siblingsInAll 3 = .ok (.istore_n 2, 1) := by decide +kernel
theorem dX3_siblingsInAll_4 : decode cX3_siblingsInAll 4 = .ok (.iload_n 2, 1) := by decide +kernel
theorem dX3_siblingsInAll_5 : decode cX3_siblingsInAll 5 = .ok (.iconst 3, 1) := by decide +kernel
theorem dX3_siblingsInAll_6 : decode cX3_siblingsInAll 6 = .ok (.if_icmp .ge 39, 3) := by decide +kernel
theorem dX3_siblingsInAll_9 : decode cX3_siblingsInAll 9 = .ok (.iconst 0, 1) := by decide +kernel
theorem dX3_siblingsInAll_10 : decode cX3_siblingsInAll 10 = .ok (.istore_n 3, 1) := by decide +kernel
theorem dX3_siblingsInAll_11 : decode cX3_siblingsInAll 11 = .ok (.iload_n 3, 1) := by decide +kernel
theorem dX3_siblingsInAll_12 : decode cX3_siblingsInAll 12 = .ok (.iconst 3, 1) := by decide +kernel
theorem dX3_siblingsInAll_13 : decode cX3_siblingsInAll 13 = .ok (.if_icmp .ge 26, 3) := by decide +kernel
theorem dX3_siblingsInAll_16 : decode cX3_siblingsInAll 16 = .ok (.iload_n 1, 1) := by decide +kernel
theorem dX3_siblingsInAll_17 : decode cX3_siblingsInAll 17 = .ok (.aload_n 0, 1) := by decide +kernel
theorem dX3_siblingsInAll_18 : decode cX3_siblingsInAll 18 = .ok (.getfield 11, 3) := by decide +kernel
theorem dX3_siblingsInAll_21 : decode cX3_siblingsInAll 21 = .ok (.iload_n 2, 1) := by decide +kernel
theorem dX3_siblingsInAll_22 : decode cX3_siblingsInAll 22 = .ok (.aaload, 1) := by decide +kernel
theorem dX3_siblingsInAll_23 : decode cX3_siblingsInAll 23 = .ok (.getfield 49, 3) := by decide +kernel
theorem dX3_siblingsInAll_26 : decode cX3_siblingsInAll 26 = .ok (.iload_n 3, 1) := by decide +kernel
theorem dX3_siblingsInAll_27 : decode cX3_siblingsInAll 27 = .ok (.aaload, 1) := by decide +kernel
theorem dX3_siblingsInAll_28 : decode cX3_siblingsInAll 28 = .ok (.getfield 66, 3) := by decide +kernel
theorem dX3_siblingsInAll_31 : decode cX3_siblingsInAll 31 = .ok (.iadd, 1) := by decide +kernel
theorem dX3_siblingsInAll_32 : decode cX3_siblingsInAll 32 = .ok (.istore_n 1, 1) := by decide +kernel
theorem dX3_siblingsInAll_33 : decode cX3_siblingsInAll 33 = .ok (.iinc 3 1, 3) := by decide +kernel
theorem dX3_siblingsInAll_36 : decode cX3_siblingsInAll 36 = .ok (.goto (-25), 3) := by decide +kernel
theorem dX3_siblingsInAll_39 : decode cX3_siblingsInAll 39 = .ok (.iinc 2 1, 3) := by decide +kernel
theorem dX3_siblingsInAll_42 : decode cX3_siblingsInAll 42 = .ok (.goto (-38), 3) := by decide +kernel
theorem dX3_siblingsInAll_45 : decode cX3_siblingsInAll 45 = .ok (.iload_n 1, 1) := by decide +kernel
theorem dX3_siblingsInAll_46 : decode cX3_siblingsInAll 46 = .ok (.ireturn, 1) := by decide +kernel
theorem dX3_mostSiblings_0 : decode cX3_mostSiblings 0 = .ok (.iconst 0, 1) := by decide +kernel
theorem dX3_mostSiblings_1 : decode cX3_mostSiblings 1 = .ok (.istore_n 1, 1) := by decide +kernel
theorem dX3_mostSiblings_2 : decode cX3_mostSiblings 2 = .ok (.iconst 0, 1) := by decide +kernel
theorem dX3_mostSiblings_3 : decode cX3_mostSiblings 3 = .ok (.istore_n 2, 1) := by decide +kernel
theorem dX3_mostSiblings_4 : decode cX3_mostSiblings 4 = .ok (.iload_n 2, 1) := by decide +kernel
theorem dX3_mostSiblings_5 : decode cX3_mostSiblings 5 = .ok (.iconst 3, 1) := by decide +kernel
theorem dX3_mostSiblings_6 : decode cX3_mostSiblings 6 = .ok (.if_icmp .ge 41, 3) := by decide +kernel
theorem dX3_mostSiblings_9 : decode cX3_mostSiblings 9 = .ok (.iconst 0, 1) := by decide +kernel
theorem dX3_mostSiblings_10 : decode cX3_mostSiblings 10 = .ok (.istore_n 3, 1) := by decide +kernel
theorem dX3_mostSiblings_11 : decode cX3_mostSiblings 11 = .ok (.iload_n 3, 1) := by decide +kernel
theorem dX3_mostSiblings_12 : decode cX3_mostSiblings 12 = .ok (.iconst 3, 1) := by decide +kernel
theorem dX3_mostSiblings_13 : decode cX3_mostSiblings 13 = .ok (.if_icmp .ge 28, 3) := by decide +kernel
theorem dX3_mostSiblings_16 : decode cX3_mostSiblings 16 = .ok (.iload_n 1, 1) := by decide +kernel
theorem dX3_mostSiblings_17 : decode cX3_mostSiblings 17 = .ok (.aload_n 0, 1) := by decide +kernel
theorem dX3_mostSiblings_18 : decode cX3_mostSiblings 18 = .ok (.getfield 11, 3) := by decide +kernel
theorem dX3_mostSiblings_21 : decode cX3_mostSiblings 21 = .ok (.iload_n 2, 1) := by decide +kernel
theorem dX3_mostSiblings_22 : decode cX3_mostSiblings 22 = .ok (.aaload, 1) := by decide +kernel
theorem dX3_mostSiblings_23 : decode cX3_mostSiblings 23 = .ok (.getfield 49, 3) := by decide +kernel
theorem dX3_mostSiblings_26 : decode cX3_mostSiblings 26 = .ok (.iload_n 3, 1) := by decide +kernel
theorem dX3_mostSiblings_27 : decode cX3_mostSiblings 27 = .ok (.aaload, 1) := by decide +kernel
theorem dX3_mostSiblings_28 : decode cX3_mostSiblings 28 = .ok (.getfield 66, 3) := by decide +kernel
theorem dX3_mostSiblings_31 : decode cX3_mostSiblings 31 = .ok (.invokestatic 69, 3) := by decide +kernel
theorem dX3_mostSiblings_34 : decode cX3_mostSiblings 34 = .ok (.istore_n 1, 1) := by decide +kernel
theorem dX3_mostSiblings_35 : decode cX3_mostSiblings 35 = .ok (.iinc 3 1, 3) := by decide +kernel
theorem dX3_mostSiblings_38 : decode cX3_mostSiblings 38 = .ok (.goto (-27), 3) := by decide +kernel
theorem dX3_mostSiblings_41 : decode cX3_mostSiblings 41 = .ok (.iinc 2 1, 3) := by decide +kernel
theorem dX3_mostSiblings_44 : decode cX3_mostSiblings 44 = .ok (.goto (-40), 3) := by decide +kernel
theorem dX3_mostSiblings_47 : decode cX3_mostSiblings 47 = .ok (.iload_n 1, 1) := by decide +kernel
theorem dX3_mostSiblings_48 : decode cX3_mostSiblings 48 = .ok (.ireturn, 1) := by decide +kernel
theorem dX4_init_0 : decode cX4_init 0 = .ok (.aload_n 0, 1) := by decide +kernel
theorem dX4_init_1 : decode cX4_init 1 = .ok (.invokespecial 1, 3) := by decide +kernel
theorem dX4_init_4 : decode cX4_init 4 = .ok (.aload_n 0, 1) := by decide +kernel
theorem dX4_init_5 : decode cX4_init 5 = .ok (.new 7, 3) := by decide +kernel
theorem dX4_init_8 : decode cX4_init 8 = .ok (.dup, 1) := by decide +kernel
theorem dX4_init_9 : decode cX4_init 9 = .ok (.invokespecial 9, 3) := by decide +kernel
theorem dX4_init_12 : decode cX4_init 12 = .ok (.putfield 10, 3) := by decide +kernel
theorem dX4_init_15 : decode cX4_init 15 = .ok (.aload_n 0, 1) := by decide +kernel
theorem dX4_init_16 : decode cX4_init 16 = .ok (.new 7, 3) := by decide +kernel
theorem dX4_init_19 : decode cX4_init 19 = .ok (.dup, 1) := by decide +kernel
theorem dX4_init_20 : decode cX4_init 20 = .ok (.invokespecial 9, 3) := by decide +kernel
theorem dX4_init_23 : decode cX4_init 23 = .ok (.putfield 16, 3) := by decide +kernel
theorem dX4_init_26 : decode cX4_init 26 = .ok (.aload_n 0, 1) := by decide +kernel
theorem dX4_init_27 : decode cX4_init 27 = .ok (.bipush 6, 2) := by decide +kernel
theorem dX4_init_29 : decode cX4_init 29 = .ok (.anewarray 7, 3) := by decide +kernel
theorem dX4_init_32 : decode cX4_init 32 = .ok (.putfield 19, 3) := by decide +kernel
theorem dX4_init_35 : decode cX4_init 35 = .ok (.aload_n 0, 1) := by decide +kernel
theorem dX4_init_36 : decode cX4_init 36 = .ok (.bipush 60, 2) := by decide +kernel
theorem dX4_init_38 : decode cX4_init 38 = .ok (.newarray .int, 2) := by decide +kernel
theorem dX4_init_40 : decode cX4_init 40 = .ok (.putfield 23, 3) := by decide +kernel
theorem dX4_init_43 : decode cX4_init 43 = .ok (.aload_n 0, 1) := by decide +kernel
theorem dX4_init_44 : decode cX4_init 44 = .ok (.new 27, 3) := by decide +kernel
theorem dX4_init_47 : decode cX4_init 47 = .ok (.dup, 1) := by decide +kernel
theorem dX4_init_48 : decode cX4_init 48 = .ok (.invokespecial 29, 3) := by decide +kernel
theorem dX4_init_51 : decode cX4_init 51 = .ok (.putfield 30, 3) := by decide +kernel
theorem dX4_init_54 : decode cX4_init 54 = .ok (.iconst 0, 1) := by decide +kernel
theorem dX4_init_55 : decode cX4_init 55 = .ok (.istore_n 1, 1) := by decide +kernel
theorem dX4_init_56 : decode cX4_init 56 = .ok (.iload_n 1, 1) := by decide +kernel
theorem dX4_init_57 : decode cX4_init 57 = .ok (.bipush 6, 2) := by decide +kernel
theorem dX4_init_59 : decode cX4_init 59 = .ok (.if_icmp .ge 22, 3) := by decide +kernel
theorem dX4_init_62 : decode cX4_init 62 = .ok (.aload_n 0, 1) := by decide +kernel
theorem dX4_init_63 : decode cX4_init 63 = .ok (.getfield 19, 3) := by decide +kernel
theorem dX4_init_66 : decode cX4_init 66 = .ok (.iload_n 1, 1) := by decide +kernel
theorem dX4_init_67 : decode cX4_init 67 = .ok (.new 7, 3) := by decide +kernel
theorem dX4_init_70 : decode cX4_init 70 = .ok (.dup, 1) := by decide +kernel
theorem dX4_init_71 : decode cX4_init 71 = .ok (.invokespecial 9, 3) := by decide +kernel
theorem dX4_init_74 : decode cX4_init 74 = .ok (.aastore, 1) := by decide +kernel
theorem dX4_init_75 : decode cX4_init 75 = .ok (.iinc 1 1, 3) := by decide +kernel
theorem dX4_init_78 : decode cX4_init 78 = .ok (.goto (-22), 3) := by decide +kernel
theorem dX4_init_81 : decode cX4_init 81 = .ok (.return_, 1) := by decide +kernel
theorem dX4_read_0 : decode cX4_read 0 = .ok (.iload_n 1, 1) := by decide +kernel
theorem dX4_read_1 : decode cX4_read 1 = .ok (.iload_n 2, 1) := by decide +kernel
theorem dX4_read_2 : decode cX4_read 2 = .ok (.iload_n 3, 1) := by decide +kernel
theorem dX4_read_3 : decode cX4_read 3 = .ok (.invokestatic 34, 3) := by decide +kernel
theorem dX4_read_6 : decode cX4_read 6 = .ok (.aload_n 0, 1) := by decide +kernel
theorem dX4_read_7 : decode cX4_read 7 = .ok (.invokevirtual 38, 3) := by decide +kernel
theorem dX4_read_10 : decode cX4_read 10 = .ok (.aload_n 0, 1) := by decide +kernel
theorem dX4_read_11 : decode cX4_read 11 = .ok (.getfield 10, 3) := by decide +kernel
theorem dX4_read_14 : decode cX4_read 14 = .ok (.getfield 41, 3) := by decide +kernel
theorem dX4_read_17 : decode cX4_read 17 = .ok (.iload_n 2, 1) := by decide +kernel
theorem dX4_read_18 : decode cX4_read 18 = .ok (.aaload, 1) := by decide +kernel
theorem dX4_read_19 : decode cX4_read 19 = .ok (.astore 4, 2) := by decide +kernel
theorem dX4_read_21 : decode cX4_read 21 = .ok (.aload 4, 2) := by decide +kernel
theorem dX4_read_23 : decode cX4_read 23 = .ok (.iload_n 1, 1) := by decide +kernel
theorem dX4_read_24 : decode cX4_read 24 = .ok (.iload_n 3, 1) := by decide +kernel
theorem dX4_read_25 : decode cX4_read 25 = .ok (.invokevirtual 45, 3) := by decide +kernel
theorem dX4_read_28 : decode cX4_read 28 = .ok (.aload 4, 2) := by decide +kernel
theorem dX4_read_30 : decode cX4_read 30 = .ok (.getfield 51, 3) := by decide +kernel
theorem dX4_read_33 : decode cX4_read 33 = .ok (.iload_n 3, 1) := by decide +kernel
theorem dX4_read_34 : decode cX4_read 34 = .ok (.aaload, 1) := by decide +kernel
theorem dX4_read_35 : decode cX4_read 35 = .ok (.getfield 55, 3) := by decide +kernel
theorem dX4_read_38 : decode cX4_read 38 = .ok (.ireturn, 1) := by decide +kernel
theorem dX4_write_0 : decode cX4_write 0 = .ok (.iload_n 1, 1) := by decide +kernel
theorem dX4_write_1 : decode cX4_write 1 = .ok (.iload_n 2, 1) := by decide +kernel
theorem dX4_write_2 : decode cX4_write 2 = .ok (.iload_n 3, 1) := by decide +kernel
theorem dX4_write_3 : decode cX4_write 3 = .ok (.invokestatic 34, 3) := by decide +kernel
theorem dX4_write_6 : decode cX4_write 6 = .ok (.iload 4, 2) := by decide +kernel
theorem dX4_write_8 : decode cX4_write 8 = .ok (.bipush 99, 2) := by decide +kernel
theorem dX4_write_10 : decode cX4_write 10 = .ok (.invokestatic 61, 3) := by decide +kernel
theorem dX4_write_13 : decode cX4_write 13 = .ok (.aload_n 0, 1) := by decide +kernel
theorem dX4_write_14 : decode cX4_write 14 = .ok (.getfield 10, 3) := by decide +kernel
theorem dX4_write_17 : decode cX4_write 17 = .ok (.getfield 41, 3) := by decide +kernel
theorem dX4_write_20 : decode cX4_write 20 = .ok (.iload_n 2, 1) := by decide +kernel
theorem dX4_write_21 : decode cX4_write 21 = .ok (.aaload, 1) := by decide +kernel
theorem dX4_write_22 : decode cX4_write 22 = .ok (.iload_n 1, 1) := by decide +kernel
theorem dX4_write_23 : decode cX4_write 23 = .ok (.iload_n 3, 1) := by decide +kernel
theorem dX4_write_24 : decode cX4_write 24 = .ok (.invokevirtual 64, 3) := by decide +kernel
theorem dX4_write_27 : decode cX4_write 27 = .ok (.ifCond .ne 13, 3) := by decide +kernel
theorem dX4_write_30 : decode cX4_write 30 = .ok (.new 68, 3) := by decide +kernel
theorem dX4_write_33 : decode cX4_write 33 = .ok (.dup, 1) := by decide +kernel
theorem dX4_write_34 : decode cX4_write 34 = .ok (.ldc 70, 2) := by decide +kernel
theorem dX4_write_36 : decode cX4_write 36 = .ok (.invokespecial 72, 3) := by decide +kernel
theorem dX4_write_39 : decode cX4_write 39 = .ok (.athrow, 1) := by decide +kernel
theorem dX4_write_40 : decode cX4_write 40 = .ok (.aload_n 0, 1) := by decide +kernel
theorem dX4_write_41 : decode cX4_write 41 = .ok (.invokevirtual 38, 3) := by decide +kernel
theorem dX4_write_44 : decode cX4_write 44 = .ok (.aload_n 0, 1) := by decide +kernel
theorem dX4_write_45 : decode cX4_write 45 = .ok (.getfield 10, 3) := by decide +kernel
theorem dX4_write_48 : decode cX4_write 48 = .ok (.iload_n 1, 1) := by decide +kernel
theorem dX4_write_49 : decode cX4_write 49 = .ok (.iload_n 2, 1) := by decide +kernel
theorem dX4_write_50 : decode cX4_write 50 = .ok (.iload_n 3, 1) := by decide +kernel
theorem dX4_write_51 : decode cX4_write 51 = .ok (.iload 4, 2) := by decide +kernel
theorem dX4_write_53 : decode cX4_write 53 = .ok (.invokevirtual 75, 3) := by decide +kernel
theorem dX4_write_56 : decode cX4_write 56 = .ok (.ireturn, 1) := by decide +kernel
theorem dX4_pull_0 : decode cX4_pull 0 = .ok (.iload_n 1, 1) := by decide +kernel
theorem dX4_pull_1 : decode cX4_pull 1 = .ok (.iload_n 2, 1) := by decide +kernel
theorem dX4_pull_2 : decode cX4_pull 2 = .ok (.iload_n 3, 1) := by decide +kernel
theorem dX4_pull_3 : decode cX4_pull 3 = .ok (.invokestatic 79, 3) := by decide +kernel
theorem dX4_pull_6 : decode cX4_pull 6 = .ok (.aload_n 0, 1) := by decide +kernel
theorem dX4_pull_7 : decode cX4_pull 7 = .ok (.getfield 10, 3) := by decide +kernel
theorem dX4_pull_10 : decode cX4_pull 10 = .ok (.getfield 41, 3) := by decide +kernel
theorem dX4_pull_13 : decode cX4_pull 13 = .ok (.iload_n 3, 1) := by decide +kernel
theorem dX4_pull_14 : decode cX4_pull 14 = .ok (.aaload, 1) := by decide +kernel
theorem dX4_pull_15 : decode cX4_pull 15 = .ok (.iload_n 1, 1) := by decide +kernel
theorem dX4_pull_16 : decode cX4_pull 16 = .ok (.iload_n 2, 1) := by decide +kernel
theorem dX4_pull_17 : decode cX4_pull 17 = .ok (.invokevirtual 82, 3) := by decide +kernel
theorem dX4_pull_20 : decode cX4_pull 20 = .ok (.ifCond .ne 13, 3) := by decide +kernel
theorem dX4_pull_23 : decode cX4_pull 23 = .ok (.new 68, 3) := by decide +kernel
