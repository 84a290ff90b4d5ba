theorem dX0_init_0 : decode cX0_init 0 = .ok (.aload_n 0, 1) := by decide +kernel
theorem dX0_init_1 : decode cX0_init 1 = .ok (.invokespecial 3, 3) := by decide +kernel
theorem dX0_init_4 : decode cX0_init 4 = .ok (.aload_n 0, 1) := by decide +kernel
theorem dX0_init_5 : decode cX0_init 5 = .ok (.iconst 5, 1) := by decide +kernel
theorem dX0_init_6 : decode cX0_init 6 = .ok (.newarray .int, 2) := by decide +kernel
theorem dX0_init_8 : decode cX0_init 8 = .ok (.putfield 9, 3) := by decide +kernel
theorem dX0_init_11 : decode cX0_init 11 = .ok (.aload_n 0, 1) := by decide +kernel
theorem dX0_init_12 : decode cX0_init 12 = .ok (.iconst 4, 1) := by decide +kernel
theorem dX0_init_13 : decode cX0_init 13 = .ok (.newarray .int, 2) := by decide +kernel
theorem dX0_init_15 : decode cX0_init 15 = .ok (.putfield 15, 3) := by decide +kernel
theorem dX0_init_18 : decode cX0_init 18 = .ok (.aload_n 0, 1) := by decide +kernel
theorem dX0_init_19 : decode cX0_init 19 = .ok (.iconst 4, 1) := by decide +kernel
theorem dX0_init_20 : decode cX0_init 20 = .ok (.newarray .int, 2) := by decide +kernel
theorem dX0_init_22 : decode cX0_init 22 = .ok (.putfield 18, 3) := by decide +kernel
theorem dX0_init_25 : decode cX0_init 25 = .ok (.return_, 1) := by decide +kernel
theorem dX0_become_0 : decode cX0_become 0 = .ok (.aload_n 1, 1) := by decide +kernel
theorem dX0_become_1 : decode cX0_become 1 = .ok (.getfield 9, 3) := by decide +kernel
theorem dX0_become_4 : decode cX0_become 4 = .ok (.iconst 0, 1) := by decide +kernel
theorem dX0_become_5 : decode cX0_become 5 = .ok (.aload_n 0, 1) := by decide +kernel
theorem dX0_become_6 : decode cX0_become 6 = .ok (.getfield 9, 3) := by decide +kernel
theorem dX0_become_9 : decode cX0_become 9 = .ok (.iconst 0, 1) := by decide +kernel
theorem dX0_become_10 : decode cX0_become 10 = .ok (.iconst 5, 1) := by decide +kernel
theorem dX0_become_11 : decode cX0_become 11 = .ok (.invokestatic 21, 3) := by decide +kernel
theorem dX0_become_14 : decode cX0_become 14 = .ok (.aload_n 1, 1) := by decide +kernel
theorem dX0_become_15 : decode cX0_become 15 = .ok (.getfield 15, 3) := by decide +kernel
theorem dX0_become_18 : decode cX0_become 18 = .ok (.iconst 0, 1) := by decide +kernel
theorem dX0_become_19 : decode cX0_become 19 = .ok (.aload_n 0, 1) := by decide +kernel
theorem dX0_become_20 : decode cX0_become 20 = .ok (.getfield 15, 3) := by decide +kernel
theorem dX0_become_23 : decode cX0_become 23 = .ok (.iconst 0, 1) := by decide +kernel
theorem dX0_become_24 : decode cX0_become 24 = .ok (.iconst 4, 1) := by decide +kernel
theorem dX0_become_25 : decode cX0_become 25 = .ok (.invokestatic 21, 3) := by decide +kernel
theorem dX0_become_28 : decode cX0_become 28 = .ok (.aload_n 1, 1) := by decide +kernel
theorem dX0_become_29 : decode cX0_become 29 = .ok (.getfield 18, 3) := by decide +kernel
theorem dX0_become_32 : decode cX0_become 32 = .ok (.iconst 0, 1) := by decide +kernel
theorem dX0_become_33 : decode cX0_become 33 = .ok (.aload_n 0, 1) := by decide +kernel
theorem dX0_become_34 : decode cX0_become 34 = .ok (.getfield 18, 3) := by decide +kernel
theorem dX0_become_37 : decode cX0_become 37 = .ok (.iconst 0, 1) := by decide +kernel
theorem dX0_become_38 : decode cX0_become 38 = .ok (.iconst 4, 1) := by decide +kernel
theorem dX0_become_39 : decode cX0_become 39 = .ok (.invokestatic 21, 3) := by decide +kernel
theorem dX0_become_42 : decode cX0_become 42 = .ok (.aload_n 0, 1) := by decide +kernel
theorem dX0_become_43 : decode cX0_become 43 = .ok (.aload_n 1, 1) := by decide +kernel
theorem dX0_become_44 : decode cX0_become 44 = .ok (.getfield 27, 3) := by decide +kernel
theorem dX0_become_47 : decode cX0_become 47 = .ok (.putfield 27, 3) := by decide +kernel
theorem dX0_become_50 : decode cX0_become 50 = .ok (.return_, 1) := by decide +kernel
theorem dX0_has_0 : decode cX0_has 0 = .ok (.iconst 0, 1) := by decide +kernel
theorem dX0_has_1 : decode cX0_has 1 = .ok (.istore_n 2, 1) := by decide +kernel
theorem dX0_has_2 : decode cX0_has 2 = .ok (.iload_n 2, 1) := by decide +kernel
theorem dX0_has_3 : decode cX0_has 3 = .ok (.aload_n 0, 1) := by decide +kernel
theorem dX0_has_4 : decode cX0_has 4 = .ok (.getfield 27, 3) := by decide +kernel
theorem dX0_has_7 : decode cX0_has 7 = .ok (.if_icmp .ge 21, 3) := by decide +kernel
theorem dX0_has_10 : decode cX0_has 10 = .ok (.aload_n 0, 1) := by decide +kernel
theorem dX0_has_11 : decode cX0_has 11 = .ok (.getfield 15, 3) := by decide +kernel
theorem dX0_has_14 : decode cX0_has 14 = .ok (.iload_n 2, 1) := by decide +kernel
theorem dX0_has_15 : decode cX0_has 15 = .ok (.iaload, 1) := by decide +kernel
theorem dX0_has_16 : decode cX0_has 16 = .ok (.iload_n 1, 1) := by decide +kernel
theorem dX0_has_17 : decode cX0_has 17 = .ok (.if_icmp .ne 5, 3) := by decide +kernel
theorem dX0_has_20 : decode cX0_has 20 = .ok (.iconst 1, 1) := by decide +kernel
theorem dX0_has_21 : decode cX0_has 21 = .ok (.ireturn, 1) := by decide +kernel
theorem dX0_has_22 : decode cX0_has 22 = .ok (.iinc 2 1, 3) := by decide +kernel
theorem dX0_has_25 : decode cX0_has 25 = .ok (.goto (-23), 3) := by decide +kernel
theorem dX0_has_28 : decode cX0_has 28 = .ok (.iconst 0, 1) := by decide +kernel
theorem dX0_has_29 : decode cX0_has 29 = .ok (.ireturn, 1) := by decide +kernel
theorem dX0_hasOneOf_0 : decode cX0_hasOneOf 0 = .ok (.iconst 0, 1) := by decide +kernel
theorem dX0_hasOneOf_1 : decode cX0_hasOneOf 1 = .ok (.istore_n 2, 1) := by decide +kernel
theorem dX0_hasOneOf_2 : decode cX0_hasOneOf 2 = .ok (.iload_n 2, 1) := by decide +kernel
theorem dX0_hasOneOf_3 : decode cX0_hasOneOf 3 = .ok (.aload_n 0, 1) := by decide +kernel
theorem dX0_hasOneOf_4 : decode cX0_hasOneOf 4 = .ok (.getfield 27, 3) := by decide +kernel
theorem dX0_hasOneOf_7 : decode cX0_hasOneOf 7 = .ok (.if_icmp .ge 24, 3) := by decide +kernel
theorem dX0_hasOneOf_10 : decode cX0_hasOneOf 10 = .ok (.aload_n 0, 1) := by decide +kernel
theorem dX0_hasOneOf_11 : decode cX0_hasOneOf 11 = .ok (.getfield 15, 3) := by decide +kernel
theorem dX0_hasOneOf_14 : decode cX0_hasOneOf 14 = .ok (.iload_n 2, 1) := by decide +kernel
theorem dX0_hasOneOf_15 : decode cX0_hasOneOf 15 = .ok (.iaload, 1) := by decide +kernel
theorem dX0_hasOneOf_16 : decode cX0_hasOneOf 16 = .ok (.invokestatic 31, 3) := by decide +kernel
theorem dX0_hasOneOf_19 : decode cX0_hasOneOf 19 = .ok (.iload_n 1, 1) := by decide +kernel
theorem dX0_hasOneOf_20 : decode cX0_hasOneOf 20 = .ok (.if_icmp .ne 5, 3) := by decide +kernel
theorem dX0_hasOneOf_23 : decode cX0_hasOneOf 23 = .ok (.iconst 1, 1) := by decide +kernel
theorem dX0_hasOneOf_24 : decode cX0_hasOneOf 24 = .ok (.ireturn, 1) := by decide +kernel
theorem dX0_hasOneOf_25 : decode cX0_hasOneOf 25 = .ok (.iinc 2 1, 3) := by decide +kernel
theorem dX0_hasOneOf_28 : decode cX0_hasOneOf 28 = .ok (.goto (-26), 3) := by decide +kernel
theorem dX0_hasOneOf_31 : decode cX0_hasOneOf 31 = .ok (.iconst 0, 1) := by decide +kernel
theorem dX0_hasOneOf_32 : decode cX0_hasOneOf 32 = .ok (.ireturn, 1) := by decide +kernel
theorem dX0_hasSameSiblings_0 : decode cX0_hasSameSiblings 0 = .ok (.aload_n 0, 1) := by decide +kernel
theorem dX0_hasSameSiblings_1 : decode cX0_hasSameSiblings 1 = .ok (.getfield 27, 3) := by decide +kernel
theorem dX0_hasSameSiblings_4 : decode cX0_hasSameSiblings 4 = .ok (.aload_n 1, 1) := by decide +kernel
theorem dX0_hasSameSiblings_5 : decode cX0_hasSameSiblings 5 = .ok (.getfield 27, 3) := by decide +kernel
theorem dX0_hasSameSiblings_8 : decode cX0_hasSameSiblings 8 = .ok (.if_icmp .eq 5, 3) := by decide +kernel
theorem dX0_hasSameSiblings_11 : decode cX0_hasSameSiblings 11 = .ok (.iconst 0, 1) := by decide +kernel
theorem dX0_hasSameSiblings_12 : decode cX0_hasSameSiblings 12 = .ok (.ireturn, 1) := by decide +kernel
theorem dX0_hasSameSiblings_13 : decode cX0_hasSameSiblings 13 = .ok (.iconst 0, 1) := by decide +kernel
theorem dX0_hasSameSiblings_14 : decode cX0_hasSameSiblings 14 = .ok (.istore_n 2, 1) := by decide +kernel
theorem dX0_hasSameSiblings_15 : decode cX0_hasSameSiblings 15 = .ok (.iload_n 2, 1) := by decide +kernel
theorem dX0_hasSameSiblings_16 : decode cX0_hasSameSiblings 16 = .ok (.aload_n 0, 1) := by decide +kernel
theorem dX0_hasSameSiblings_17 : decode cX0_hasSameSiblings 17 = .ok (.getfield 27, 3) := by decide +kernel
theorem dX0_hasSameSiblings_20 : decode cX0_hasSameSiblings 20 = .ok (.if_icmp .ge 26, 3) := by decide +kernel
theorem dX0_hasSameSiblings_23 : decode cX0_hasSameSiblings 23 = .ok (.aload_n 0, 1) := by decide +kernel
theorem dX0_hasSameSiblings_24 : decode cX0_hasSameSiblings 24 = .ok (.getfield 15, 3) := by decide +kernel
theorem dX0_hasSameSiblings_27 : decode cX0_hasSameSiblings 27 = .ok (.iload_n 2, 1) := by decide +kernel
theorem dX0_hasSameSiblings_28 : decode cX0_hasSameSiblings 28 = .ok (.iaload, 1) := by decide +kernel
theorem dX0_hasSameSiblings_29 : decode cX0_hasSameSiblings 29 = .ok (.aload_n 1, 1) := by decide +kernel
theorem dX0_hasSameSiblings_30 : decode cX0_hasSameSiblings 30 = .ok (.getfield 15, 3) := by decide +kernel
theorem dX0_hasSameSiblings_33 : decode cX0_hasSameSiblings 33 = .ok (.iload_n 2, 1) := by decide +kernel
theorem dX0_hasSameSiblings_34 : decode cX0_hasSameSiblings 34 = .ok (.iaload, 1) := by decide +kernel
theorem dX0_hasSameSiblings_35 : decode cX0_hasSameSiblings 35 = .ok (.if_icmp .eq 5, 3) := by decide +kernel
theorem dX0_hasSameSiblings_38 : decode cX0_hasSameSiblings 38 = .ok (.iconst 0, 1) := by decide +kernel
theorem dX0_hasSameSiblings_39 : decode cX0_hasSameSiblings 39 = .ok (.ireturn, 1) := by decide +kernel
theorem dX0_hasSameSiblings_40 : decode cX0_hasSameSiblings 40 = .ok (.iinc 2 1, 3) := by decide +kernel
theorem dX0_hasSameSiblings_43 : decode cX0_hasSameSiblings 43 = .ok (.goto (-28), 3) := by decide +kernel
theorem dX0_hasSameSiblings_46 : decode cX0_hasSameSiblings 46 = .ok (.iconst 1, 1) := by decide +kernel
theorem dX0_hasSameSiblings_47 : decode cX0_hasSameSiblings 47 = .ok (.ireturn, 1) := by decide +kernel
theorem dX0_coveredBy_0 : decode cX0_coveredBy 0 = .ok (.iconst 0, 1) := by decide +kernel
theorem dX0_coveredBy_1 : decode cX0_coveredBy 1 = .ok (.istore_n 2, 1) := by decide +kernel
theorem dX0_coveredBy_2 : decode cX0_coveredBy 2 = .ok (.iconst 0, 1) := by decide +kernel
theorem dX0_coveredBy_3 : decode cX0_coveredBy 3 = .ok (.istore_n 3, 1) := by decide +kernel
theorem dX0_coveredBy_4 : decode cX0_coveredBy 4 = .ok (.iload_n 3, 1) := by decide +kernel
theorem dX0_coveredBy_5 : decode cX0_coveredBy 5 = .ok (.aload_n 0, 1) := by decide +kernel
theorem dX0_coveredBy_6 : decode cX0_coveredBy 6 = .ok (.getfield 27, 3) := by decide +kernel
theorem dX0_coveredBy_9 : decode cX0_coveredBy 9 = .ok (.if_icmp .ge 25, 3) := by decide +kernel
theorem dX0_coveredBy_12 : decode cX0_coveredBy 12 = .ok (.aload_n 1, 1) := by decide +kernel
theorem dX0_coveredBy_13 : decode cX0_coveredBy 13 = .ok (.aload_n 0, 1) := by decide +kernel
theorem dX0_coveredBy_14 : decode cX0_coveredBy 14 = .ok (.getfield 15, 3) := by decide +kernel
theorem dX0_coveredBy_17 : decode cX0_coveredBy 17 = .ok (.iload_n 3, 1) := by decide +kernel
theorem dX0_coveredBy_18 : decode cX0_coveredBy 18 = .ok (.iaload, 1) := by decide +kernel
theorem dX0_coveredBy_19 : decode cX0_coveredBy 19 = .ok (.invokestatic 35, 3) := by decide +kernel
theorem dX0_coveredBy_22 : decode cX0_coveredBy 22 = .ok (.ifCond .eq 6, 3) := by decide +kernel
theorem dX0_coveredBy_25 : decode cX0_coveredBy 25 = .ok (.iinc 2 1, 3) := by decide +kernel
theorem dX0_coveredBy_28 : decode cX0_coveredBy 28 = .ok (.iinc 3 1, 3) := by decide +kernel
theorem dX0_coveredBy_31 : decode cX0_coveredBy 31 = .ok (.goto (-27), 3) := by decide +kernel
theorem dX0_coveredBy_34 : decode cX0_coveredBy 34 = .ok (.iload_n 2, 1) := by decide +kernel
theorem dX0_coveredBy_35 : decode cX0_coveredBy 35 = .ok (.ireturn, 1) := by decide +kernel
theorem dX0_hasDropped_0 : decode cX0_hasDropped 0 = .ok (.aload_n 0, 1) := by decide +kernel
theorem dX0_hasDropped_1 : decode cX0_hasDropped 1 = .ok (.iload_n 1, 1) := by decide +kernel
theorem dX0_hasDropped_2 : decode cX0_hasDropped 2 = .ok (.invokevirtual 39, 3) := by decide +kernel
theorem dX0_hasDropped_5 : decode cX0_hasDropped 5 = .ok (.ifCond .ne 18, 3) := by decide +kernel
theorem dX0_hasDropped_8 : decode cX0_hasDropped 8 = .ok (.aload_n 0, 1) := by decide +kernel
theorem dX0_hasDropped_9 : decode cX0_hasDropped 9 = .ok (.getfield 9, 3) := by decide +kernel
theorem dX0_hasDropped_12 : decode cX0_hasDropped 12 = .ok (.iload_n 1, 1) := by decide +kernel
theorem dX0_hasDropped_13 : decode cX0_hasDropped 13 = .ok (.invokestatic 35, 3) := by decide +kernel
theorem dX0_hasDropped_16 : decode cX0_hasDropped 16 = .ok (.ifCond .eq 7, 3) := by decide +kernel
theorem dX0_hasDropped_19 : decode cX0_hasDropped 19 = .ok (.iconst 1, 1) := by decide +kernel
theorem dX0_hasDropped_20 : decode cX0_hasDropped 20 = .ok (.goto 4, 3) := by decide +kernel
theorem dX0_hasDropped_23 : decode cX0_hasDropped 23 = .ok (.iconst 0, 1) := by decide +kernel
theorem dX0_hasDropped_24 : decode cX0_hasDropped 24 = .ok (.ireturn, 1) := by decide +kernel
theorem dX0_isNew_0 : decode cX0_isNew 0 = .ok (.aload_n 0, 1) := by decide +kernel
theorem dX0_isNew_1 : decode cX0_isNew 1 = .ok (.iload_n 1, 1) := by decide +kernel
theorem dX0_isNew_2 : decode cX0_isNew 2 = .ok (.invokevirtual 39, 3) := by decide +kernel
theorem dX0_isNew_5 : decode cX0_isNew 5 = .ok (.ifCond .ne 18, 3) := by decide +kernel
theorem dX0_isNew_8 : decode cX0_isNew 8 = .ok (.aload_n 0, 1) := by decide +kernel
theorem dX0_isNew_9 : decode cX0_isNew 9 = .ok (.getfield 9, 3) := by decide +kernel
theorem dX0_isNew_12 : decode cX0_isNew 12 = .ok (.iload_n 1, 1) := by decide +kernel
theorem dX0_isNew_13 : decode cX0_isNew 13 = .ok (.invokestatic 35, 3) := by decide +kernel
theorem dX0_isNew_16 : decode cX0_isNew 16 = .ok (.ifCond .ne 7, 3) := by decide +kernel
theorem dX0_isNew_19 : decode cX0_isNew 19 = .ok (.iconst 1, 1) := by decide +kernel
theorem dX0_isNew_20 : decode cX0_isNew 20 = .ok (.goto 4, 3) := by decide +kernel
theorem dX0_isNew_23 : decode cX0_isNew 23 = .ok (.iconst 0, 1) := by decide +kernel
theorem dX0_isNew_24 : decode cX0_isNew 24 = .ok (.ireturn, 1) := by decide +kernel
theorem dX0_lostTo_0 : decode cX0_lostTo 0 = .ok (.iconst 0, 1) := by decide +kernel
theorem dX0_lostTo_1 : decode cX0_lostTo 1 = .ok (.istore_n 2, 1) := by decide +kernel
theorem dX0_lostTo_2 : decode cX0_lostTo 2 = .ok (.iconst 0, 1) := by decide +kernel
theorem dX0_lostTo_3 : decode cX0_lostTo 3 = .ok (.istore_n 3, 1) := by decide +kernel
theorem dX0_lostTo_4 : decode cX0_lostTo 4 = .ok (.iload_n 3, 1) := by decide +kernel
theorem dX0_lostTo_5 : decode cX0_lostTo 5 = .ok (.aload_n 0, 1) := by decide +kernel
theorem dX0_lostTo_6 : decode cX0_lostTo 6 = .ok (.getfield 27, 3) := by decide +kernel
theorem dX0_lostTo_9 : decode cX0_lostTo 9 = .ok (.if_icmp .ge 25, 3) := by decide +kernel
theorem dX0_lostTo_12 : decode cX0_lostTo 12 = .ok (.aload_n 1, 1) := by decide +kernel
theorem dX0_lostTo_13 : decode cX0_lostTo 13 = .ok (.aload_n 0, 1) := by decide +kernel
theorem dX0_lostTo_14 : decode cX0_lostTo 14 = .ok (.getfield 15, 3) := by decide +kernel
theorem dX0_lostTo_17 : decode cX0_lostTo 17 = .ok (.iload_n 3, 1) := by decide +kernel
theorem dX0_lostTo_18 : decode cX0_lostTo 18 = .ok (.iaload, 1) := by decide +kernel
theorem dX0_lostTo_19 : decode cX0_lostTo 19 = .ok (.invokevirtual 43, 3) := by decide +kernel
theorem dX0_lostTo_22 : decode cX0_lostTo 22 = .ok (.ifCond .eq 6, 3) := by decide +kernel
theorem dX0_lostTo_25 : decode cX0_lostTo 25 = .ok (.iinc 2 1, 3) := by decide +kernel
theorem dX0_lostTo_28 : decode cX0_lostTo 28 = .ok (.iinc 3 1, 3) := by decide +kernel
theorem dX0_lostTo_31 : decode cX0_lostTo 31 = .ok (.goto (-27), 3) := by decide +kernel
theorem dX0_lostTo_34 : decode cX0_lostTo 34 = .ok (.iload_n 2, 1) := by decide +kernel
theorem dX0_lostTo_35 : decode cX0_lostTo 35 = .ok (.ireturn, 1) := by decide +kernel
theorem dX0_gainedFrom_0 : decode cX0_gainedFrom 0 = .ok (.iconst 0, 1) := by decide +kernel
theorem dX0_gainedFrom_1 : decode cX0_gainedFrom 1 = .ok (.istore_n 2, 1) := by decide +kernel
theorem dX0_gainedFrom_2 : decode cX0_gainedFrom 2 = .ok (.iconst 0, 1) := by decide +kernel
theorem dX0_gainedFrom_3 : decode cX0_gainedFrom 3 = .ok (.istore_n 3, 1) := by decide +kernel
theorem dX0_gainedFrom_4 : decode cX0_gainedFrom 4 = .ok (.iload_n 3, 1) := by decide +kernel
theorem dX0_gainedFrom_5 : decode cX0_gainedFrom 5 = .ok (.aload_n 1, 1) := by decide +kernel
theorem dX0_gainedFrom_6 : decode cX0_gainedFrom 6 = .ok (.getfield 27, 3) := by decide +kernel
theorem dX0_gainedFrom_9 : decode cX0_gainedFrom 9 = .ok (.if_icmp .ge 25, 3) := by decide +kernel
theorem dX0_gainedFrom_12 : decode cX0_gainedFrom 12 = .ok (.aload_n 0, 1) := by decide +kernel
theorem dX0_gainedFrom_13 : decode cX0_gainedFrom 13 = .ok (.aload_n 1, 1) := by decide +kernel
theorem dX0_gainedFrom_14 : decode cX0_gainedFrom 14 = .ok (.getfield 15, 3) := by decide +kernel
theorem dX0_gainedFrom_17 : decode cX0_gainedFrom 17 = .ok (.iload_n 3, 1) := by decide +kernel
theorem dX0_gainedFrom_18 : decode cX0_gainedFrom 18 = .ok (.iaload, 1) := by decide +kernel
theorem dX0_gainedFrom_19 : decode cX0_gainedFrom 19 = .ok (.invokevirtual 46, 3) := by decide +kernel
theorem dX0_gainedFrom_22 : decode cX0_gainedFrom 22 = .ok (.ifCond .eq 6, 3) := by decide +kernel
theorem dX0_gainedFrom_25 : decode cX0_gainedFrom 25 = .ok (.iinc 2 1, 3) := by decide +kernel
theorem dX0_gainedFrom_28 : decode cX0_gainedFrom 28 = .ok (.iinc 3 1, 3) := by decide +kernel
theorem dX0_gainedFrom_31 : decode cX0_gainedFrom 31 = .ok (.goto (-27), 3) := by decide +kernel
theorem dX0_gainedFrom_34 : decode cX0_gainedFrom 34 = .ok (.iload_n 2, 1) := by decide +kernel
theorem dX0_gainedFrom_35 : decode cX0_gainedFrom 35 = .ok (.ireturn, 1) := by decide +kernel
theorem dX0_dropCoveredBy_0 : decode cX0_dropCoveredBy 0 = .ok (.aload_n 0, 1) := by decide +kernel
theorem dX0_dropCoveredBy_1 : decode cX0_dropCoveredBy 1 = .ok (.getfield 27, 3) := by decide +kernel
theorem dX0_dropCoveredBy_4 : decode cX0_dropCoveredBy 4 = .ok (.iconst 1, 1) := by decide +kernel
theorem dX0_dropCoveredBy_5 : decode cX0_dropCoveredBy 5 = .ok (.isub, 1) := by decide +kernel
theorem dX0_dropCoveredBy_6 : decode cX0_dropCoveredBy 6 = .ok (.istore_n 2, 1) := by decide +kernel
theorem dX0_dropCoveredBy_7 : decode cX0_dropCoveredBy 7 = .ok (.iload_n 2, 1) := by decide +kernel
theorem dX0_dropCoveredBy_8 : decode cX0_dropCoveredBy 8 = .ok (.ifCond .lt 27, 3) := by decide +kernel
theorem dX0_dropCoveredBy_11 : decode cX0_dropCoveredBy 11 = .ok (.aload_n 1, 1) := by decide +kernel
theorem dX0_dropCoveredBy_12 : decode cX0_dropCoveredBy 12 = .ok (.aload_n 0, 1) := by decide +kernel
theorem dX0_dropCoveredBy_13 : decode cX0_dropCoveredBy 13 = .ok (.getfield 15, 3) := by decide +kernel
theorem dX0_dropCoveredBy_16 : decode cX0_dropCoveredBy 16 = .ok (.iload_n 2, 1) := by decide +kernel
theorem dX0_dropCoveredBy_17 : decode cX0_dropCoveredBy 17 = .ok (.iaload, 1) := by decide +kernel
theorem dX0_dropCoveredBy_18 : decode cX0_dropCoveredBy 18 = .ok (.invokestatic 35, 3) := by decide +kernel
theorem dX0_dropCoveredBy_21 : decode cX0_dropCoveredBy 21 = .ok (.ifCond .eq 8, 3) := by decide +kernel
theorem dX0_dropCoveredBy_24 : decode cX0_dropCoveredBy 24 = .ok (.aload_n 0, 1) := by decide +kernel
theorem dX0_dropCoveredBy_25 : decode cX0_dropCoveredBy 25 = .ok (.iload_n 2, 1) := by decide +kernel
theorem dX0_dropCoveredBy_26 : decode cX0_dropCoveredBy 26 = .ok (.invokevirtual 49, 3) := by decide +kernel
theorem dX0_dropCoveredBy_29 : decode cX0_dropCoveredBy 29 = .ok (.iinc 2 (-1), 3) := by decide +kernel
theorem dX0_dropCoveredBy_32 : decode cX0_dropCoveredBy 32 = .ok (.goto (-25), 3) := by decide +kernel
theorem dX0_dropCoveredBy_35 : decode cX0_dropCoveredBy 35 = .ok (.return_, 1) := by decide +kernel
theorem dX0_takeFrom_0 : decode cX0_takeFrom 0 = .ok (.aload_n 0, 1) := by decide +kernel
theorem dX0_takeFrom_1 : decode cX0_takeFrom 1 = .ok (.getfield 27, 3) := by decide +kernel
theorem dX0_takeFrom_4 : decode cX0_takeFrom 4 = .ok (.iconst 1, 1) := by decide +kernel
theorem dX0_takeFrom_5 : decode cX0_takeFrom 5 = .ok (.isub, 1) := by decide +kernel
theorem dX0_takeFrom_6 : decode cX0_takeFrom 6 = .ok (.istore_n 2, 1) := by decide +kernel
theorem dX0_takeFrom_7 : decode cX0_takeFrom 7 = .ok (.iload_n 2, 1) := by decide +kernel
theorem dX0_takeFrom_8 : decode cX0_takeFrom 8 = .ok (.ifCond .lt 27, 3) := by decide +kernel
theorem dX0_takeFrom_11 : decode cX0_takeFrom 11 = .ok (.aload_n 1, 1) := by decide +kernel
theorem dX0_takeFrom_12 : decode cX0_takeFrom 12 = .ok (.aload_n 0, 1) := by decide +kernel
theorem dX0_takeFrom_13 : decode cX0_takeFrom 13 = .ok (.getfield 15, 3) := by decide +kernel
theorem dX0_takeFrom_16 : decode cX0_takeFrom 16 = .ok (.iload_n 2, 1) := by decide +kernel
theorem dX0_takeFrom_17 : decode cX0_takeFrom 17 = .ok (.iaload, 1) := by decide +kernel
theorem dX0_takeFrom_18 : decode cX0_takeFrom 18 = .ok (.invokevirtual 43, 3) := by decide +kernel
theorem dX0_takeFrom_21 : decode cX0_takeFrom 21 = .ok (.ifCond .eq 8, 3) := by decide +kernel
theorem dX0_takeFrom_24 : decode cX0_takeFrom 24 = .ok (.aload_n 0, 1) := by decide +kernel
theorem dX0_takeFrom_25 : decode cX0_takeFrom 25 = .ok (.iload_n 2, 1) := by decide +kernel
theorem dX0_takeFrom_26 : decode cX0_takeFrom 26 = .ok (.invokevirtual 49, 3) := by decide +kernel
theorem dX0_takeFrom_29 : decode cX0_takeFrom 29 = .ok (.iinc 2 (-1), 3) := by decide +kernel
theorem dX0_takeFrom_32 : decode cX0_takeFrom 32 = .ok (.goto (-25), 3) := by decide +kernel
theorem dX0_takeFrom_35 : decode cX0_takeFrom 35 = .ok (.iconst 0, 1) := by decide +kernel
theorem dX0_takeFrom_36 : decode cX0_takeFrom 36 = .ok (.istore_n 2, 1) := by decide +kernel
theorem dX0_takeFrom_37 : decode cX0_takeFrom 37 = .ok (.iload_n 2, 1) := by decide +kernel
theorem dX0_takeFrom_38 : decode cX0_takeFrom 38 = .ok (.aload_n 1, 1) := by decide +kernel
theorem dX0_takeFrom_39 : decode cX0_takeFrom 39 = .ok (.getfield 27, 3) := by decide +kernel
theorem dX0_takeFrom_42 : decode cX0_takeFrom 42 = .ok (.if_icmp .ge 38, 3) := by decide +kernel
theorem dX0_takeFrom_45 : decode cX0_takeFrom 45 = .ok (.aload_n 0, 1) := by decide +kernel
theorem dX0_takeFrom_46 : decode cX0_takeFrom 46 = .ok (.aload_n 1, 1) := by decide +kernel
theorem dX0_takeFrom_47 : decode cX0_takeFrom 47 = .ok (.getfield 15, 3) := by decide +kernel
theorem dX0_takeFrom_50 : decode cX0_takeFrom 50 = .ok (.iload_n 2, 1) := by decide +kernel
theorem dX0_takeFrom_51 : decode cX0_takeFrom 51 = .ok (.iaload, 1) := by decide +kernel
theorem dX0_takeFrom_52 : decode cX0_takeFrom 52 = .ok (.invokevirtual 46, 3) := by decide +kernel
theorem dX0_takeFrom_55 : decode cX0_takeFrom 55 = .ok (.ifCond .eq 19, 3) := by decide +kernel
theorem dX0_takeFrom_58 : decode cX0_takeFrom 58 = .ok (.aload_n 0, 1) := by decide +kernel
theorem dX0_takeFrom_59 : decode cX0_takeFrom 59 = .ok (.aload_n 1, 1) := by decide +kernel
theorem dX0_takeFrom_60 : decode cX0_takeFrom 60 = .ok (.getfield 15, 3) := by decide +kernel
theorem dX0_takeFrom_63 : decode cX0_takeFrom 63 = .ok (.iload_n 2, 1) := by decide +kernel
theorem dX0_takeFrom_64 : decode cX0_takeFrom 64 = .ok (.iaload, 1) := by decide +kernel
theorem dX0_takeFrom_65 : decode cX0_takeFrom 65 = .ok (.aload_n 1, 1) := by decide +kernel
theorem dX0_takeFrom_66 : decode cX0_takeFrom 66 = .ok (.getfield 18, 3) := by decide +kernel
theorem dX0_takeFrom_69 : decode cX0_takeFrom 69 = .ok (.iload_n 2, 1) := by decide +kernel
theorem dX0_takeFrom_70 : decode cX0_takeFrom 70 = .ok (.iaload, 1) := by decide +kernel
theorem dX0_takeFrom_71 : decode cX0_takeFrom 71 = .ok (.invokevirtual 53, 3) := by decide +kernel
theorem dX0_takeFrom_74 : decode cX0_takeFrom 74 = .ok (.iinc 2 1, 3) := by decide +kernel
theorem dX0_takeFrom_77 : decode cX0_takeFrom 77 = .ok (.goto (-40), 3) := by decide +kernel
theorem dX0_takeFrom_80 : decode cX0_takeFrom 80 = .ok (.aload_n 0, 1) := by decide +kernel
theorem dX0_takeFrom_81 : decode cX0_takeFrom 81 = .ok (.getfield 9, 3) := by decide +kernel
theorem dX0_takeFrom_84 : decode cX0_takeFrom 84 = .ok (.aload_n 1, 1) := by decide +kernel
theorem dX0_takeFrom_85 : decode cX0_takeFrom 85 = .ok (.getfield 9, 3) := by decide +kernel
theorem dX0_takeFrom_88 : decode cX0_takeFrom 88 = .ok (.invokestatic 57, 3) := by decide +kernel
theorem dX0_takeFrom_91 : decode cX0_takeFrom 91 = .ok (.return_, 1) := by decide +kernel
theorem dX0_insert_0 : decode cX0_insert 0 = .ok (.aload_n 0, 1) := by decide +kernel
theorem dX0_insert_1 : decode cX0_insert 1 = .ok (.getfield 27, 3) := by decide +kernel
theorem dX0_insert_4 : decode cX0_insert 4 = .ok (.ifCond .lt 11, 3) := by decide +kernel
theorem dX0_insert_7 : decode cX0_insert 7 = .ok (.aload_n 0, 1) := by decide +kernel
theorem dX0_insert_8 : decode cX0_insert 8 = .ok (.getfield 27, 3) := by decide +kernel
theorem dX0_insert_11 : decode cX0_insert 11 = .ok (.iconst 4, 1) := by decide +kernel
theorem dX0_insert_12 : decode cX0_insert 12 = .ok (.if_icmp .lt 4, 3) := by decide +kernel
theorem dX0_insert_15 : decode cX0_insert 15 = .ok (.return_, 1) := by decide +kernel
theorem dX0_insert_16 : decode cX0_insert 16 = .ok (.aload_n 0, 1) := by decide +kernel
theorem dX0_insert_17 : decode cX0_insert 17 = .ok (.getfield 27, 3) := by decide +kernel
theorem dX0_insert_20 : decode cX0_insert 20 = .ok (.istore_n 3, 1) := by decide +kernel
theorem dX0_insert_21 : decode cX0_insert 21 = .ok (.iload_n 3, 1) := by decide +kernel
theorem dX0_insert_22 : decode cX0_insert 22 = .ok (.ifCond .le 49, 3) := by decide +kernel
theorem dX0_insert_25 : decode cX0_insert 25 = .ok (.aload_n 0, 1) := by decide +kernel
theorem dX0_insert_26 : decode cX0_insert 26 = .ok (.getfield 15, 3) := by decide +kernel
theorem dX0_insert_29 : decode cX0_insert 29 = .ok (.iload_n 3, 1) := by decide +kernel
theorem dX0_insert_30 : decode cX0_insert 30 = .ok (.iconst 1, 1) := by decide +kernel
theorem dX0_insert_31 : decode cX0_insert 31 = .ok (.isub, 1) := by decide +kernel
theorem dX0_insert_32 : decode cX0_insert 32 = .ok (.iaload, 1) := by decide +kernel
theorem dX0_insert_33 : decode cX0_insert 33 = .ok (.iload_n 1, 1) := by decide +kernel
theorem dX0_insert_34 : decode cX0_insert 34 = .ok (.if_icmp .le 37, 3) := by decide +kernel
theorem dX0_insert_37 : decode cX0_insert 37 = .ok (.aload_n 0, 1) := by decide +kernel
theorem dX0_insert_38 : decode cX0_insert 38 = .ok (.getfield 15, 3) := by decide +kernel
theorem dX0_insert_41 : decode cX0_insert 41 = .ok (.iload_n 3, 1) := by decide +kernel
theorem dX0_insert_42 : decode cX0_insert 42 = .ok (.aload_n 0, 1) := by decide +kernel
theorem dX0_insert_43 : decode cX0_insert 43 = .ok (.getfield 15, 3) := by decide +kernel
theorem dX0_insert_46 : decode cX0_insert 46 = .ok (.iload_n 3, 1) := by decide +kernel
theorem dX0_insert_47 : decode cX0_insert 47 = .ok (.iconst 1, 1) := by decide +kernel
theorem dX0_insert_48 : decode cX0_insert 48 = .ok (.isub, 1) := by decide +kernel
theorem dX0_insert_49 : decode cX0_insert 49 = .ok (.iaload, 1) := by decide +kernel
theorem dX0_insert_50 : decode cX0_insert 50 = .ok (.iastore, 1) := by decide +kernel
theorem dX0_insert_51 : decode cX0_insert 51 = .ok (.aload_n 0, 1) := by decide +kernel
theorem dX0_insert_52 : decode cX0_insert 52 = .ok (.getfield 18, 3) := by decide +kernel
theorem dX0_insert_55 : decode cX0_insert 55 = .ok (.iload_n 3, 1) := by decide +kernel
theorem dX0_insert_56 : decode cX0_insert 56 = .ok (.aload_n 0, 1) := by decide +kernel
theorem dX0_insert_57 : decode cX0_insert 57 = .ok (.getfield 18, 3) := by decide +kernel
theorem dX0_insert_60 : decode cX0_insert 60 = .ok (.iload_n 3, 1) := by decide +kernel
theorem dX0_insert_61 : decode cX0_insert 61 = .ok (.iconst 1, 1) := by decide +kernel
theorem dX0_insert_62 : decode cX0_insert 62 = .ok (.isub, 1) := by decide +kernel
theorem dX0_insert_63 : decode cX0_insert 63 = .ok (.iaload, 1) := by decide +kernel
theorem dX0_insert_64 : decode cX0_insert 64 = .ok (.iastore, 1) := by decide +kernel
theorem dX0_insert_65 : decode cX0_insert 65 = .ok (.iinc 3 (-1), 3) := by decide +kernel
theorem dX0_insert_68 : decode cX0_insert 68 = .ok (.goto (-47), 3) := by decide +kernel
theorem dX0_insert_71 : decode cX0_insert 71 = .ok (.aload_n 0, 1) := by decide +kernel
theorem dX0_insert_72 : decode cX0_insert 72 = .ok (.getfield 15, 3) := by decide +kernel
theorem dX0_insert_75 : decode cX0_insert 75 = .ok (.iload_n 3, 1) := by decide +kernel
theorem dX0_insert_76 : decode cX0_insert 76 = .ok (.iload_n 1, 1) := by decide +kernel
theorem dX0_insert_77 : decode cX0_insert 77 = .ok (.iastore, 1) := by decide +kernel
theorem dX0_insert_78 : decode cX0_insert 78 = .ok (.aload_n 0, 1) := by decide +kernel
theorem dX0_insert_79 : decode cX0_insert 79 = .ok (.getfield 18, 3) := by decide +kernel
theorem dX0_insert_82 : decode cX0_insert 82 = .ok (.iload_n 3, 1) := by decide +kernel
theorem dX0_insert_83 : decode cX0_insert 83 = .ok (.iload_n 2, 1) := by decide +kernel
theorem dX0_insert_84 : decode cX0_insert 84 = .ok (.iastore, 1) := by decide +kernel
theorem dX0_insert_85 : decode cX0_insert 85 = .ok (.aload_n 0, 1) := by decide +kernel
theorem dX0_insert_86 : decode cX0_insert 86 = .ok (.dup, 1) := by decide +kernel
theorem dX0_insert_87 : decode cX0_insert 87 = .ok (.getfield 27, 3) := by decide +kernel
theorem dX0_insert_90 : decode cX0_insert 90 = .ok (.iconst 1, 1) := by decide +kernel
theorem dX0_insert_91 : decode cX0_insert 91 = .ok (.iadd, 1) := by decide +kernel
theorem dX0_insert_92 : decode cX0_insert 92 = .ok (.putfield 27, 3) := by decide +kernel
theorem dX0_insert_95 : decode cX0_insert 95 = .ok (.return_, 1) := by decide +kernel
theorem dX0_remove_0 : decode cX0_remove 0 = .ok (.iload_n 1, 1) := by decide +kernel
theorem dX0_remove_1 : decode cX0_remove 1 = .ok (.iconst 1, 1) := by decide +kernel
theorem dX0_remove_2 : decode cX0_remove 2 = .ok (.iadd, 1) := by decide +kernel
theorem dX0_remove_3 : decode cX0_remove 3 = .ok (.istore_n 2, 1) := by decide +kernel
theorem dX0_remove_4 : decode cX0_remove 4 = .ok (.iload_n 2, 1) := by decide +kernel
theorem dX0_remove_5 : decode cX0_remove 5 = .ok (.aload_n 0, 1) := by decide +kernel
theorem dX0_remove_6 : decode cX0_remove 6 = .ok (.getfield 27, 3) := by decide +kernel
theorem dX0_remove_9 : decode cX0_remove 9 = .ok (.if_icmp .ge 37, 3) := by decide +kernel
theorem dX0_remove_12 : decode cX0_remove 12 = .ok (.aload_n 0, 1) := by decide +kernel
theorem dX0_remove_13 : decode cX0_remove 13 = .ok (.getfield 15, 3) := by decide +kernel
theorem dX0_remove_16 : decode cX0_remove 16 = .ok (.iload_n 2, 1) := by decide +kernel
theorem dX0_remove_17 : decode cX0_remove 17 = .ok (.iconst 1, 1) := by decide +kernel
theorem dX0_remove_18 : decode cX0_remove 18 = .ok (.isub, 1) := by decide +kernel
theorem dX0_remove_19 : decode cX0_remove 19 = .ok (.aload_n 0, 1) := by decide +kernel
theorem dX0_remove_20 : decode cX0_remove 20 = .ok (.getfield 15, 3) := by decide +kernel
theorem dX0_remove_23 : decode cX0_remove 23 = .ok (.iload_n 2, 1) := by decide +kernel
theorem dX0_remove_24 : decode cX0_remove 24 = .ok (.iaload, 1) := by decide +kernel
theorem dX0_remove_25 : decode cX0_remove 25 = .ok (.iastore, 1) := by decide +kernel
theorem dX0_remove_26 : decode cX0_remove 26 = .ok (.aload_n 0, 1) := by decide +kernel
theorem dX0_remove_27 : decode cX0_remove 27 = .ok (.getfield 18, 3) := by decide +kernel
theorem dX0_remove_30 : decode cX0_remove 30 = .ok (.iload_n 2, 1) := by decide +kernel
theorem dX0_remove_31 : decode cX0_remove 31 = .ok (.iconst 1, 1) := by decide +kernel
theorem dX0_remove_32 : decode cX0_remove 32 = .ok (.isub, 1) := by decide +kernel
theorem dX0_remove_33 : decode cX0_remove 33 = .ok (.aload_n 0, 1) := by decide +kernel
theorem dX0_remove_34 : decode cX0_remove 34 = .ok (.getfield 18, 3) := by decide +kernel
theorem dX0_remove_37 : decode cX0_remove 37 = .ok (.iload_n 2, 1) := by decide +kernel
theorem dX0_remove_38 : decode cX0_remove 38 = .ok (.iaload, 1) := by decide +kernel
theorem dX0_remove_39 : decode cX0_remove 39 = .ok (.iastore, 1) := by decide +kernel
theorem dX0_remove_40 : decode cX0_remove 40 = .ok (.iinc 2 1, 3) := by decide +kernel
theorem dX0_remove_43 : decode cX0_remove 43 = .ok (.goto (-39), 3) := by decide +kernel
theorem dX0_remove_46 : decode cX0_remove 46 = .ok (.aload_n 0, 1) := by decide +kernel
theorem dX0_remove_47 : decode cX0_remove 47 = .ok (.dup, 1) := by decide +kernel
theorem dX0_remove_48 : decode cX0_remove 48 = .ok (.getfield 27, 3) := by decide +kernel
theorem dX0_remove_51 : decode cX0_remove 51 = .ok (.iconst 1, 1) := by decide +kernel
theorem dX0_remove_52 : decode cX0_remove 52 = .ok (.isub, 1) := by decide +kernel
theorem dX0_remove_53 : decode cX0_remove 53 = .ok (.putfield 27, 3) := by decide +kernel
theorem dX0_remove_56 : decode cX0_remove 56 = .ok (.return_, 1) := by decide +kernel
theorem dX0_valueBy_0 : decode cX0_valueBy 0 = .ok (.aload_n 0, 1) := by decide +kernel
theorem dX0_valueBy_1 : decode cX0_valueBy 1 = .ok (.getfield 18, 3) := by decide +kernel
theorem dX0_valueBy_4 : decode cX0_valueBy 4 = .ok (.iconst 0, 1) := by decide +kernel
theorem dX0_valueBy_5 : decode cX0_valueBy 5 = .ok (.iaload, 1) := by decide +kernel
theorem dX0_valueBy_6 : decode cX0_valueBy 6 = .ok (.istore_n 2, 1) := by decide +kernel
theorem dX0_valueBy_7 : decode cX0_valueBy 7 = .ok (.aload_n 0, 1) := by decide +kernel
theorem dX0_valueBy_8 : decode cX0_valueBy 8 = .ok (.getfield 18, 3) := by decide +kernel
theorem dX0_valueBy_11 : decode cX0_valueBy 11 = .ok (.iconst 0, 1) := by decide +kernel
theorem dX0_valueBy_12 : decode cX0_valueBy 12 = .ok (.iaload, 1) := by decide +kernel
theorem dX0_valueBy_13 : decode cX0_valueBy 13 = .ok (.istore_n 3, 1) := by decide +kernel
theorem dX0_valueBy_14 : decode cX0_valueBy 14 = .ok (.iconst 0, 1) := by decide +kernel
theorem dX0_valueBy_15 : decode cX0_valueBy 15 = .ok (.istore 4, 2) := by decide +kernel
theorem dX0_valueBy_17 : decode cX0_valueBy 17 = .ok (.iconst 0, 1) := by decide +kernel
theorem dX0_valueBy_18 : decode cX0_valueBy 18 = .ok (.istore 5, 2) := by decide +kernel
theorem dX0_valueBy_20 : decode cX0_valueBy 20 = .ok (.iload 5, 2) := by decide +kernel
theorem dX0_valueBy_22 : decode cX0_valueBy 22 = .ok (.aload_n 0, 1) := by decide +kernel
theorem dX0_valueBy_23 : decode cX0_valueBy 23 = .ok (.getfield 27, 3) := by decide +kernel
theorem dX0_valueBy_26 : decode cX0_valueBy 26 = .ok (.if_icmp .ge 45, 3) := by decide +kernel
theorem dX0_valueBy_29 : decode cX0_valueBy 29 = .ok (.iload_n 2, 1) := by decide +kernel
theorem dX0_valueBy_30 : decode cX0_valueBy 30 = .ok (.aload_n 0, 1) := by decide +kernel
theorem dX0_valueBy_31 : decode cX0_valueBy 31 = .ok (.getfield 18, 3) := by decide +kernel
theorem dX0_valueBy_34 : decode cX0_valueBy 34 = .ok (.iload 5, 2) := by decide +kernel
theorem dX0_valueBy_36 : decode cX0_valueBy 36 = .ok (.iaload, 1) := by decide +kernel
theorem dX0_valueBy_37 : decode cX0_valueBy 37 = .ok (.invokestatic 61, 3) := by decide +kernel
theorem dX0_valueBy_40 : decode cX0_valueBy 40 = .ok (.istore_n 2, 1) := by decide +kernel
theorem dX0_valueBy_41 : decode cX0_valueBy 41 = .ok (.iload_n 3, 1) := by decide +kernel
theorem dX0_valueBy_42 : decode cX0_valueBy 42 = .ok (.aload_n 0, 1) := by decide +kernel
theorem dX0_valueBy_43 : decode cX0_valueBy 43 = .ok (.getfield 18, 3) := by decide +kernel
theorem dX0_valueBy_46 : decode cX0_valueBy 46 = .ok (.iload 5, 2) := by decide +kernel
theorem dX0_valueBy_48 : decode cX0_valueBy 48 = .ok (.iaload, 1) := by decide +kernel
theorem dX0_valueBy_49 : decode cX0_valueBy 49 = .ok (.invokestatic 67, 3) := by decide +kernel
theorem dX0_valueBy_52 : decode cX0_valueBy 52 = .ok (.istore_n 3, 1) := by decide +kernel
theorem dX0_valueBy_53 : decode cX0_valueBy 53 = .ok (.iload 4, 2) := by decide +kernel
theorem dX0_valueBy_55 : decode cX0_valueBy 55 = .ok (.aload_n 0, 1) := by decide +kernel
theorem dX0_valueBy_56 : decode cX0_valueBy 56 = .ok (.getfield 18, 3) := by decide +kernel
theorem dX0_valueBy_59 : decode cX0_valueBy 59 = .ok (.iload 5, 2) := by decide +kernel
theorem dX0_valueBy_61 : decode cX0_valueBy 61 = .ok (.iaload, 1) := by decide +kernel
theorem dX0_valueBy_62 : decode cX0_valueBy 62 = .ok (.iadd, 1) := by decide +kernel
theorem dX0_valueBy_63 : decode cX0_valueBy 63 = .ok (.istore 4, 2) := by decide +kernel
theorem dX0_valueBy_65 : decode cX0_valueBy 65 = .ok (.iinc 5 1, 3) := by decide +kernel
theorem dX0_valueBy_68 : decode cX0_valueBy 68 = .ok (.goto (-48), 3) := by decide +kernel
theorem dX0_valueBy_71 : decode cX0_valueBy 71 = .ok (.iload_n 1, 1) := by decide +kernel
theorem dX0_valueBy_72 : decode cX0_valueBy 72 = .ok (.tableswitch 38 0 2 #[28, 30, 32], 28) := by decide +kernel
theorem dX0_valueBy_100 : decode cX0_valueBy 100 = .ok (.iload_n 2, 1) := by decide +kernel
theorem dX0_valueBy_101 : decode cX0_valueBy 101 = .ok (.ireturn, 1) := by decide +kernel
theorem dX0_valueBy_102 : decode cX0_valueBy 102 = .ok (.iload_n 3, 1) := by decide +kernel
theorem dX0_valueBy_103 : decode cX0_valueBy 103 = .ok (.ireturn, 1) := by decide +kernel
theorem dX0_valueBy_104 : decode cX0_valueBy 104 = .ok (.iload 4, 2) := by decide +kernel
theorem dX0_valueBy_106 : decode cX0_valueBy 106 = .ok (.bipush 100, 2) := by decide +kernel
theorem dX0_valueBy_108 : decode cX0_valueBy 108 = .ok (.irem, 1) := by decide +kernel
theorem dX0_valueBy_109 : decode cX0_valueBy 109 = .ok (.ireturn, 1) := by decide +kernel
theorem dX0_valueBy_110 : decode cX0_valueBy 110 = .ok (.aload_n 0, 1) := by decide +kernel
theorem dX0_valueBy_111 : decode cX0_valueBy 111 = .ok (.getfield 18, 3) := by decide +kernel
theorem dX0_valueBy_114 : decode cX0_valueBy 114 = .ok (.iconst 0, 1) := by decide +kernel
theorem dX0_valueBy_115 : decode cX0_valueBy 115 = .ok (.iaload, 1) := by decide +kernel
theorem dX0_valueBy_116 : decode cX0_valueBy 116 = .ok (.ireturn, 1) := by decide +kernel
theorem dX1_init_0 : decode cX1_init 0 = .ok (.aload_n 0, 1) := by decide +kernel
theorem dX1_init_1 : decode cX1_init 1 = .ok (.invokespecial 3, 3) := by decide +kernel
theorem dX1_init_4 : decode cX1_init 4 = .ok (.aload_n 0, 1) := by decide +kernel
theorem dX1_init_5 : decode cX1_init 5 = .ok (.iconst 3, 1) := by decide +kernel
theorem dX1_init_6 : decode cX1_init 6 = .ok (.anewarray 9, 3) := by decide +kernel
theorem dX1_init_9 : decode cX1_init 9 = .ok (.putfield 11, 3) := by decide +kernel
theorem dX1_init_12 : decode cX1_init 12 = .ok (.aload_n 0, 1) := by decide +kernel
theorem dX1_init_13 : decode cX1_init 13 = .ok (.iconst 5, 1) := by decide +kernel
theorem dX1_init_14 : decode cX1_init 14 = .ok (.iconst 5, 1) := by decide +kernel
theorem dX1_init_15 : decode cX1_init 15 = .ok (.multianewarray 17 2, 4) := by decide +kernel
theorem dX1_init_19 : decode cX1_init 19 = .ok (.putfield 19, 3) := by decide +kernel
theorem dX1_init_22 : decode cX1_init 22 = .ok (.aload_n 0, 1) := by decide +kernel
theorem dX1_init_23 : decode cX1_init 23 = .ok (.iconst 5, 1) := by decide +kernel
theorem dX1_init_24 : decode cX1_init 24 = .ok (.newarray .int, 2) := by decide +kernel
theorem dX1_init_26 : decode cX1_init 26 = .ok (.putfield 22, 3) := by decide +kernel
theorem dX1_init_29 : decode cX1_init 29 = .ok (.iconst 0, 1) := by decide +kernel
theorem dX1_init_30 : decode cX1_init 30 = .ok (.istore_n 1, 1) := by decide +kernel
theorem dX1_init_31 : decode cX1_init 31 = .ok (.iload_n 1, 1) := by decide +kernel
theorem dX1_init_32 : decode cX1_init 32 = .ok (.iconst 3, 1) := by decide +kernel
theorem dX1_init_33 : decode cX1_init 33 = .ok (.if_icmp .ge 22, 3) := by decide +kernel
theorem dX1_init_36 : decode cX1_init 36 = .ok (.aload_n 0, 1) := by decide +kernel
theorem dX1_init_37 : decode cX1_init 37 = .ok (.getfield 11, 3) := by decide +kernel
theorem dX1_init_40 : decode cX1_init 40 = .ok (.iload_n 1, 1) := by decide +kernel
theorem dX1_init_41 : decode cX1_init 41 = .ok (.new 9, 3) := by decide +kernel
theorem dX1_init_44 : decode cX1_init 44 = .ok (.dup, 1) := by decide +kernel
theorem dX1_init_45 : decode cX1_init 45 = .ok (.invokespecial 26, 3) := by decide +kernel
theorem dX1_init_48 : decode cX1_init 48 = .ok (.aastore, 1) := by decide +kernel
theorem dX1_init_49 : decode cX1_init 49 = .ok (.iinc 1 1, 3) := by decide +kernel
theorem dX1_init_52 : decode cX1_init 52 = .ok (.goto (-21), 3) := by decide +kernel
theorem dX1_init_55 : decode cX1_init 55 = .ok (.return_, 1) := by decide +kernel
theorem dX1_become_0 : decode cX1_become 0 = .ok (.iconst 0, 1) := by decide +kernel
theorem dX1_become_1 : decode cX1_become 1 = .ok (.istore_n 2, 1) := by decide +kernel
theorem dX1_become_2 : decode cX1_become 2 = .ok (.iload_n 2, 1) := by decide +kernel
theorem dX1_become_3 : decode cX1_become 3 = .ok (.iconst 3, 1) := by decide +kernel
theorem dX1_become_4 : decode cX1_become 4 = .ok (.if_icmp .ge 24, 3) := by decide +kernel
theorem dX1_become_7 : decode cX1_become 7 = .ok (.aload_n 0, 1) := by decide +kernel
theorem dX1_become_8 : decode cX1_become 8 = .ok (.getfield 11, 3) := by decide +kernel
theorem dX1_become_11 : decode cX1_become 11 = .ok (.iload_n 2, 1) := by decide +kernel
theorem dX1_become_12 : decode cX1_become 12 = .ok (.aaload, 1) := by decide +kernel
theorem dX1_become_13 : decode cX1_become 13 = .ok (.aload_n 1, 1) := by decide +kernel
theorem dX1_become_14 : decode cX1_become 14 = .ok (.getfield 11, 3) := by decide +kernel
theorem dX1_become_17 : decode cX1_become 17 = .ok (.iload_n 2, 1) := by decide +kernel
theorem dX1_become_18 : decode cX1_become 18 = .ok (.aaload, 1) := by decide +kernel
theorem dX1_become_19 : decode cX1_become 19 = .ok (.invokevirtual 27, 3) := by decide +kernel
theorem dX1_become_22 : decode cX1_become 22 = .ok (.iinc 2 1, 3) := by decide +kernel
theorem dX1_become_25 : decode cX1_become 25 = .ok (.goto (-23), 3) := by decide +kernel
theorem dX1_become_28 : decode cX1_become 28 = .ok (.iconst 0, 1) := by decide +kernel
theorem dX1_become_29 : decode cX1_become 29 = .ok (.istore_n 2, 1) := by decide +kernel
theorem dX1_become_30 : decode cX1_become 30 = .ok (.iload_n 2, 1) := by decide +kernel
theorem dX1_become_31 : decode cX1_become 31 = .ok (.iconst 5, 1) := by decide +kernel
theorem dX1_become_32 : decode cX1_become 32 = .ok (.if_icmp .ge 27, 3) := by decide +kernel
theorem dX1_become_35 : decode cX1_become 35 = .ok (.aload_n 1, 1) := by decide +kernel
theorem dX1_become_36 : decode cX1_become 36 = .ok (.getfield 19, 3) := by decide +kernel
theorem dX1_become_39 : decode cX1_become 39 = .ok (.iload_n 2, 1) := by decide +kernel
theorem dX1_become_40 : decode cX1_become 40 = .ok (.aaload, 1) := by decide +kernel
theorem dX1_become_41 : decode cX1_become 41 = .ok (.iconst 0, 1) := by decide +kernel
theorem dX1_become_42 : decode cX1_become 42 = .ok (.aload_n 0, 1) := by decide +kernel
theorem dX1_become_43 : decode cX1_become 43 = .ok (.getfield 19, 3) := by decide +kernel
theorem dX1_become_46 : decode cX1_become 46 = .ok (.iload_n 2, 1) := by decide +kernel
theorem dX1_become_47 : decode cX1_become 47 = .ok (.aaload, 1) := by decide +kernel
theorem dX1_become_48 : decode cX1_become 48 = .ok (.iconst 0, 1) := by decide +kernel
theorem dX1_become_49 : decode cX1_become 49 = .ok (.iconst 5, 1) := by decide +kernel
theorem dX1_become_50 : decode cX1_become 50 = .ok (.invokestatic 31, 3) := by decide +kernel
theorem dX1_become_53 : decode cX1_become 53 = .ok (.iinc 2 1, 3) := by decide +kernel
theorem dX1_become_56 : decode cX1_become 56 = .ok (.goto (-26), 3) := by decide +kernel
theorem dX1_become_59 : decode cX1_become 59 = .ok (.aload_n 1, 1) := by decide +kernel
theorem dX1_become_60 : decode cX1_become 60 = .ok (.getfield 22, 3) := by decide +kernel
theorem dX1_become_63 : decode cX1_become 63 = .ok (.iconst 0, 1) := by decide +kernel
theorem dX1_become_64 : decode cX1_become 64 = .ok (.aload_n 0, 1) := by decide +kernel
theorem dX1_become_65 : decode cX1_become 65 = .ok (.getfield 22, 3) := by decide +kernel
theorem dX1_become_68 : decode cX1_become 68 = .ok (.iconst 0, 1) := by decide +kernel
theorem dX1_become_69 : decode cX1_become 69 = .ok (.iconst 5, 1) := by decide +kernel
theorem dX1_become_70 : decode cX1_become 70 = .ok (.invokestatic 31, 3) := by decide +kernel
theorem dX1_become_73 : decode cX1_become 73 = .ok (.return_, 1) := by decide +kernel
theorem dX1_learn_0 : decode cX1_learn 0 = .ok (.aload_n 0, 1) := by decide +kernel
theorem dX1_learn_1 : decode cX1_learn 1 = .ok (.getfield 19, 3) := by decide +kernel
theorem dX1_learn_4 : decode cX1_learn 4 = .ok (.iload_n 1, 1) := by decide +kernel
theorem dX1_learn_5 : decode cX1_learn 5 = .ok (.aaload, 1) := by decide +kernel
theorem dX1_learn_6 : decode cX1_learn 6 = .ok (.aload_n 0, 1) := by decide +kernel
theorem dX1_learn_7 : decode cX1_learn 7 = .ok (.getfield 11, 3) := by decide +kernel
theorem dX1_learn_10 : decode cX1_learn 10 = .ok (.iload_n 2, 1) := by decide +kernel
theorem dX1_learn_11 : decode cX1_learn 11 = .ok (.aaload, 1) := by decide +kernel
theorem dX1_learn_12 : decode cX1_learn 12 = .ok (.getfield 37, 3) := by decide +kernel
theorem dX1_learn_15 : decode cX1_learn 15 = .ok (.invokestatic 40, 3) := by decide +kernel
theorem dX1_learn_18 : decode cX1_learn 18 = .ok (.return_, 1) := by decide +kernel
theorem dX1_mayWrite_0 : decode cX1_mayWrite 0 = .ok (.aload_n 0, 1) := by decide +kernel
theorem dX1_mayWrite_1 : decode cX1_mayWrite 1 = .ok (.getfield 22, 3) := by decide +kernel
theorem dX1_mayWrite_4 : decode cX1_mayWrite 4 = .ok (.iload_n 1, 1) := by decide +kernel
theorem dX1_mayWrite_5 : decode cX1_mayWrite 5 = .ok (.iaload, 1) := by decide +kernel
theorem dX1_mayWrite_6 : decode cX1_mayWrite 6 = .ok (.sipush 999, 3) := by decide +kernel
theorem dX1_mayWrite_9 : decode cX1_mayWrite 9 = .ok (.if_icmp .ge 18, 3) := by decide +kernel
theorem dX1_mayWrite_12 : decode cX1_mayWrite 12 = .ok (.aload_n 0, 1) := by decide +kernel
theorem dX1_mayWrite_13 : decode cX1_mayWrite 13 = .ok (.iload_n 1, 1) := by decide +kernel
theorem dX1_mayWrite_14 : decode cX1_mayWrite 14 = .ok (.iload_n 2, 1) := by decide +kernel
theorem dX1_mayWrite_15 : decode cX1_mayWrite 15 = .ok (.iconst 1, 1) := by decide +kernel
theorem dX1_mayWrite_16 : decode cX1_mayWrite 16 = .ok (.invokevirtual 44, 3) := by decide +kernel
theorem dX1_mayWrite_19 : decode cX1_mayWrite 19 = .ok (.iconst 4, 1) := by decide +kernel
theorem dX1_mayWrite_20 : decode cX1_mayWrite 20 = .ok (.if_icmp .gt 7, 3) := by decide +kernel
theorem dX1_mayWrite_23 : decode cX1_mayWrite 23 = .ok (.iconst 1, 1) := by decide +kernel
theorem dX1_mayWrite_24 : decode cX1_mayWrite 24 = .ok (.goto 4, 3) := by decide +kernel
theorem dX1_mayWrite_27 : decode cX1_mayWrite 27 = .ok (.iconst 0, 1) := by decide +kernel
theorem dX1_mayWrite_28 : decode cX1_mayWrite 28 = .ok (.ireturn, 1) := by decide +kernel
theorem dX1_mayPull_0 : decode cX1_mayPull 0 = .ok (.aload_n 0, 1) := by decide +kernel
theorem dX1_mayPull_1 : decode cX1_mayPull 1 = .ok (.iload_n 1, 1) := by decide +kernel
theorem dX1_mayPull_2 : decode cX1_mayPull 2 = .ok (.iload_n 2, 1) := by decide +kernel
theorem dX1_mayPull_3 : decode cX1_mayPull 3 = .ok (.iconst 2, 1) := by decide +kernel
theorem dX1_mayPull_4 : decode cX1_mayPull 4 = .ok (.invokevirtual 48, 3) := by decide +kernel
theorem dX1_mayPull_7 : decode cX1_mayPull 7 = .ok (.iconst 4, 1) := by decide +kernel
theorem dX1_mayPull_8 : decode cX1_mayPull 8 = .ok (.if_icmp .gt 7, 3) := by decide +kernel
theorem dX1_mayPull_11 : decode cX1_mayPull 11 = .ok (.iconst 1, 1) := by decide +kernel
theorem dX1_mayPull_12 : decode cX1_mayPull 12 = .ok (.goto 4, 3) := by decide +kernel
theorem dX1_mayPull_15 : decode cX1_mayPull 15 = .ok (.iconst 0, 1) := by decide +kernel
theorem dX1_mayPull_16 : decode cX1_mayPull 16 = .ok (.ireturn, 1) := by decide +kernel
theorem dX1_writeOutlook_0 : decode cX1_writeOutlook 0 = .ok (.aload_n 0, 1) := by decide +kernel
theorem dX1_writeOutlook_1 : decode cX1_writeOutlook 1 = .ok (.getfield 11, 3) := by decide +kernel
theorem dX1_writeOutlook_4 : decode cX1_writeOutlook 4 = .ok (.iload_n 2, 1) := by decide +kernel
theorem dX1_writeOutlook_5 : decode cX1_writeOutlook 5 = .ok (.aaload, 1) := by decide +kernel
theorem dX1_writeOutlook_6 : decode cX1_writeOutlook 6 = .ok (.aload_n 0, 1) := by decide +kernel
theorem dX1_writeOutlook_7 : decode cX1_writeOutlook 7 = .ok (.getfield 19, 3) := by decide +kernel
theorem dX1_writeOutlook_10 : decode cX1_writeOutlook 10 = .ok (.iload_n 1, 1) := by decide +kernel
theorem dX1_writeOutlook_11 : decode cX1_writeOutlook 11 = .ok (.aaload, 1) := by decide +kernel
theorem dX1_writeOutlook_12 : decode cX1_writeOutlook 12 = .ok (.invokevirtual 51, 3) := by decide +kernel
theorem dX1_writeOutlook_15 : decode cX1_writeOutlook 15 = .ok (.istore 4, 2) := by decide +kernel
theorem dX1_writeOutlook_17 : decode cX1_writeOutlook 17 = .ok (.iload_n 3, 1) := by decide +kernel
theorem dX1_writeOutlook_18 : decode cX1_writeOutlook 18 = .ok (.ifCond .ne 8, 3) := by decide +kernel
theorem dX1_writeOutlook_21 : decode cX1_writeOutlook 21 = .ok (.iload 4, 2) := by decide +kernel
theorem dX1_writeOutlook_23 : decode cX1_writeOutlook 23 = .ok (.goto 17, 3) := by decide +kernel
theorem dX1_writeOutlook_26 : decode cX1_writeOutlook 26 = .ok (.aload_n 0, 1) := by decide +kernel
theorem dX1_writeOutlook_27 : decode cX1_writeOutlook 27 = .ok (.getfield 11, 3) := by decide +kernel
theorem dX1_writeOutlook_30 : decode cX1_writeOutlook 30 = .ok (.iload_n 2, 1) := by decide +kernel
theorem dX1_writeOutlook_31 : decode cX1_writeOutlook 31 = .ok (.aaload, 1) := by decide +kernel
theorem dX1_writeOutlook_32 : decode cX1_writeOutlook 32 = .ok (.getfield 55, 3) := by decide +kernel
theorem dX1_writeOutlook_35 : decode cX1_writeOutlook 35 = .ok (.iload 4, 2) := by decide +kernel
theorem dX1_writeOutlook_37 : decode cX1_writeOutlook 37 = .ok (.isub, 1) := by decide +kernel
theorem dX1_writeOutlook_38 : decode cX1_writeOutlook 38 = .ok (.iconst 1, 1) := by decide +kernel
theorem dX1_writeOutlook_39 : decode cX1_writeOutlook 39 = .ok (.iadd, 1) := by decide +kernel
theorem dX1_writeOutlook_40 : decode cX1_writeOutlook 40 = .ok (.ireturn, 1) := by decide +kernel
theorem dX1_pullOutlook_0 : decode cX1_pullOutlook 0 = .ok (.aload_n 0, 1) := by decide +kernel
theorem dX1_pullOutlook_1 : decode cX1_pullOutlook 1 = .ok (.getfield 11, 3) := by decide +kernel
theorem dX1_pullOutlook_4 : decode cX1_pullOutlook 4 = .ok (.iload_n 1, 1) := by decide +kernel
theorem dX1_pullOutlook_5 : decode cX1_pullOutlook 5 = .ok (.aaload, 1) := by decide +kernel
theorem dX1_pullOutlook_6 : decode cX1_pullOutlook 6 = .ok (.aload_n 0, 1) := by decide +kernel
theorem dX1_pullOutlook_7 : decode cX1_pullOutlook 7 = .ok (.getfield 11, 3) := by decide +kernel
theorem dX1_pullOutlook_10 : decode cX1_pullOutlook 10 = .ok (.iload_n 2, 1) := by decide +kernel
theorem dX1_pullOutlook_11 : decode cX1_pullOutlook 11 = .ok (.aaload, 1) := by decide +kernel
theorem dX1_pullOutlook_12 : decode cX1_pullOutlook 12 = .ok (.invokevirtual 59, 3) := by decide +kernel
theorem dX1_pullOutlook_15 : decode cX1_pullOutlook 15 = .ok (.istore 4, 2) := by decide +kernel
theorem dX1_pullOutlook_17 : decode cX1_pullOutlook 17 = .ok (.aload_n 0, 1) := by decide +kernel
theorem dX1_pullOutlook_18 : decode cX1_pullOutlook 18 = .ok (.getfield 11, 3) := by decide +kernel
theorem dX1_pullOutlook_21 : decode cX1_pullOutlook 21 = .ok (.iload_n 1, 1) := by decide +kernel
theorem dX1_pullOutlook_22 : decode cX1_pullOutlook 22 = .ok (.aaload, 1) := by decide +kernel
theorem dX1_pullOutlook_23 : decode cX1_pullOutlook 23 = .ok (.aload_n 0, 1) := by decide +kernel
theorem dX1_pullOutlook_24 : decode cX1_pullOutlook 24 = .ok (.getfield 11, 3) := by decide +kernel
theorem dX1_pullOutlook_27 : decode cX1_pullOutlook 27 = .ok (.iload_n 2, 1) := by decide +kernel
theorem dX1_pullOutlook_28 : decode cX1_pullOutlook 28 = .ok (.aaload, 1) := by decide +kernel
theorem dX1_pullOutlook_29 : decode cX1_pullOutlook 29 = .ok (.invokevirtual 63, 3) := by decide +kernel
theorem dX1_pullOutlook_32 : decode cX1_pullOutlook 32 = .ok (.istore 5, 2) := by decide +kernel
theorem dX1_pullOutlook_34 : decode cX1_pullOutlook 34 = .ok (.iload_n 3, 1) := by decide +kernel
theorem dX1_pullOutlook_35 : decode cX1_pullOutlook 35 = .ok (.lookupswitch 31 #[(0, 25), (1, 28)], 25) := by decide +kernel
theorem dX1_pullOutlook_60 : decode cX1_pullOutlook 60 = .ok (.iload 4, 2) := by decide +kernel
theorem dX1_pullOutlook_62 : decode cX1_pullOutlook 62 = .ok (.ireturn, 1) := by decide +kernel
theorem dX1_pullOutlook_63 : decode cX1_pullOutlook 63 = .ok (.iload 5, 2) := by decide +kernel
theorem dX1_pullOutlook_65 : decode cX1_pullOutlook 65 = .ok (.ireturn, 1) := by decide +kernel
theorem dX1_pullOutlook_66 : decode cX1_pullOutlook 66 = .ok (.aload_n 0, 1) := by decide +kernel
theorem dX1_pullOutlook_67 : decode cX1_pullOutlook 67 = .ok (.getfield 11, 3) := by decide +kernel
theorem dX1_pullOutlook_70 : decode cX1_pullOutlook 70 = .ok (.iload_n 1, 1) := by decide +kernel
theorem dX1_pullOutlook_71 : decode cX1_pullOutlook 71 = .ok (.aaload, 1) := by decide +kernel
theorem dX1_pullOutlook_72 : decode cX1_pullOutlook 72 = .ok (.getfield 55, 3) := by decide +kernel
theorem dX1_pullOutlook_75 : decode cX1_pullOutlook 75 = .ok (.iload 4, 2) := by decide +kernel
theorem dX1_pullOutlook_77 : decode cX1_pullOutlook 77 = .ok (.isub, 1) := by decide +kernel
theorem dX1_pullOutlook_78 : decode cX1_pullOutlook 78 = .ok (.iload 5, 2) := by decide +kernel
theorem dX1_pullOutlook_80 : decode cX1_pullOutlook 80 = .ok (.iadd, 1) := by decide +kernel
theorem dX1_pullOutlook_81 : decode cX1_pullOutlook 81 = .ok (.ireturn, 1) := by decide +kernel
theorem dX1_put_0 : decode cX1_put 0 = .ok (.aload_n 0, 1) := by decide +kernel
theorem dX1_put_1 : decode cX1_put 1 = .ok (.getfield 11, 3) := by decide +kernel
theorem dX1_put_4 : decode cX1_put 4 = .ok (.iload_n 2, 1) := by decide +kernel
theorem dX1_put_5 : decode cX1_put 5 = .ok (.aaload, 1) := by decide +kernel
theorem dX1_put_6 : decode cX1_put 6 = .ok (.aload_n 0, 1) := by decide +kernel
theorem dX1_put_7 : decode cX1_put 7 = .ok (.getfield 19, 3) := by decide +kernel
theorem dX1_put_10 : decode cX1_put 10 = .ok (.iload_n 1, 1) := by decide +kernel
theorem dX1_put_11 : decode cX1_put 11 = .ok (.aaload, 1) := by decide +kernel
theorem dX1_put_12 : decode cX1_put 12 = .ok (.invokevirtual 66, 3) := by decide +kernel
theorem dX1_put_15 : decode cX1_put 15 = .ok (.aload_n 0, 1) := by decide +kernel
theorem dX1_put_16 : decode cX1_put 16 = .ok (.getfield 22, 3) := by decide +kernel
theorem dX1_put_19 : decode cX1_put 19 = .ok (.iload_n 1, 1) := by decide +kernel
theorem dX1_put_20 : decode cX1_put 20 = .ok (.dup2, 1) := by decide +kernel
theorem dX1_put_21 : decode cX1_put 21 = .ok (.iaload, 1) := by decide +kernel
theorem dX1_put_22 : decode cX1_put 22 = .ok (.iconst 1, 1) := by decide +kernel
theorem dX1_put_23 : decode cX1_put 23 = .ok (.iadd, 1) := by decide +kernel
theorem dX1_put_24 : decode cX1_put 24 = .ok (.iastore, 1) := by decide +kernel
theorem dX1_put_25 : decode cX1_put 25 = .ok (.aload_n 0, 1) := by decide +kernel
theorem dX1_put_26 : decode cX1_put 26 = .ok (.getfield 11, 3) := by decide +kernel
theorem dX1_put_29 : decode cX1_put 29 = .ok (.iload_n 2, 1) := by decide +kernel
theorem dX1_put_30 : decode cX1_put 30 = .ok (.aaload, 1) := by decide +kernel
theorem dX1_put_31 : decode cX1_put 31 = .ok (.iload_n 1, 1) := by decide +kernel
theorem dX1_put_32 : decode cX1_put 32 = .ok (.sipush 1000, 3) := by decide +kernel
theorem dX1_put_35 : decode cX1_put 35 = .ok (.imul, 1) := by decide +kernel
theorem dX1_put_36 : decode cX1_put 36 = .ok (.aload_n 0, 1) := by decide +kernel
theorem dX1_put_37 : decode cX1_put 37 = .ok (.getfield 22, 3) := by decide +kernel
theorem dX1_put_40 : decode cX1_put 40 = .ok (.iload_n 1, 1) := by decide +kernel
theorem dX1_put_41 : decode cX1_put 41 = .ok (.iaload, 1) := by decide +kernel
theorem dX1_put_42 : decode cX1_put 42 = .ok (.iadd, 1) := by decide +kernel
theorem dX1_put_43 : decode cX1_put 43 = .ok (.iload_n 3, 1) := by decide +kernel
theorem dX1_put_44 : decode cX1_put 44 = .ok (.invokevirtual 70, 3) := by decide +kernel
theorem dX1_put_47 : decode cX1_put 47 = .ok (.aload_n 0, 1) := by decide +kernel
theorem dX1_put_48 : decode cX1_put 48 = .ok (.getfield 19, 3) := by decide +kernel
theorem dX1_put_51 : decode cX1_put 51 = .ok (.iload_n 1, 1) := by decide +kernel
theorem dX1_put_52 : decode cX1_put 52 = .ok (.aaload, 1) := by decide +kernel
theorem dX1_put_53 : decode cX1_put 53 = .ok (.iload_n 1, 1) := by decide +kernel
theorem dX1_put_54 : decode cX1_put 54 = .ok (.aload_n 0, 1) := by decide +kernel
theorem dX1_put_55 : decode cX1_put 55 = .ok (.getfield 22, 3) := by decide +kernel
theorem dX1_put_58 : decode cX1_put 58 = .ok (.iload_n 1, 1) := by decide +kernel
theorem dX1_put_59 : decode cX1_put 59 = .ok (.iaload, 1) := by decide +kernel
theorem dX1_put_60 : decode cX1_put 60 = .ok (.iastore, 1) := by decide +kernel
theorem dX1_put_61 : decode cX1_put 61 = .ok (.aload_n 0, 1) := by decide +kernel
theorem dX1_put_62 : decode cX1_put 62 = .ok (.getfield 11, 3) := by decide +kernel
theorem dX1_put_65 : decode cX1_put 65 = .ok (.iload_n 2, 1) := by decide +kernel
theorem dX1_put_66 : decode cX1_put 66 = .ok (.aaload, 1) := by decide +kernel
theorem dX1_put_67 : decode cX1_put 67 = .ok (.getfield 37, 3) := by decide +kernel
theorem dX1_put_70 : decode cX1_put 70 = .ok (.aload_n 0, 1) := by decide +kernel
theorem dX1_put_71 : decode cX1_put 71 = .ok (.getfield 19, 3) := by decide +kernel
theorem dX1_put_74 : decode cX1_put 74 = .ok (.iload_n 1, 1) := by decide +kernel
theorem dX1_put_75 : decode cX1_put 75 = .ok (.aaload, 1) := by decide +kernel
theorem dX1_put_76 : decode cX1_put 76 = .ok (.invokestatic 40, 3) := by decide +kernel
theorem dX1_put_79 : decode cX1_put 79 = .ok (.return_, 1) := by decide +kernel
theorem dX1_unlearn_0 : decode cX1_unlearn 0 = .ok (.iconst 0, 1) := by decide +kernel
theorem dX1_unlearn_1 : decode cX1_unlearn 1 = .ok (.istore_n 2, 1) := by decide +kernel
theorem dX1_unlearn_2 : decode cX1_unlearn 2 = .ok (.iconst 0, 1) := by decide +kernel
theorem dX1_unlearn_3 : decode cX1_unlearn 3 = .ok (.istore_n 3, 1) := by decide +kernel
theorem dX1_unlearn_4 : decode cX1_unlearn 4 = .ok (.iload_n 3, 1) := by decide +kernel
theorem dX1_unlearn_5 : decode cX1_unlearn 5 = .ok (.iconst 5, 1) := by decide +kernel
theorem dX1_unlearn_6 : decode cX1_unlearn 6 = .ok (.if_icmp .ge 34, 3) := by decide +kernel
theorem dX1_unlearn_9 : decode cX1_unlearn 9 = .ok (.iload_n 3, 1) := by decide +kernel
theorem dX1_unlearn_10 : decode cX1_unlearn 10 = .ok (.iload_n 1, 1) := by decide +kernel
theorem dX1_unlearn_11 : decode cX1_unlearn 11 = .ok (.if_icmp .eq 23, 3) := by decide +kernel
theorem dX1_unlearn_14 : decode cX1_unlearn 14 = .ok (.iload_n 2, 1) := by decide +kernel
theorem dX1_unlearn_15 : decode cX1_unlearn 15 = .ok (.aload_n 0, 1) := by decide +kernel
theorem dX1_unlearn_16 : decode cX1_unlearn 16 = .ok (.getfield 19, 3) := by decide +kernel
theorem dX1_unlearn_19 : decode cX1_unlearn 19 = .ok (.iload_n 1, 1) := by decide +kernel
theorem dX1_unlearn_20 : decode cX1_unlearn 20 = .ok (.aaload, 1) := by decide +kernel
theorem dX1_unlearn_21 : decode cX1_unlearn 21 = .ok (.iload_n 3, 1) := by decide +kernel
theorem dX1_unlearn_22 : decode cX1_unlearn 22 = .ok (.iaload, 1) := by decide +kernel
theorem dX1_unlearn_23 : decode cX1_unlearn 23 = .ok (.iadd, 1) := by decide +kernel
theorem dX1_unlearn_24 : decode cX1_unlearn 24 = .ok (.istore_n 2, 1) := by decide +kernel
theorem dX1_unlearn_25 : decode cX1_unlearn 25 = .ok (.aload_n 0, 1) := by decide +kernel
theorem dX1_unlearn_26 : decode cX1_unlearn 26 = .ok (.getfield 19, 3) := by decide +kernel
theorem dX1_unlearn_29 : decode cX1_unlearn 29 = .ok (.iload_n 1, 1) := by decide +kernel
theorem dX1_unlearn_30 : decode cX1_unlearn 30 = .ok (.aaload, 1) := by decide +kernel
theorem dX1_unlearn_31 : decode cX1_unlearn 31 = .ok (.iload_n 3, 1) := by decide +kernel
theorem dX1_unlearn_32 : decode cX1_unlearn 32 = .ok (.iconst 0, 1) := by decide +kernel
theorem dX1_unlearn_33 : decode cX1_unlearn 33 = .ok (.iastore, 1) := by decide +kernel
theorem dX1_unlearn_34 : decode cX1_unlearn 34 = .ok (.iinc 3 1, 3) := by decide +kernel
theorem dX1_unlearn_37 : decode cX1_unlearn 37 = .ok (.goto (-33), 3) := by decide +kernel
theorem dX1_unlearn_40 : decode cX1_unlearn 40 = .ok (.iload_n 2, 1) := by decide +kernel
theorem dX1_unlearn_41 : decode cX1_unlearn 41 = .ok (.ireturn, 1) := by decide +kernel
theorem dX1_hindrance_0 : decode cX1_hindrance 0 = .ok (.iconst 0, 1) := by decide +kernel
theorem dX1_hindrance_1 : decode cX1_hindrance 1 = .ok (.istore_n 2, 1) := by decide +kernel
theorem dX1_hindrance_2 : decode cX1_hindrance 2 = .ok (.iconst 0, 1) := by decide +kernel
theorem dX1_hindrance_3 : decode cX1_hindrance 3 = .ok (.istore_n 3, 1) := by decide +kernel
theorem dX1_hindrance_4 : decode cX1_hindrance 4 = .ok (.iload_n 3, 1) := by decide +kernel
theorem dX1_hindrance_5 : decode cX1_hindrance 5 = .ok (.iconst 3, 1) := by decide +kernel
theorem dX1_hindrance_6 : decode cX1_hindrance 6 = .ok (.if_icmp .ge 51, 3) := by decide +kernel
theorem dX1_hindrance_9 : decode cX1_hindrance 9 = .ok (.aload_n 0, 1) := by decide +kernel
theorem dX1_hindrance_10 : decode cX1_hindrance 10 = .ok (.getfield 11, 3) := by decide +kernel
theorem dX1_hindrance_13 : decode cX1_hindrance 13 = .ok (.iload_n 3, 1) := by decide +kernel
theorem dX1_hindrance_14 : decode cX1_hindrance 14 = .ok (.aaload, 1) := by decide +kernel
theorem dX1_hindrance_15 : decode cX1_hindrance 15 = .ok (.iload_n 1, 1) := by decide +kernel
theorem dX1_hindrance_16 : decode cX1_hindrance 16 = .ok (.invokevirtual 74, 3) := by decide +kernel
theorem dX1_hindrance_19 : decode cX1_hindrance 19 = .ok (.ifCond .eq 5, 3) := by decide +kernel
theorem dX1_hindrance_22 : decode cX1_hindrance 22 = .ok (.iconst 1, 1) := by decide +kernel
theorem dX1_hindrance_23 : decode cX1_hindrance 23 = .ok (.ireturn, 1) := by decide +kernel
theorem dX1_hindrance_24 : decode cX1_hindrance 24 = .ok (.aload_n 0, 1) := by decide +kernel
theorem dX1_hindrance_25 : decode cX1_hindrance 25 = .ok (.getfield 11, 3) := by decide +kernel
theorem dX1_hindrance_28 : decode cX1_hindrance 28 = .ok (.iload_n 3, 1) := by decide +kernel
theorem dX1_hindrance_29 : decode cX1_hindrance 29 = .ok (.aaload, 1) := by decide +kernel
theorem dX1_hindrance_30 : decode cX1_hindrance 30 = .ok (.getfield 37, 3) := by decide +kernel
theorem dX1_hindrance_33 : decode cX1_hindrance 33 = .ok (.iload_n 1, 1) := by decide +kernel
theorem dX1_hindrance_34 : decode cX1_hindrance 34 = .ok (.iaload, 1) := by decide +kernel
theorem dX1_hindrance_35 : decode cX1_hindrance 35 = .ok (.aload_n 0, 1) := by decide +kernel
theorem dX1_hindrance_36 : decode cX1_hindrance 36 = .ok (.getfield 11, 3) := by decide +kernel
theorem dX1_hindrance_39 : decode cX1_hindrance 39 = .ok (.iconst 0, 1) := by decide +kernel
theorem dX1_hindrance_40 : decode cX1_hindrance 40 = .ok (.aaload, 1) := by decide +kernel
theorem dX1_hindrance_41 : decode cX1_hindrance 41 = .ok (.getfield 37, 3) := by decide +kernel
theorem dX1_hindrance_44 : decode cX1_hindrance 44 = .ok (.iload_n 1, 1) := by decide +kernel
theorem dX1_hindrance_45 : decode cX1_hindrance 45 = .ok (.iaload, 1) := by decide +kernel
theorem dX1_hindrance_46 : decode cX1_hindrance 46 = .ok (.if_icmp .eq 5, 3) := by decide +kernel
theorem dX1_hindrance_49 : decode cX1_hindrance 49 = .ok (.iconst 1, 1) := by decide +kernel
theorem dX1_hindrance_50 : decode cX1_hindrance 50 = .ok (.istore_n 2, 1) := by decide +kernel
theorem dX1_hindrance_51 : decode cX1_hindrance 51 = .ok (.iinc 3 1, 3) := by decide +kernel
theorem dX1_hindrance_54 : decode cX1_hindrance 54 = .ok (.goto (-50), 3) := by decide +kernel
theorem dX1_hindrance_57 : decode cX1_hindrance 57 = .ok (.iload_n 2, 1) := by decide +kernel
theorem dX1_hindrance_58 : decode cX1_hindrance 58 = .ok (.ifCond .eq 7, 3) := by decide +kernel
theorem dX1_hindrance_61 : decode cX1_hindrance 61 = .ok (.iconst 2, 1) := by decide +kernel
theorem dX1_hindrance_62 : decode cX1_hindrance 62 = .ok (.goto 4, 3) := by decide +kernel
theorem dX1_hindrance_65 : decode cX1_hindrance 65 = .ok (.iconst 0, 1) := by decide +kernel
theorem dX1_hindrance_66 : decode cX1_hindrance 66 = .ok (.ireturn, 1) := by decide +kernel
theorem dX1_erase_0 : decode cX1_erase 0 = .ok (.iconst 0, 1) := by decide +kernel
theorem dX1_erase_1 : decode cX1_erase 1 = .ok (.istore_n 2, 1) := by decide +kernel
theorem dX1_erase_2 : decode cX1_erase 2 = .ok (.iload_n 2, 1) := by decide +kernel
theorem dX1_erase_3 : decode cX1_erase 3 = .ok (.iconst 3, 1) := by decide +kernel
theorem dX1_erase_4 : decode cX1_erase 4 = .ok (.if_icmp .ge 21, 3) := by decide +kernel
theorem dX1_erase_7 : decode cX1_erase 7 = .ok (.aload_n 0, 1) := by decide +kernel
theorem dX1_erase_8 : decode cX1_erase 8 = .ok (.getfield 11, 3) := by decide +kernel
theorem dX1_erase_11 : decode cX1_erase 11 = .ok (.iload_n 2, 1) := by decide +kernel
theorem dX1_erase_12 : decode cX1_erase 12 = .ok (.aaload, 1) := by decide +kernel
theorem dX1_erase_13 : decode cX1_erase 13 = .ok (.getfield 37, 3) := by decide +kernel
theorem dX1_erase_16 : decode cX1_erase 16 = .ok (.iload_n 1, 1) := by decide +kernel
theorem dX1_erase_17 : decode cX1_erase 17 = .ok (.iconst 0, 1) := by decide +kernel
theorem dX1_erase_18 : decode cX1_erase 18 = .ok (.iastore, 1) := by decide +kernel
theorem dX1_erase_19 : decode cX1_erase 19 = .ok (.iinc 2 1, 3) := by decide +kernel
theorem dX1_erase_22 : decode cX1_erase 22 = .ok (.goto (-20), 3) := by decide +kernel
theorem dX1_erase_25 : decode cX1_erase 25 = .ok (.iconst 0, 1) := by decide +kernel
theorem dX1_erase_26 : decode cX1_erase 26 = .ok (.istore_n 2, 1) := by decide +kernel
theorem dX1_erase_27 : decode cX1_erase 27 = .ok (.iload_n 2, 1) := by decide +kernel
theorem dX1_erase_28 : decode cX1_erase 28 = .ok (.iconst 5, 1) := by decide +kernel
theorem dX1_erase_29 : decode cX1_erase 29 = .ok (.if_icmp .ge 18, 3) := by decide +kernel
theorem dX1_erase_32 : decode cX1_erase 32 = .ok (.aload_n 0, 1) := by decide +kernel
theorem dX1_erase_33 : decode cX1_erase 33 = .ok (.getfield 19, 3) := by decide +kernel
theorem dX1_erase_36 : decode cX1_erase 36 = .ok (.iload_n 2, 1) := by decide +kernel
theorem dX1_erase_37 : decode cX1_erase 37 = .ok (.aaload, 1) := by decide +kernel
theorem dX1_erase_38 : decode cX1_erase 38 = .ok (.iload_n 1, 1) := by decide +kernel
theorem dX1_erase_39 : decode cX1_erase 39 = .ok (.iconst 0, 1) := by decide +kernel
theorem dX1_erase_40 : decode cX1_erase 40 = .ok (.iastore, 1) := by decide +kernel
theorem dX1_erase_41 : decode cX1_erase 41 = .ok (.iinc 2 1, 3) := by decide +kernel
theorem dX1_erase_44 : decode cX1_erase 44 = .ok (.goto (-17), 3) := by decide +kernel
theorem dX1_erase_47 : decode cX1_erase 47 = .ok (.aload_n 0, 1) := by decide +kernel
theorem dX1_erase_48 : decode cX1_erase 48 = .ok (.getfield 22, 3) := by decide +kernel
theorem dX1_erase_51 : decode cX1_erase 51 = .ok (.iload_n 1, 1) := by decide +kernel
theorem dX1_erase_52 : decode cX1_erase 52 = .ok (.iconst 0, 1) := by decide +kernel
theorem dX1_erase_53 : decode cX1_erase 53 = .ok (.iastore, 1) := by decide +kernel
theorem dX1_erase_54 : decode cX1_erase 54 = .ok (.return_, 1) := by decide +kernel
theorem dX1_siblingFact_0 : decode cX1_siblingFact 0 = .ok (.aload_n 0, 1) := by decide +kernel
theorem dX1_siblingFact_1 : decode cX1_siblingFact 1 = .ok (.getfield 11, 3) := by decide +kernel
theorem dX1_siblingFact_4 : decode cX1_siblingFact 4 = .ok (.iload_n 1, 1) := by decide +kernel
theorem dX1_siblingFact_5 : decode cX1_siblingFact 5 = .ok (.aaload, 1) := by decide +kernel
theorem dX1_siblingFact_6 : decode cX1_siblingFact 6 = .ok (.astore 4, 2) := by decide +kernel
theorem dX1_siblingFact_8 : decode cX1_siblingFact 8 = .ok (.iload_n 2, 1) := by decide +kernel
theorem dX1_siblingFact_9 : decode cX1_siblingFact 9 = .ok (.aload 4, 2) := by decide +kernel
theorem dX1_siblingFact_11 : decode cX1_siblingFact 11 = .ok (.getfield 55, 3) := by decide +kernel
theorem dX1_siblingFact_14 : decode cX1_siblingFact 14 = .ok (.if_icmp .lt 5, 3) := by decide +kernel
theorem dX1_siblingFact_17 : decode cX1_siblingFact 17 = .ok (.iconst (-1), 1) := by decide +kernel
theorem dX1_siblingFact_18 : decode cX1_siblingFact 18 = .ok (.ireturn, 1) := by decide +kernel
theorem dX1_siblingFact_19 : decode cX1_siblingFact 19 = .ok (.aload 4, 2) := by decide +kernel
theorem dX1_siblingFact_21 : decode cX1_siblingFact 21 = .ok (.getfield 78, 3) := by decide +kernel
theorem dX1_siblingFact_24 : decode cX1_siblingFact 24 = .ok (.iload_n 2, 1) := by decide +kernel
theorem dX1_siblingFact_25 : decode cX1_siblingFact 25 = .ok (.iaload, 1) := by decide +kernel
theorem dX1_siblingFact_26 : decode cX1_siblingFact 26 = .ok (.istore 5, 2) := by decide +kernel
theorem dX1_siblingFact_28 : decode cX1_siblingFact 28 = .ok (.iload_n 3, 1) := by decide +kernel
theorem dX1_siblingFact_29 : decode cX1_siblingFact 29 = .ok (.tableswitch 58 0 3 #[31, 37, 43, 51], 31) := by decide +kernel
theorem dX1_siblingFact_60 : decode cX1_siblingFact 60 = .ok (.iload 5, 2) := by decide +kernel
theorem dX1_siblingFact_62 : decode cX1_siblingFact 62 = .ok (.invokestatic 81, 3) := by decide +kernel
theorem dX1_siblingFact_65 : decode cX1_siblingFact 65 = .ok (.ireturn, 1) := by decide +kernel
theorem dX1_siblingFact_66 : decode cX1_siblingFact 66 = .ok (.iload 5, 2) := by decide +kernel
theorem dX1_siblingFact_68 : decode cX1_siblingFact 68 = .ok (.invokestatic 85, 3) := by decide +kernel
theorem dX1_siblingFact_71 : decode cX1_siblingFact 71 = .ok (.ireturn, 1) := by decide +kernel
theorem dX1_siblingFact_72 : decode cX1_siblingFact 72 = .ok (.aload 4, 2) := by decide +kernel
theorem dX1_siblingFact_74 : decode cX1_siblingFact 74 = .ok (.getfield 88, 3) := by decide +kernel
theorem dX1_siblingFact_77 : decode cX1_siblingFact 77 = .ok (.iload_n 2, 1) := by decide +kernel
theorem dX1_siblingFact_78 : decode cX1_siblingFact 78 = .ok (.iaload, 1) := by decide +kernel
theorem dX1_siblingFact_79 : decode cX1_siblingFact 79 = .ok (.ireturn, 1) := by decide +kernel
theorem dX1_siblingFact_80 : decode cX1_siblingFact 80 = .ok (.aload_n 0, 1) := by decide +kernel
theorem dX1_siblingFact_81 : decode cX1_siblingFact 81 = .ok (.iload 5, 2) := by decide +kernel
theorem dX1_siblingFact_83 : decode cX1_siblingFact 83 = .ok (.invokevirtual 91, 3) := by decide +kernel
theorem dX1_siblingFact_86 : decode cX1_siblingFact 86 = .ok (.ireturn, 1) := by decide +kernel
theorem dX1_siblingFact_87 : decode cX1_siblingFact 87 = .ok (.aload_n 0, 1) := by decide +kernel
theorem dX1_siblingFact_88 : decode cX1_siblingFact 88 = .ok (.iload 5, 2) := by decide +kernel
theorem dX1_siblingFact_90 : decode cX1_siblingFact 90 = .ok (.invokevirtual 94, 3) := by decide +kernel
theorem dX1_siblingFact_93 : decode cX1_siblingFact 93 = .ok (.ireturn, 1) := by decide +kernel
theorem dX1_knowers_0 : decode cX1_knowers 0 = .ok (.iconst 0, 1) := by decide +kernel
theorem dX1_knowers_1 : decode cX1_knowers 1 = .ok (.istore_n 2, 1) := by decide +kernel
theorem dX1_knowers_2 : decode cX1_knowers 2 = .ok (.iconst 0, 1) := by decide +kernel
theorem dX1_knowers_3 : decode cX1_knowers 3 = .ok (.istore_n 3, 1) := by decide +kernel
theorem dX1_knowers_4 : decode cX1_knowers 4 = .ok (.iload_n 3, 1) := by decide +kernel
theorem dX1_knowers_5 : decode cX1_knowers 5 = .ok (.iconst 5, 1) := by decide +kernel
theorem dX1_knowers_6 : decode cX1_knowers 6 = .ok (.if_icmp .ge 28, 3) := by decide +kernel
theorem dX1_knowers_9 : decode cX1_knowers 9 = .ok (.aload_n 0, 1) := by decide +kernel
theorem dX1_knowers_10 : decode cX1_knowers 10 = .ok (.getfield 19, 3) := by decide +kernel
theorem dX1_knowers_13 : decode cX1_knowers 13 = .ok (.iload_n 3, 1) := by decide +kernel
theorem dX1_knowers_14 : decode cX1_knowers 14 = .ok (.aaload, 1) := by decide +kernel
theorem dX1_knowers_15 : decode cX1_knowers 15 = .ok (.iload_n 1, 1) := by decide +kernel
theorem dX1_knowers_16 : decode cX1_knowers 16 = .ok (.invokestatic 97, 3) := by decide +kernel
theorem dX1_knowers_19 : decode cX1_knowers 19 = .ok (.ifCond .eq 9, 3) := by decide +kernel
theorem dX1_knowers_22 : decode cX1_knowers 22 = .ok (.iload_n 2, 1) := by decide +kernel
theorem dX1_knowers_23 : decode cX1_knowers 23 = .ok (.iconst 1, 1) := by decide +kernel
theorem dX1_knowers_24 : decode cX1_knowers 24 = .ok (.iload_n 3, 1) := by decide +kernel
theorem dX1_knowers_25 : decode cX1_knowers 25 = .ok (.ishl, 1) := by decide +kernel
theorem dX1_knowers_26 : decode cX1_knowers 26 = .ok (.ior, 1) := by decide +kernel
theorem dX1_knowers_27 : decode cX1_knowers 27 = .ok (.istore_n 2, 1) := by decide +kernel
theorem dX1_knowers_28 : decode cX1_knowers 28 = .ok (.iinc 3 1, 3) := by decide +kernel
theorem dX1_knowers_31 : decode cX1_knowers 31 = .ok (.goto (-27), 3) := by decide +kernel
theorem dX1_knowers_34 : decode cX1_knowers 34 = .ok (.iload_n 2, 1) := by decide +kernel
theorem dX1_knowers_35 : decode cX1_knowers 35 = .ok (.ireturn, 1) := by decide +kernel
theorem dX1_holders_0 : decode cX1_holders 0 = .ok (.iconst 0, 1) := by decide +kernel
theorem dX1_holders_1 : decode cX1_holders 1 = .ok (.istore_n 2, 1) := by decide +kernel
theorem dX1_holders_2 : decode cX1_holders 2 = .ok (.iconst 0, 1) := by decide +kernel
theorem dX1_holders_3 : decode cX1_holders 3 = .ok (.istore_n 3, 1) := by decide +kernel
theorem dX1_holders_4 : decode cX1_holders 4 = .ok (.iload_n 3, 1) := by decide +kernel
theorem dX1_holders_5 : decode cX1_holders 5 = .ok (.iconst 3, 1) := by decide +kernel
theorem dX1_holders_6 : decode cX1_holders 6 = .ok (.if_icmp .ge 28, 3) := by decide +kernel
theorem dX1_holders_9 : decode cX1_holders 9 = .ok (.aload_n 0, 1) := by decide +kernel
theorem dX1_holders_10 : decode cX1_holders 10 = .ok (.getfield 11, 3) := by decide +kernel
theorem dX1_holders_13 : decode cX1_holders 13 = .ok (.iload_n 3, 1) := by decide +kernel
theorem dX1_holders_14 : decode cX1_holders 14 = .ok (.aaload, 1) := by decide +kernel
theorem dX1_holders_15 : decode cX1_holders 15 = .ok (.iload_n 1, 1) := by decide +kernel
theorem dX1_holders_16 : decode cX1_holders 16 = .ok (.invokevirtual 101, 3) := by decide +kernel
theorem dX1_holders_19 : decode cX1_holders 19 = .ok (.ifCond .eq 9, 3) := by decide +kernel
theorem dX1_holders_22 : decode cX1_holders 22 = .ok (.iload_n 2, 1) := by decide +kernel
theorem dX1_holders_23 : decode cX1_holders 23 = .ok (.iconst 1, 1) := by decide +kernel
theorem dX1_holders_24 : decode cX1_holders 24 = .ok (.iload_n 3, 1) := by decide +kernel
theorem dX1_holders_25 : decode cX1_holders 25 = .ok (.ishl, 1) := by decide +kernel
theorem dX1_holders_26 : decode cX1_holders 26 = .ok (.ior, 1) := by decide +kernel
theorem dX1_holders_27 : decode cX1_holders 27 = .ok (.istore_n 2, 1) := by decide +kernel
theorem dX1_holders_28 : decode cX1_holders 28 = .ok (.iinc 3 1, 3) := by decide +kernel
theorem dX1_holders_31 : decode cX1_holders 31 = .ok (.goto (-27), 3) := by decide +kernel
theorem dX1_holders_34 : decode cX1_holders 34 = .ok (.iload_n 2, 1) := by decide +kernel
theorem dX1_holders_35 : decode cX1_holders 35 = .ok (.ireturn, 1) := by decide +kernel
theorem dX1_keyFact_0 : decode cX1_keyFact 0 = .ok (.iload_n 1, 1) := by decide +kernel
theorem dX1_keyFact_1 : decode cX1_keyFact 1 = .ok (.tableswitch 77 3 7 #[35, 40, 45, 59, 72], 35) := by decide +kernel
theorem dX1_keyFact_36 : decode cX1_keyFact 36 = .ok (.aload_n 0, 1) := by decide +kernel
theorem dX1_keyFact_37 : decode cX1_keyFact 37 = .ok (.invokevirtual 104, 3) := by decide +kernel
theorem dX1_keyFact_40 : decode cX1_keyFact 40 = .ok (.ireturn, 1) := by decide +kernel
theorem dX1_keyFact_41 : decode cX1_keyFact 41 = .ok (.aload_n 0, 1) := by decide +kernel
theorem dX1_keyFact_42 : decode cX1_keyFact 42 = .ok (.invokevirtual 108, 3) := by decide +kernel
theorem dX1_keyFact_45 : decode cX1_keyFact 45 = .ok (.ireturn, 1) := by decide +kernel
theorem dX1_keyFact_46 : decode cX1_keyFact 46 = .ok (.aload_n 0, 1) := by decide +kernel
theorem dX1_keyFact_47 : decode cX1_keyFact 47 = .ok (.invokevirtual 111, 3) := by decide +kernel
theorem dX1_keyFact_50 : decode cX1_keyFact 50 = .ok (.iconst 3, 1) := by decide +kernel
theorem dX1_keyFact_51 : decode cX1_keyFact 51 = .ok (.if_icmp .ne 7, 3) := by decide +kernel
theorem dX1_keyFact_54 : decode cX1_keyFact 54 = .ok (.iconst 1, 1) := by decide +kernel
theorem dX1_keyFact_55 : decode cX1_keyFact 55 = .ok (.goto 4, 3) := by decide +kernel
theorem dX1_keyFact_58 : decode cX1_keyFact 58 = .ok (.iconst 0, 1) := by decide +kernel
theorem dX1_keyFact_59 : decode cX1_keyFact 59 = .ok (.ireturn, 1) := by decide +kernel
theorem dX1_keyFact_60 : decode cX1_keyFact 60 = .ok (.aload_n 0, 1) := by decide +kernel
theorem dX1_keyFact_61 : decode cX1_keyFact 61 = .ok (.invokevirtual 114, 3) := by decide +kernel
theorem dX1_keyFact_64 : decode cX1_keyFact 64 = .ok (.ifCond .eq 7, 3) := by decide +kernel
theorem dX1_keyFact_67 : decode cX1_keyFact 67 = .ok (.iconst 1, 1) := by decide +kernel
theorem dX1_keyFact_68 : decode cX1_keyFact 68 = .ok (.goto 4, 3) := by decide +kernel
theorem dX1_keyFact_71 : decode cX1_keyFact 71 = .ok (.iconst 0, 1) := by decide +kernel
theorem dX1_keyFact_72 : decode cX1_keyFact 72 = .ok (.ireturn, 1) := by decide +kernel
theorem dX1_keyFact_73 : decode cX1_keyFact 73 = .ok (.aload_n 0, 1) := by decide +kernel
theorem dX1_keyFact_74 : decode cX1_keyFact 74 = .ok (.invokevirtual 118, 3) := by decide +kernel
theorem dX1_keyFact_77 : decode cX1_keyFact 77 = .ok (.ireturn, 1) := by decide +kernel
theorem dX1_keyFact_78 : decode cX1_keyFact 78 = .ok (.iload_n 1, 1) := by decide +kernel
theorem dX1_keyFact_79 : decode cX1_keyFact 79 = .ok (.ifCond .lt 20, 3) := by decide +kernel
theorem dX1_keyFact_82 : decode cX1_keyFact 82 = .ok (.iload_n 1, 1) := by decide +kernel
theorem dX1_keyFact_83 : decode cX1_keyFact 83 = .ok (.iconst 3, 1) := by decide +kernel
theorem dX1_keyFact_84 : decode cX1_keyFact 84 = .ok (.if_icmp .ge 15, 3) := by decide +kernel
theorem dX1_keyFact_87 : decode cX1_keyFact 87 = .ok (.aload_n 0, 1) := by decide +kernel
theorem dX1_keyFact_88 : decode cX1_keyFact 88 = .ok (.getfield 11, 3) := by decide +kernel
theorem dX1_keyFact_91 : decode cX1_keyFact 91 = .ok (.iload_n 1, 1) := by decide +kernel
theorem dX1_keyFact_92 : decode cX1_keyFact 92 = .ok (.aaload, 1) := by decide +kernel
theorem dX1_keyFact_93 : decode cX1_keyFact 93 = .ok (.getfield 55, 3) := by decide +kernel
theorem dX1_keyFact_96 : decode cX1_keyFact 96 = .ok (.goto 4, 3) := by decide +kernel
theorem dX1_keyFact_99 : decode cX1_keyFact 99 = .ok (.iconst (-1), 1) := by decide +kernel
theorem dX1_keyFact_100 : decode cX1_keyFact 100 = .ok (.ireturn, 1) := by decide +kernel
theorem dX1_unlikeSiblings_0 : decode cX1_unlikeSiblings 0 = .ok (.iconst 0, 1) := by decide +kernel
theorem dX1_unlikeSiblings_1 : decode cX1_unlikeSiblings 1 = .ok (.istore_n 1, 1) := by decide +kernel
theorem dX1_unlikeSiblings_2 : decode cX1_unlikeSiblings 2 = .ok (.iconst 0, 1) := by decide +kernel
theorem dX1_unlikeSiblings_3 : decode cX1_unlikeSiblings 3 = .ok (.istore_n 2, 1) := by decide +kernel
theorem dX1_unlikeSiblings_4 : decode cX1_unlikeSiblings 4 = .ok (.iload_n 2, 1) := by decide +kernel
theorem dX1_unlikeSiblings_5 : decode cX1_unlikeSiblings 5 = .ok (.iconst 3, 1) := by decide +kernel
theorem dX1_unlikeSiblings_6 : decode cX1_unlikeSiblings 6 = .ok (.if_icmp .ge 61, 3) := by decide +kernel
theorem dX1_unlikeSiblings_9 : decode cX1_unlikeSiblings 9 = .ok (.iconst 0, 1) := by decide +kernel
theorem dX1_unlikeSiblings_10 : decode cX1_unlikeSiblings 10 = .ok (.istore_n 3, 1) := by decide +kernel
theorem dX1_unlikeSiblings_11 : decode cX1_unlikeSiblings 11 = .ok (.iload_n 3, 1) := by decide +kernel
theorem dX1_unlikeSiblings_12 : decode cX1_unlikeSiblings 12 = .ok (.aload_n 0, 1) := by decide +kernel
theorem dX1_unlikeSiblings_13 : decode cX1_unlikeSiblings 13 = .ok (.getfield 11, 3) := by decide +kernel
theorem dX1_unlikeSiblings_16 : decode cX1_unlikeSiblings 16 = .ok (.iload_n 2, 1) := by decide +kernel
theorem dX1_unlikeSiblings_17 : decode cX1_unlikeSiblings 17 = .ok (.aaload, 1) := by decide +kernel
theorem dX1_unlikeSiblings_18 : decode cX1_unlikeSiblings 18 = .ok (.getfield 55, 3) := by decide +kernel
theorem dX1_unlikeSiblings_21 : decode cX1_unlikeSiblings 21 = .ok (.if_icmp .ge 40, 3) := by decide +kernel
theorem dX1_unlikeSiblings_24 : decode cX1_unlikeSiblings 24 = .ok (.aload_n 0, 1) := by decide +kernel
theorem dX1_unlikeSiblings_25 : decode cX1_unlikeSiblings 25 = .ok (.aload_n 0, 1) := by decide +kernel
theorem dX1_unlikeSiblings_26 : decode cX1_unlikeSiblings 26 = .ok (.getfield 11, 3) := by decide +kernel
theorem dX1_unlikeSiblings_29 : decode cX1_unlikeSiblings 29 = .ok (.iload_n 2, 1) := by decide +kernel
theorem dX1_unlikeSiblings_30 : decode cX1_unlikeSiblings 30 = .ok (.aaload, 1) := by decide +kernel
theorem dX1_unlikeSiblings_31 : decode cX1_unlikeSiblings 31 = .ok (.getfield 78, 3) := by decide +kernel
theorem dX1_unlikeSiblings_34 : decode cX1_unlikeSiblings 34 = .ok (.iload_n 3, 1) := by decide +kernel
theorem dX1_unlikeSiblings_35 : decode cX1_unlikeSiblings 35 = .ok (.iaload, 1) := by decide +kernel
theorem dX1_unlikeSiblings_36 : decode cX1_unlikeSiblings 36 = .ok (.invokevirtual 94, 3) := by decide +kernel
theorem dX1_unlikeSiblings_39 : decode cX1_unlikeSiblings 39 = .ok (.iconst 1, 1) := by decide +kernel
theorem dX1_unlikeSiblings_40 : decode cX1_unlikeSiblings 40 = .ok (.iload_n 2, 1) := by decide +kernel
theorem dX1_unlikeSiblings_41 : decode cX1_unlikeSiblings 41 = .ok (.ishl, 1) := by decide +kernel
theorem dX1_unlikeSiblings_42 : decode cX1_unlikeSiblings 42 = .ok (.iconst 1, 1) := by decide +kernel
theorem dX1_unlikeSiblings_43 : decode cX1_unlikeSiblings 43 = .ok (.isub, 1) := by decide +kernel
theorem dX1_unlikeSiblings_44 : decode cX1_unlikeSiblings 44 = .ok (.iand, 1) := by decide +kernel
theorem dX1_unlikeSiblings_45 : decode cX1_unlikeSiblings 45 = .ok (.istore 4, 2) := by decide +kernel
theorem dX1_unlikeSiblings_47 : decode cX1_unlikeSiblings 47 = .ok (.iload 4, 2) := by decide +kernel
theorem dX1_unlikeSiblings_49 : decode cX1_unlikeSiblings 49 = .ok (.ifCond .ne 6, 3) := by decide +kernel
theorem dX1_unlikeSiblings_52 : decode cX1_unlikeSiblings 52 = .ok (.iinc 1 1, 3) := by decide +kernel
theorem dX1_unlikeSiblings_55 : decode cX1_unlikeSiblings 55 = .ok (.iinc 3 1, 3) := by decide +kernel
theorem dX1_unlikeSiblings_58 : decode cX1_unlikeSiblings 58 = .ok (.goto (-47), 3) := by decide +kernel
theorem dX1_unlikeSiblings_61 : decode cX1_unlikeSiblings 61 = .ok (.iinc 2 1, 3) := by decide +kernel
theorem dX1_unlikeSiblings_64 : decode cX1_unlikeSiblings 64 = .ok (.goto (-60), 3) := by decide +kernel
theorem dX1_unlikeSiblings_67 : decode cX1_unlikeSiblings 67 = .ok (.iload_n 1, 1) := by decide +kernel
theorem dX1_unlikeSiblings_68 : decode cX1_unlikeSiblings 68 = .ok (.ireturn, 1) := by decide +kernel
theorem dX1_writesInAll_0 : decode cX1_writesInAll 0 = .ok (.iconst 0, 1) := by decide +kernel
theorem dX1_writesInAll_1 : decode cX1_writesInAll 1 = .ok (.istore_n 1, 1) := by decide +kernel
theorem dX1_writesInAll_2 : decode cX1_writesInAll 2 = .ok (.iconst 0, 1) := by decide +kernel
theorem dX1_writesInAll_3 : decode cX1_writesInAll 3 = .ok (.istore_n 2, 1) := by decide +kernel
theorem dX1_writesInAll_4 : decode cX1_writesInAll 4 = .ok (.iload_n 2, 1) := by decide +kernel
theorem dX1_writesInAll_5 : decode cX1_writesInAll 5 = .ok (.iconst 5, 1) := by decide +kernel
theorem dX1_writesInAll_6 : decode cX1_writesInAll 6 = .ok (.if_icmp .ge 18, 3) := by decide +kernel
theorem dX1_writesInAll_9 : decode cX1_writesInAll 9 = .ok (.iload_n 1, 1) := by decide +kernel
theorem dX1_writesInAll_10 : decode cX1_writesInAll 10 = .ok (.aload_n 0, 1) := by decide +kernel
theorem dX1_writesInAll_11 : decode cX1_writesInAll 11 = .ok (.getfield 22, 3) := by decide +kernel
theorem dX1_writesInAll_14 : decode cX1_writesInAll 14 = .ok (.iload_n 2, 1) := by decide +kernel
theorem dX1_writesInAll_15 : decode cX1_writesInAll 15 = .ok (.iaload, 1) := by decide +kernel
theorem dX1_writesInAll_16 : decode cX1_writesInAll 16 = .ok (.iadd, 1) := by decide +kernel
theorem dX1_writesInAll_17 : decode cX1_writesInAll 17 = .ok (.istore_n 1, 1) := by decide +kernel
theorem dX1_writesInAll_18 : decode cX1_writesInAll 18 = .ok (.iinc 2 1, 3) := by decide +kernel
theorem dX1_writesInAll_21 : decode cX1_writesInAll 21 = .ok (.goto (-17), 3) := by decide +kernel
theorem dX1_writesInAll_24 : decode cX1_writesInAll 24 = .ok (.iload_n 1, 1) := by decide +kernel
theorem dX1_writesInAll_25 : decode cX1_writesInAll 25 = .ok (.ireturn, 1) := by decide +kernel
theorem dX1_agreeingPairs_0 : decode cX1_agreeingPairs 0 = .ok (.iconst 0, 1) := by decide +kernel
theorem dX1_agreeingPairs_1 : decode cX1_agreeingPairs 1 = .ok (.istore_n 1, 1) := by decide +kernel
theorem dX1_agreeingPairs_2 : decode cX1_agreeingPairs 2 = .ok (.iconst 0, 1) := by decide +kernel
theorem dX1_agreeingPairs_3 : decode cX1_agreeingPairs 3 = .ok (.istore_n 2, 1) := by decide +kernel
theorem dX1_agreeingPairs_4 : decode cX1_agreeingPairs 4 = .ok (.iload_n 2, 1) := by decide +kernel
theorem dX1_agreeingPairs_5 : decode cX1_agreeingPairs 5 = .ok (.iconst 3, 1) := by decide +kernel
theorem dX1_agreeingPairs_6 : decode cX1_agreeingPairs 6 = .ok (.if_icmp .ge 45, 3) := by decide +kernel
theorem dX1_agreeingPairs_9 : decode cX1_agreeingPairs 9 = .ok (.iload_n 2, 1) := by decide +kernel
theorem dX1_agreeingPairs_10 : decode cX1_agreeingPairs 10 = .ok (.iconst 1, 1) := by decide +kernel
theorem dX1_agreeingPairs_11 : decode cX1_agreeingPairs 11 = .ok (.iadd, 1) := by decide +kernel
theorem dX1_agreeingPairs_12 : decode cX1_agreeingPairs 12 = .ok (.istore_n 3, 1) := by decide +kernel
theorem dX1_agreeingPairs_13 : decode cX1_agreeingPairs 13 = .ok (.iload_n 3, 1) := by decide +kernel
theorem dX1_agreeingPairs_14 : decode cX1_agreeingPairs 14 = .ok (.iconst 3, 1) := by decide +kernel
theorem dX1_agreeingPairs_15 : decode cX1_agreeingPairs 15 = .ok (.if_icmp .ge 30, 3) := by decide +kernel
theorem dX1_agreeingPairs_18 : decode cX1_agreeingPairs 18 = .ok (.aload_n 0, 1) := by decide +kernel
theorem dX1_agreeingPairs_19 : decode cX1_agreeingPairs 19 = .ok (.getfield 11, 3) := by decide +kernel
theorem dX1_agreeingPairs_22 : decode cX1_agreeingPairs 22 = .ok (.iload_n 2, 1) := by decide +kernel
theorem dX1_agreeingPairs_23 : decode cX1_agreeingPairs 23 = .ok (.aaload, 1) := by decide +kernel
theorem dX1_agreeingPairs_24 : decode cX1_agreeingPairs 24 = .ok (.aload_n 0, 1) := by decide +kernel
theorem dX1_agreeingPairs_25 : decode cX1_agreeingPairs 25 = .ok (.getfield 11, 3) := by decide +kernel
theorem dX1_agreeingPairs_28 : decode cX1_agreeingPairs 28 = .ok (.iload_n 3, 1) := by decide +kernel
theorem dX1_agreeingPairs_29 : decode cX1_agreeingPairs 29 = .ok (.aaload, 1) := by decide +kernel
theorem dX1_agreeingPairs_30 : decode cX1_agreeingPairs 30 = .ok (.invokevirtual 121, 3) := by decide +kernel
theorem dX1_agreeingPairs_33 : decode cX1_agreeingPairs 33 = .ok (.ifCond .eq 6, 3) := by decide +kernel
theorem dX1_agreeingPairs_36 : decode cX1_agreeingPairs 36 = .ok (.iinc 1 1, 3) := by decide +kernel
theorem dX1_agreeingPairs_39 : decode cX1_agreeingPairs 39 = .ok (.iinc 3 1, 3) := by decide +kernel
theorem dX1_agreeingPairs_42 : decode cX1_agreeingPairs 42 = .ok (.goto (-29), 3) := by decide +kernel
theorem dX1_agreeingPairs_45 : decode cX1_agreeingPairs 45 = .ok (.iinc 2 1, 3) := by decide +kernel
theorem dX1_agreeingPairs_48 : decode cX1_agreeingPairs 48 = .ok (.goto (-44), 3) := by decide +kernel
theorem dX1_agreeingPairs_51 : decode cX1_agreeingPairs 51 = .ok (.iload_n 1, 1) := by decide +kernel
theorem dX1_agreeingPairs_52 : decode cX1_agreeingPairs 52 = .ok (.ireturn, 1) := by decide +kernel
theorem dX1_allSeeTheSame_0 : decode cX1_allSeeTheSame 0 = .ok (.iconst 1, 1) := by decide +kernel
theorem dX1_allSeeTheSame_1 : decode cX1_allSeeTheSame 1 = .ok (.istore_n 1, 1) := by decide +kernel
theorem dX1_allSeeTheSame_2 : decode cX1_allSeeTheSame 2 = .ok (.iload_n 1, 1) := by decide +kernel
theorem dX1_allSeeTheSame_3 : decode cX1_allSeeTheSame 3 = .ok (.iconst 3, 1) := by decide +kernel
theorem dX1_allSeeTheSame_4 : decode cX1_allSeeTheSame 4 = .ok (.if_icmp .ge 35, 3) := by decide +kernel
theorem dX1_allSeeTheSame_7 : decode cX1_allSeeTheSame 7 = .ok (.aload_n 0, 1) := by decide +kernel
theorem dX1_allSeeTheSame_8 : decode cX1_allSeeTheSame 8 = .ok (.getfield 11, 3) := by decide +kernel
theorem dX1_allSeeTheSame_11 : decode cX1_allSeeTheSame 11 = .ok (.iconst 0, 1) := by decide +kernel
theorem dX1_allSeeTheSame_12 : decode cX1_allSeeTheSame 12 = .ok (.aaload, 1) := by decide +kernel
theorem dX1_allSeeTheSame_13 : decode cX1_allSeeTheSame 13 = .ok (.getfield 37, 3) := by decide +kernel
theorem dX1_allSeeTheSame_16 : decode cX1_allSeeTheSame 16 = .ok (.aload_n 0, 1) := by decide +kernel
theorem dX1_allSeeTheSame_17 : decode cX1_allSeeTheSame 17 = .ok (.getfield 11, 3) := by decide +kernel
theorem dX1_allSeeTheSame_20 : decode cX1_allSeeTheSame 20 = .ok (.iload_n 1, 1) := by decide +kernel
theorem dX1_allSeeTheSame_21 : decode cX1_allSeeTheSame 21 = .ok (.aaload, 1) := by decide +kernel
theorem dX1_allSeeTheSame_22 : decode cX1_allSeeTheSame 22 = .ok (.getfield 37, 3) := by decide +kernel
theorem dX1_allSeeTheSame_25 : decode cX1_allSeeTheSame 25 = .ok (.invokestatic 125, 3) := by decide +kernel
theorem dX1_allSeeTheSame_28 : decode cX1_allSeeTheSame 28 = .ok (.ifCond .ne 5, 3) := by decide +kernel
theorem dX1_allSeeTheSame_31 : decode cX1_allSeeTheSame 31 = .ok (.iconst 0, 1) := by decide +kernel
theorem dX1_allSeeTheSame_32 : decode cX1_allSeeTheSame 32 = .ok (.ireturn, 1) := by decide +kernel
theorem dX1_allSeeTheSame_33 : decode cX1_allSeeTheSame 33 = .ok (.iinc 1 1, 3) := by decide +kernel
theorem dX1_allSeeTheSame_36 : decode cX1_allSeeTheSame 36 = .ok (.goto (-34), 3) := by decide +kernel
theorem dX1_allSeeTheSame_39 : decode cX1_allSeeTheSame 39 = .ok (.iconst 1, 1) := by decide +kernel
theorem dX1_allSeeTheSame_40 : decode cX1_allSeeTheSame 40 = .ok (.ireturn, 1) := by decide +kernel
theorem dX1_forgettable_0 : decode cX1_forgettable 0 = .ok (.iconst 0, 1) := by decide +kernel
theorem dX1_forgettable_1 : decode cX1_forgettable 1 = .ok (.istore_n 1, 1) := by decide +kernel
theorem dX1_forgettable_2 : decode cX1_forgettable 2 = .ok (.iconst 0, 1) := by decide +kernel
theorem dX1_forgettable_3 : decode cX1_forgettable 3 = .ok (.istore_n 2, 1) := by decide +kernel
theorem dX1_forgettable_4 : decode cX1_forgettable 4 = .ok (.iload_n 2, 1) := by decide +kernel
theorem dX1_forgettable_5 : decode cX1_forgettable 5 = .ok (.iconst 5, 1) := by decide +kernel
theorem dX1_forgettable_6 : decode cX1_forgettable 6 = .ok (.if_icmp .ge 37, 3) := by decide +kernel
theorem dX1_forgettable_9 : decode cX1_forgettable 9 = .ok (.aload_n 0, 1) := by decide +kernel
theorem dX1_forgettable_10 : decode cX1_forgettable 10 = .ok (.iload_n 2, 1) := by decide +kernel
theorem dX1_forgettable_11 : decode cX1_forgettable 11 = .ok (.invokevirtual 129, 3) := by decide +kernel
theorem dX1_forgettable_14 : decode cX1_forgettable 14 = .ok (.ifCond .ne 23, 3) := by decide +kernel
theorem dX1_forgettable_17 : decode cX1_forgettable 17 = .ok (.aload_n 0, 1) := by decide +kernel
theorem dX1_forgettable_18 : decode cX1_forgettable 18 = .ok (.getfield 11, 3) := by decide +kernel
theorem dX1_forgettable_21 : decode cX1_forgettable 21 = .ok (.iconst 0, 1) := by decide +kernel
theorem dX1_forgettable_22 : decode cX1_forgettable 22 = .ok (.aaload, 1) := by decide +kernel
theorem dX1_forgettable_23 : decode cX1_forgettable 23 = .ok (.getfield 37, 3) := by decide +kernel
theorem dX1_forgettable_26 : decode cX1_forgettable 26 = .ok (.iload_n 2, 1) := by decide +kernel
theorem dX1_forgettable_27 : decode cX1_forgettable 27 = .ok (.iaload, 1) := by decide +kernel
theorem dX1_forgettable_28 : decode cX1_forgettable 28 = .ok (.ifCond .le 9, 3) := by decide +kernel
theorem dX1_forgettable_31 : decode cX1_forgettable 31 = .ok (.iload_n 1, 1) := by decide +kernel
theorem dX1_forgettable_32 : decode cX1_forgettable 32 = .ok (.iconst 1, 1) := by decide +kernel
theorem dX1_forgettable_33 : decode cX1_forgettable 33 = .ok (.iload_n 2, 1) := by decide +kernel
theorem dX1_forgettable_34 : decode cX1_forgettable 34 = .ok (.ishl, 1) := by decide +kernel
theorem dX1_forgettable_35 : decode cX1_forgettable 35 = .ok (.ior, 1) := by decide +kernel
theorem dX1_forgettable_36 : decode cX1_forgettable 36 = .ok (.istore_n 1, 1) := by decide +kernel
theorem dX1_forgettable_37 : decode cX1_forgettable 37 = .ok (.iinc 2 1, 3) := by decide +kernel
theorem dX1_forgettable_40 : decode cX1_forgettable 40 = .ok (.goto (-36), 3) := by decide +kernel
theorem dX1_forgettable_43 : decode cX1_forgettable 43 = .ok (.iload_n 1, 1) := by decide +kernel
theorem dX1_forgettable_44 : decode cX1_forgettable 44 = .ok (.ireturn, 1) := by decide +kernel
theorem dX2_init_0 : decode cX2_init 0 = .ok (.aload_n 0, 1) := by decide +kernel
theorem dX2_init_1 : decode cX2_init 1 = .ok (.invokespecial 1, 3) := by decide +kernel
theorem dX2_init_4 : decode cX2_init 4 = .ok (.return_, 1) := by decide +kernel
theorem dX2_restart_0 : decode cX2_restart 0 = .ok (.aload_n 0, 1) := by decide +kernel
theorem dX2_restart_1 : decode cX2_restart 1 = .ok (.iconst 0, 1) := by decide +kernel
theorem dX2_restart_2 : decode cX2_restart 2 = .ok (.putfield 7, 3) := by decide +kernel
theorem dX2_restart_5 : decode cX2_restart 5 = .ok (.return_, 1) := by decide +kernel
theorem dX2_isWhole_0 : decode cX2_isWhole 0 = .ok (.aload_n 0, 1) := by decide +kernel
theorem dX2_isWhole_1 : decode cX2_isWhole 1 = .ok (.getfield 7, 3) := by decide +kernel
theorem dX2_isWhole_4 : decode cX2_isWhole 4 = .ok (.aload_n 0, 1) := by decide +kernel
theorem dX2_isWhole_5 : decode cX2_isWhole 5 = .ok (.invokevirtual 13, 3) := by decide +kernel
theorem dX2_isWhole_8 : decode cX2_isWhole 8 = .ok (.invokevirtual 17, 3) := by decide +kernel
theorem dX2_isWhole_11 : decode cX2_isWhole 11 = .ok (.if_icmp .lt 7, 3) := by decide +kernel
theorem dX2_isWhole_14 : decode cX2_isWhole 14 = .ok (.iconst 1, 1) := by decide +kernel
theorem dX2_isWhole_15 : decode cX2_isWhole 15 = .ok (.goto 4, 3) := by decide +kernel
theorem dX2_isWhole_18 : decode cX2_isWhole 18 = .ok (.iconst 0, 1) := by decide +kernel
theorem dX2_isWhole_19 : decode cX2_isWhole 19 = .ok (.ireturn, 1) := by decide +kernel
theorem dX2_takes_0 : decode cX2_takes 0 = .ok (.aload_n 0, 1) := by decide +kernel
theorem dX2_takes_1 : decode cX2_takes 1 = .ok (.getfield 7, 3) := by decide +kernel
theorem dX2_takes_4 : decode cX2_takes 4 = .ok (.ifCond .ne 9, 3) := by decide +kernel
theorem dX2_takes_7 : decode cX2_takes 7 = .ok (.aload_n 0, 1) := by decide +kernel
theorem dX2_takes_8 : decode cX2_takes 8 = .ok (.iload_n 1, 1) := by decide +kernel
theorem dX2_takes_9 : decode cX2_takes 9 = .ok (.invokevirtual 23, 3) := by decide +kernel
theorem dX2_takes_12 : decode cX2_takes 12 = .ok (.ireturn, 1) := by decide +kernel
theorem dX2_takes_13 : decode cX2_takes 13 = .ok (.aload_n 0, 1) := by decide +kernel
theorem dX2_takes_14 : decode cX2_takes 14 = .ok (.invokevirtual 27, 3) := by decide +kernel
theorem dX2_takes_17 : decode cX2_takes 17 = .ok (.ifCond .eq 9, 3) := by decide +kernel
theorem dX2_takes_20 : decode cX2_takes 20 = .ok (.aload_n 0, 1) := by decide +kernel
theorem dX2_takes_21 : decode cX2_takes 21 = .ok (.iload_n 1, 1) := by decide +kernel
theorem dX2_takes_22 : decode cX2_takes 22 = .ok (.invokevirtual 31, 3) := by decide +kernel
theorem dX2_takes_25 : decode cX2_takes 25 = .ok (.ireturn, 1) := by decide +kernel
theorem dX2_takes_26 : decode cX2_takes 26 = .ok (.aload_n 0, 1) := by decide +kernel
theorem dX2_takes_27 : decode cX2_takes 27 = .ok (.invokevirtual 13, 3) := by decide +kernel
theorem dX2_takes_30 : decode cX2_takes 30 = .ok (.aload_n 0, 1) := by decide +kernel
theorem dX2_takes_31 : decode cX2_takes 31 = .ok (.getfield 7, 3) := by decide +kernel
theorem dX2_takes_34 : decode cX2_takes 34 = .ok (.invokevirtual 34, 3) := by decide +kernel
theorem dX2_takes_37 : decode cX2_takes 37 = .ok (.istore_n 2, 1) := by decide +kernel
theorem dX2_takes_38 : decode cX2_takes 38 = .ok (.iload_n 2, 1) := by decide +kernel
theorem dX2_takes_39 : decode cX2_takes 39 = .ok (.bipush 48, 2) := by decide +kernel
theorem dX2_takes_41 : decode cX2_takes 41 = .ok (.if_icmp .lt 16, 3) := by decide +kernel
theorem dX2_takes_44 : decode cX2_takes 44 = .ok (.iload_n 2, 1) := by decide +kernel
theorem dX2_takes_45 : decode cX2_takes 45 = .ok (.bipush 57, 2) := by decide +kernel
theorem dX2_takes_47 : decode cX2_takes 47 = .ok (.if_icmp .gt 10, 3) := by decide +kernel
theorem dX2_takes_50 : decode cX2_takes 50 = .ok (.aload_n 0, 1) := by decide +kernel
theorem dX2_takes_51 : decode cX2_takes 51 = .ok (.iload_n 1, 1) := by decide +kernel
theorem dX2_takes_52 : decode cX2_takes 52 = .ok (.iload_n 2, 1) := by decide +kernel
theorem dX2_takes_53 : decode cX2_takes 53 = .ok (.invokevirtual 38, 3) := by decide +kernel
theorem dX2_takes_56 : decode cX2_takes 56 = .ok (.ireturn, 1) := by decide +kernel
theorem dX2_takes_57 : decode cX2_takes 57 = .ok (.iload_n 1, 1) := by decide +kernel
theorem dX2_takes_58 : decode cX2_takes 58 = .ok (.iload_n 2, 1) := by decide +kernel
theorem dX2_takes_59 : decode cX2_takes 59 = .ok (.if_icmp .eq 5, 3) := by decide +kernel
theorem dX2_takes_62 : decode cX2_takes 62 = .ok (.iconst 0, 1) := by decide +kernel
theorem dX2_takes_63 : decode cX2_takes 63 = .ok (.ireturn, 1) := by decide +kernel
theorem dX2_takes_64 : decode cX2_takes 64 = .ok (.aload_n 0, 1) := by decide +kernel
theorem dX2_takes_65 : decode cX2_takes 65 = .ok (.dup, 1) := by decide +kernel
theorem dX2_takes_66 : decode cX2_takes 66 = .ok (.getfield 7, 3) := by decide +kernel
theorem dX2_takes_69 : decode cX2_takes 69 = .ok (.iconst 1, 1) := by decide +kernel
theorem dX2_takes_70 : decode cX2_takes 70 = .ok (.iadd, 1) := by decide +kernel
theorem dX2_takes_71 : decode cX2_takes 71 = .ok (.putfield 7, 3) := by decide +kernel
theorem dX2_takes_74 : decode cX2_takes 74 = .ok (.iconst 1, 1) := by decide +kernel
theorem dX2_takes_75 : decode cX2_takes 75 = .ok (.ireturn, 1) := by decide +kernel
theorem dX2_shape_0 : decode cX2_shape 0 = .ok (.aload_n 0, 1) := by decide +kernel
theorem dX2_shape_1 : decode cX2_shape 1 = .ok (.getfield 42, 3) := by decide +kernel
theorem dX2_shape_4 : decode cX2_shape 4 = .ok (.ifCond .eq 8, 3) := by decide +kernel
theorem dX2_shape_7 : decode cX2_shape 7 = .ok (.ldc 46, 2) := by decide +kernel
theorem dX2_shape_9 : decode cX2_shape 9 = .ok (.goto 5, 3) := by decide +kernel
theorem dX2_shape_12 : decode cX2_shape 12 = .ok (.ldc 48, 2) := by decide +kernel
theorem dX2_shape_14 : decode cX2_shape 14 = .ok (.areturn, 1) := by decide +kernel
theorem dX2_takesKind_0 : decode cX2_takesKind 0 = .ok (.iload_n 1, 1) := by decide +kernel
theorem dX2_takesKind_1 : decode cX2_takesKind 1 = .ok (.bipush 114, 2) := by decide +kernel
theorem dX2_takesKind_3 : decode cX2_takesKind 3 = .ok (.if_icmp .eq 11, 3) := by decide +kernel
theorem dX2_takesKind_6 : decode cX2_takesKind 6 = .ok (.iload_n 1, 1) := by decide +kernel
theorem dX2_takesKind_7 : decode cX2_takesKind 7 = .ok (.bipush 119, 2) := by decide +kernel
theorem dX2_takesKind_9 : decode cX2_takesKind 9 = .ok (.if_icmp .eq 5, 3) := by decide +kernel
theorem dX2_takesKind_12 : decode cX2_takesKind 12 = .ok (.iconst 0, 1) := by decide +kernel
theorem dX2_takesKind_13 : decode cX2_takesKind 13 = .ok (.ireturn, 1) := by decide +kernel
theorem dX2_takesKind_14 : decode cX2_takesKind 14 = .ok (.aload_n 0, 1) := by decide +kernel
theorem dX2_takesKind_15 : decode cX2_takesKind 15 = .ok (.iload_n 1, 1) := by decide +kernel
theorem dX2_takesKind_16 : decode cX2_takesKind 16 = .ok (.bipush 119, 2) := by decide +kernel
theorem dX2_takesKind_18 : decode cX2_takesKind 18 = .ok (.if_icmp .ne 7, 3) := by decide +kernel
theorem dX2_takesKind_21 : decode cX2_takesKind 21 = .ok (.iconst 1, 1) := by decide +kernel
theorem dX2_takesKind_22 : decode cX2_takesKind 22 = .ok (.goto 4, 3) := by decide +kernel
theorem dX2_takesKind_25 : decode cX2_takesKind 25 = .ok (.iconst 0, 1) := by decide +kernel
theorem dX2_takesKind_26 : decode cX2_takesKind 26 = .ok (.putfield 42, 3) := by decide +kernel
theorem dX2_takesKind_29 : decode cX2_takesKind 29 = .ok (.aload_n 0, 1) := by decide +kernel
theorem dX2_takesKind_30 : decode cX2_takesKind 30 = .ok (.iconst 1, 1) := by decide +kernel
theorem dX2_takesKind_31 : decode cX2_takesKind 31 = .ok (.putfield 7, 3) := by decide +kernel
theorem dX2_takesKind_34 : decode cX2_takesKind 34 = .ok (.iconst 1, 1) := by decide +kernel
theorem dX2_takesKind_35 : decode cX2_takesKind 35 = .ok (.ireturn, 1) := by decide +kernel
theorem dX2_takesDigit_0 : decode cX2_takesDigit 0 = .ok (.iload_n 1, 1) := by decide +kernel
theorem dX2_takesDigit_1 : decode cX2_takesDigit 1 = .ok (.bipush 48, 2) := by decide +kernel
theorem dX2_takesDigit_3 : decode cX2_takesDigit 3 = .ok (.if_icmp .lt 8, 3) := by decide +kernel
theorem dX2_takesDigit_6 : decode cX2_takesDigit 6 = .ok (.iload_n 1, 1) := by decide +kernel
theorem dX2_takesDigit_7 : decode cX2_takesDigit 7 = .ok (.iload_n 2, 1) := by decide +kernel
theorem dX2_takesDigit_8 : decode cX2_takesDigit 8 = .ok (.if_icmp .le 5, 3) := by decide +kernel
theorem dX2_takesDigit_11 : decode cX2_takesDigit 11 = .ok (.iconst 0, 1) := by decide +kernel
theorem dX2_takesDigit_12 : decode cX2_takesDigit 12 = .ok (.ireturn, 1) := by decide +kernel
theorem dX2_takesDigit_13 : decode cX2_takesDigit 13 = .ok (.iload_n 1, 1) := by decide +kernel
theorem dX2_takesDigit_14 : decode cX2_takesDigit 14 = .ok (.bipush 48, 2) := by decide +kernel
theorem dX2_takesDigit_16 : decode cX2_takesDigit 16 = .ok (.isub, 1) := by decide +kernel
theorem dX2_takesDigit_17 : decode cX2_takesDigit 17 = .ok (.istore_n 3, 1) := by decide +kernel
theorem dX2_takesDigit_18 : decode cX2_takesDigit 18 = .ok (.aload_n 0, 1) := by decide +kernel
theorem dX2_takesDigit_19 : decode cX2_takesDigit 19 = .ok (.getfield 7, 3) := by decide +kernel
theorem dX2_takesDigit_22 : decode cX2_takesDigit 22 = .ok (.tableswitch 58 1 5 #[34, 58, 42, 58, 50], 34) := by decide +kernel
theorem dX2_takesDigit_56 : decode cX2_takesDigit 56 = .ok (.aload_n 0, 1) := by decide +kernel
theorem dX2_takesDigit_57 : decode cX2_takesDigit 57 = .ok (.iload_n 3, 1) := by decide +kernel
theorem dX2_takesDigit_58 : decode cX2_takesDigit 58 = .ok (.putfield 50, 3) := by decide +kernel
theorem dX2_takesDigit_61 : decode cX2_takesDigit 61 = .ok (.goto 24, 3) := by decide +kernel
theorem dX2_takesDigit_64 : decode cX2_takesDigit 64 = .ok (.aload_n 0, 1) := by decide +kernel
theorem dX2_takesDigit_65 : decode cX2_takesDigit 65 = .ok (.iload_n 3, 1) := by decide +kernel
theorem dX2_takesDigit_66 : decode cX2_takesDigit 66 = .ok (.putfield 53, 3) := by decide +kernel
theorem dX2_takesDigit_69 : decode cX2_takesDigit 69 = .ok (.goto 16, 3) := by decide +kernel
theorem dX2_takesDigit_72 : decode cX2_takesDigit 72 = .ok (.aload_n 0, 1) := by decide +kernel
theorem dX2_takesDigit_73 : decode cX2_takesDigit 73 = .ok (.iload_n 3, 1) := by decide +kernel
theorem dX2_takesDigit_74 : decode cX2_takesDigit 74 = .ok (.putfield 56, 3) := by decide +kernel
theorem dX2_takesDigit_77 : decode cX2_takesDigit 77 = .ok (.goto 8, 3) := by decide +kernel
theorem dX2_takesDigit_80 : decode cX2_takesDigit 80 = .ok (.aload_n 0, 1) := by decide +kernel
theorem dX2_takesDigit_81 : decode cX2_takesDigit 81 = .ok (.iload_n 3, 1) := by decide +kernel
theorem dX2_takesDigit_82 : decode cX2_takesDigit 82 = .ok (.putfield 59, 3) := by decide +kernel
theorem dX2_takesDigit_85 : decode cX2_takesDigit 85 = .ok (.aload_n 0, 1) := by decide +kernel
theorem dX2_takesDigit_86 : decode cX2_takesDigit 86 = .ok (.dup, 1) := by decide +kernel
theorem dX2_takesDigit_87 : decode cX2_takesDigit 87 = .ok (.getfield 7, 3) := by decide +kernel
theorem dX2_takesDigit_90 : decode cX2_takesDigit 90 = .ok (.iconst 1, 1) := by decide +kernel
theorem dX2_takesDigit_91 : decode cX2_takesDigit 91 = .ok (.iadd, 1) := by decide +kernel
theorem dX2_takesDigit_92 : decode cX2_takesDigit 92 = .ok (.putfield 7, 3) := by decide +kernel
theorem dX2_takesDigit_95 : decode cX2_takesDigit 95 = .ok (.iconst 1, 1) := by decide +kernel
theorem dX2_takesDigit_96 : decode cX2_takesDigit 96 = .ok (.ireturn, 1) := by decide +kernel
theorem dX2_takesEnd_0 : decode cX2_takesEnd 0 = .ok (.iload_n 1, 1) := by decide +kernel
theorem dX2_takesEnd_1 : decode cX2_takesEnd 1 = .ok (.bipush 59, 2) := by decide +kernel
theorem dX2_takesEnd_3 : decode cX2_takesEnd 3 = .ok (.if_icmp .ne 9, 3) := by decide +kernel
theorem dX2_takesEnd_6 : decode cX2_takesEnd 6 = .ok (.aload_n 0, 1) := by decide +kernel
theorem dX2_takesEnd_7 : decode cX2_takesEnd 7 = .ok (.invokevirtual 62, 3) := by decide +kernel
theorem dX2_takesEnd_10 : decode cX2_takesEnd 10 = .ok (.iconst 1, 1) := by decide +kernel
theorem dX2_takesEnd_11 : decode cX2_takesEnd 11 = .ok (.ireturn, 1) := by decide +kernel
theorem dX2_takesEnd_12 : decode cX2_takesEnd 12 = .ok (.aload_n 0, 1) := by decide +kernel
theorem dX2_takesEnd_13 : decode cX2_takesEnd 13 = .ok (.getfield 42, 3) := by decide +kernel
theorem dX2_takesEnd_16 : decode cX2_takesEnd 16 = .ok (.ifCond .eq 26, 3) := by decide +kernel
theorem dX2_takesEnd_19 : decode cX2_takesEnd 19 = .ok (.aload_n 0, 1) := by decide +kernel
theorem dX2_takesEnd_20 : decode cX2_takesEnd 20 = .ok (.getfield 7, 3) := by decide +kernel
theorem dX2_takesEnd_23 : decode cX2_takesEnd 23 = .ok (.ldc 46, 2) := by decide +kernel
theorem dX2_takesEnd_25 : decode cX2_takesEnd 25 = .ok (.invokevirtual 17, 3) := by decide +kernel
theorem dX2_takesEnd_28 : decode cX2_takesEnd 28 = .ok (.if_icmp .ne 14, 3) := by decide +kernel
theorem dX2_takesEnd_31 : decode cX2_takesEnd 31 = .ok (.aload_n 0, 1) := by decide +kernel
theorem dX2_takesEnd_32 : decode cX2_takesEnd 32 = .ok (.getfield 59, 3) := by decide +kernel
theorem dX2_takesEnd_35 : decode cX2_takesEnd 35 = .ok (.ifCond .le 7, 3) := by decide +kernel
theorem dX2_takesEnd_38 : decode cX2_takesEnd 38 = .ok (.iconst 1, 1) := by decide +kernel
theorem dX2_takesEnd_39 : decode cX2_takesEnd 39 = .ok (.goto 4, 3) := by decide +kernel
theorem dX2_takesEnd_42 : decode cX2_takesEnd 42 = .ok (.iconst 0, 1) := by decide +kernel
theorem dX2_takesEnd_43 : decode cX2_takesEnd 43 = .ok (.istore_n 2, 1) := by decide +kernel
theorem dX2_takesEnd_44 : decode cX2_takesEnd 44 = .ok (.iload_n 2, 1) := by decide +kernel
theorem dX2_takesEnd_45 : decode cX2_takesEnd 45 = .ok (.ifCond .eq 15, 3) := by decide +kernel
theorem dX2_takesEnd_48 : decode cX2_takesEnd 48 = .ok (.iload_n 1, 1) := by decide +kernel
theorem dX2_takesEnd_49 : decode cX2_takesEnd 49 = .ok (.bipush 48, 2) := by decide +kernel
theorem dX2_takesEnd_51 : decode cX2_takesEnd 51 = .ok (.if_icmp .lt 9, 3) := by decide +kernel
theorem dX2_takesEnd_54 : decode cX2_takesEnd 54 = .ok (.iload_n 1, 1) := by decide +kernel
theorem dX2_takesEnd_55 : decode cX2_takesEnd 55 = .ok (.bipush 57, 2) := by decide +kernel
theorem dX2_takesEnd_57 : decode cX2_takesEnd 57 = .ok (.if_icmp .le 5, 3) := by decide +kernel
theorem dX2_takesEnd_60 : decode cX2_takesEnd 60 = .ok (.iconst 0, 1) := by decide +kernel
theorem dX2_takesEnd_61 : decode cX2_takesEnd 61 = .ok (.ireturn, 1) := by decide +kernel
theorem dX2_takesEnd_62 : decode cX2_takesEnd 62 = .ok (.aload_n 0, 1) := by decide +kernel
theorem dX2_takesEnd_63 : decode cX2_takesEnd 63 = .ok (.bipush 10, 2) := by decide +kernel
theorem dX2_takesEnd_65 : decode cX2_takesEnd 65 = .ok (.aload_n 0, 1) := by decide +kernel
theorem dX2_takesEnd_66 : decode cX2_takesEnd 66 = .ok (.getfield 59, 3) := by decide +kernel
theorem dX2_takesEnd_69 : decode cX2_takesEnd 69 = .ok (.imul, 1) := by decide +kernel
theorem dX2_takesEnd_70 : decode cX2_takesEnd 70 = .ok (.iload_n 1, 1) := by decide +kernel
theorem dX2_takesEnd_71 : decode cX2_takesEnd 71 = .ok (.iadd, 1) := by decide +kernel
theorem dX2_takesEnd_72 : decode cX2_takesEnd 72 = .ok (.bipush 48, 2) := by decide +kernel
theorem dX2_takesEnd_74 : decode cX2_takesEnd 74 = .ok (.isub, 1) := by decide +kernel
theorem dX2_takesEnd_75 : decode cX2_takesEnd 75 = .ok (.putfield 59, 3) := by decide +kernel
theorem dX2_takesEnd_78 : decode cX2_takesEnd 78 = .ok (.aload_n 0, 1) := by decide +kernel
theorem dX2_takesEnd_79 : decode cX2_takesEnd 79 = .ok (.dup, 1) := by decide +kernel
theorem dX2_takesEnd_80 : decode cX2_takesEnd 80 = .ok (.getfield 7, 3) := by decide +kernel
theorem dX2_takesEnd_83 : decode cX2_takesEnd 83 = .ok (.iconst 1, 1) := by decide +kernel
theorem dX2_takesEnd_84 : decode cX2_takesEnd 84 = .ok (.iadd, 1) := by decide +kernel
theorem dX2_takesEnd_85 : decode cX2_takesEnd 85 = .ok (.putfield 7, 3) := by decide +kernel
theorem dX2_takesEnd_88 : decode cX2_takesEnd 88 = .ok (.iconst 1, 1) := by decide +kernel
theorem dX2_takesEnd_89 : decode cX2_takesEnd 89 = .ok (.ireturn, 1) := by decide +kernel
theorem dX3_init_0 : decode cX3_init 0 = .ok (.aload_n 0, 1) := by decide +kernel
theorem dX3_init_1 : decode cX3_init 1 = .ok (.invokespecial 3, 3) := by decide +kernel
theorem dX3_init_4 : decode cX3_init 4 = .ok (.aload_n 0, 1) := by decide +kernel
theorem dX3_init_5 : decode cX3_init 5 = .ok (.iconst 3, 1) := by decide +kernel
theorem dX3_init_6 : decode cX3_init 6 = .ok (.anewarray 9, 3) := by decide +kernel
theorem dX3_init_9 : decode cX3_init 9 = .ok (.putfield 11, 3) := by decide +kernel
theorem dX3_init_12 : decode cX3_init 12 = .ok (.iconst 0, 1) := by decide +kernel
theorem dX3_init_13 : decode cX3_init 13 = .ok (.istore_n 1, 1) := by decide +kernel
theorem dX3_init_14 : decode cX3_init 14 = .ok (.iload_n 1, 1) := by decide +kernel
theorem dX3_init_15 : decode cX3_init 15 = .ok (.iconst 3, 1) := by decide +kernel
theorem dX3_init_16 : decode cX3_init 16 = .ok (.if_icmp .ge 22, 3) := by decide +kernel
theorem dX3_init_19 : decode cX3_init 19 = .ok (.aload_n 0, 1) := by decide +kernel
theorem dX3_init_20 : decode cX3_init 20 = .ok (.getfield 11, 3) := by decide +kernel
theorem dX3_init_23 : decode cX3_init 23 = .ok (.iload_n 1, 1) := by decide +kernel
theorem dX3_init_24 : decode cX3_init 24 = .ok (.new 9, 3) := by decide +kernel
theorem dX3_init_27 : decode cX3_init 27 = .ok (.dup, 1) := by decide +kernel
theorem dX3_init_28 : decode cX3_init 28 = .ok (.invokespecial 17, 3) := by decide +kernel
theorem dX3_init_31 : decode cX3_init 31 = .ok (.aastore, 1) := by decide +kernel
theorem dX3_init_32 : decode cX3_init 32 = .ok (.iinc 1 1, 3) := by decide +kernel
theorem dX3_init_35 : decode cX3_init 35 = .ok (.goto (-21), 3) := by decide +kernel
theorem dX3_init_38 : decode cX3_init 38 = .ok (.return_, 1) := by decide +kernel
theorem dX3_become_0 : decode cX3_become 0 = .ok (.iconst 0, 1) := by decide +kernel
theorem dX3_become_1 : decode cX3_become 1 = .ok (.istore_n 2, 1) := by decide +kernel
theorem dX3_become_2 : decode cX3_become 2 = .ok (.iload_n 2, 1) := by decide +kernel
theorem dX3_become_3 : decode cX3_become 3 = .ok (.iconst 3, 1) := by decide +kernel
theorem dX3_become_4 : decode cX3_become 4 = .ok (.if_icmp .ge 24, 3) := by decide +kernel
theorem dX3_become_7 : decode cX3_become 7 = .ok (.aload_n 0, 1) := by decide +kernel
theorem dX3_become_8 : decode cX3_become 8 = .ok (.getfield 11, 3) := by decide +kernel
theorem dX3_become_11 : decode cX3_become 11 = .ok (.iload_n 2, 1) := by decide +kernel
theorem dX3_become_12 : decode cX3_become 12 = .ok (.aaload, 1) := by decide +kernel
theorem dX3_become_13 : decode cX3_become 13 = .ok (.aload_n 1, 1) := by decide +kernel
theorem dX3_become_14 : decode cX3_become 14 = .ok (.getfield 11, 3) := by decide +kernel
theorem dX3_become_17 : decode cX3_become 17 = .ok (.iload_n 2, 1) := by decide +kernel
theorem dX3_become_18 : decode cX3_become 18 = .ok (.aaload, 1) := by decide +kernel
theorem dX3_become_19 : decode cX3_become 19 = .ok (.invokevirtual 18, 3) := by decide +kernel
theorem dX3_become_22 : decode cX3_become 22 = .ok (.iinc 2 1, 3) := by decide +kernel
theorem dX3_become_25 : decode cX3_become 25 = .ok (.goto (-23), 3) := by decide +kernel
theorem dX3_become_28 : decode cX3_become 28 = .ok (.aload_n 0, 1) := by decide +kernel
theorem dX3_become_29 : decode cX3_become 29 = .ok (.aload_n 1, 1) := by decide +kernel
theorem dX3_become_30 : decode cX3_become 30 = .ok (.getfield 22, 3) := by decide +kernel
theorem dX3_become_33 : decode cX3_become 33 = .ok (.putfield 22, 3) := by decide +kernel
theorem dX3_become_36 : decode cX3_become 36 = .ok (.aload_n 0, 1) := by decide +kernel
theorem dX3_become_37 : decode cX3_become 37 = .ok (.aload_n 1, 1) := by decide +kernel
theorem dX3_become_38 : decode cX3_become 38 = .ok (.getfield 26, 3) := by decide +kernel
theorem dX3_become_41 : decode cX3_become 41 = .ok (.putfield 26, 3) := by decide +kernel
theorem dX3_become_44 : decode cX3_become 44 = .ok (.aload_n 0, 1) := by decide +kernel
theorem dX3_become_45 : decode cX3_become 45 = .ok (.aload_n 1, 1) := by decide +kernel
theorem dX3_become_46 : decode cX3_become 46 = .ok (.getfield 29, 3) := by decide +kernel
theorem dX3_become_49 : decode cX3_become 49 = .ok (.putfield 29, 3) := by decide +kernel
theorem dX3_become_52 : decode cX3_become 52 = .ok (.aload_n 0, 1) := by decide +kernel
theorem dX3_become_53 : decode cX3_become 53 = .ok (.aload_n 1, 1) := by decide +kernel
theorem dX3_become_54 : decode cX3_become 54 = .ok (.getfield 32, 3) := by decide +kernel
theorem dX3_become_57 : decode cX3_become 57 = .ok (.putfield 32, 3) := by decide +kernel
theorem dX3_become_60 : decode cX3_become 60 = .ok (.aload_n 0, 1) := by decide +kernel
theorem dX3_become_61 : decode cX3_become 61 = .ok (.aload_n 1, 1) := by decide +kernel
theorem dX3_become_62 : decode cX3_become 62 = .ok (.getfield 35, 3) := by decide +kernel
theorem dX3_become_65 : decode cX3_become 65 = .ok (.putfield 35, 3) := by decide +kernel
theorem dX3_become_68 : decode cX3_become 68 = .ok (.return_, 1) := by decide +kernel
theorem dX3_replace_0 : decode cX3_replace 0 = .ok (.aload_n 0, 1) := by decide +kernel
theorem dX3_replace_1 : decode cX3_replace 1 = .ok (.getfield 11, 3) := by decide +kernel
theorem dX3_replace_4 : decode cX3_replace 4 = .ok (.iload_n 2, 1) := by decide +kernel
theorem dX3_replace_5 : decode cX3_replace 5 = .ok (.aaload, 1) := by decide +kernel
theorem dX3_replace_6 : decode cX3_replace 6 = .ok (.iload_n 1, 1) := by decide +kernel
theorem dX3_replace_7 : decode cX3_replace 7 = .ok (.iload_n 3, 1) := by decide +kernel
theorem dX3_replace_8 : decode cX3_replace 8 = .ok (.iconst 0, 1) := by decide +kernel
theorem dX3_replace_9 : decode cX3_replace 9 = .ok (.invokevirtual 38, 3) := by decide +kernel
theorem dX3_replace_12 : decode cX3_replace 12 = .ok (.istore 5, 2) := by decide +kernel
theorem dX3_replace_14 : decode cX3_replace 14 = .ok (.aload_n 0, 1) := by decide +kernel
theorem dX3_replace_15 : decode cX3_replace 15 = .ok (.getfield 11, 3) := by decide +kernel
theorem dX3_replace_18 : decode cX3_replace 18 = .ok (.iload_n 2, 1) := by decide +kernel
theorem dX3_replace_19 : decode cX3_replace 19 = .ok (.aaload, 1) := by decide +kernel
theorem dX3_replace_20 : decode cX3_replace 20 = .ok (.iload_n 1, 1) := by decide +kernel
theorem dX3_replace_21 : decode cX3_replace 21 = .ok (.iload_n 3, 1) := by decide +kernel
theorem dX3_replace_22 : decode cX3_replace 22 = .ok (.iload 4, 2) := by decide +kernel
theorem dX3_replace_24 : decode cX3_replace 24 = .ok (.invokevirtual 42, 3) := by decide +kernel
theorem dX3_replace_27 : decode cX3_replace 27 = .ok (.aload_n 0, 1) := by decide +kernel
theorem dX3_replace_28 : decode cX3_replace 28 = .ok (.dup, 1) := by decide +kernel
theorem dX3_replace_29 : decode cX3_replace 29 = .ok (.getfield 22, 3) := by decide +kernel
theorem dX3_replace_32 : decode cX3_replace 32 = .ok (.iconst 1, 1) := by decide +kernel
theorem dX3_replace_33 : decode cX3_replace 33 = .ok (.iadd, 1) := by decide +kernel
theorem dX3_replace_34 : decode cX3_replace 34 = .ok (.putfield 22, 3) := by decide +kernel
theorem dX3_replace_37 : decode cX3_replace 37 = .ok (.aload_n 0, 1) := by decide +kernel
theorem dX3_replace_38 : decode cX3_replace 38 = .ok (.dup, 1) := by decide +kernel
theorem dX3_replace_39 : decode cX3_replace 39 = .ok (.getfield 26, 3) := by decide +kernel
theorem dX3_replace_42 : decode cX3_replace 42 = .ok (.iload 5, 2) := by decide +kernel
theorem dX3_replace_44 : decode cX3_replace 44 = .ok (.iadd, 1) := by decide +kernel
theorem dX3_replace_45 : decode cX3_replace 45 = .ok (.putfield 26, 3) := by decide +kernel
theorem dX3_replace_48 : decode cX3_replace 48 = .ok (.iload 5, 2) := by decide +kernel
theorem dX3_replace_50 : decode cX3_replace 50 = .ok (.ireturn, 1) := by decide +kernel
theorem dX3_bring_0 : decode cX3_bring 0 = .ok (.aload_n 0, 1) := by decide +kernel
theorem dX3_bring_1 : decode cX3_bring 1 = .ok (.getfield 11, 3) := by decide +kernel
theorem dX3_bring_4 : decode cX3_bring 4 = .ok (.iload_n 3, 1) := by decide +kernel
theorem dX3_bring_5 : decode cX3_bring 5 = .ok (.aaload, 1) := by decide +kernel
theorem dX3_bring_6 : decode cX3_bring 6 = .ok (.iload_n 1, 1) := by decide +kernel
theorem dX3_bring_7 : decode cX3_bring 7 = .ok (.iload_n 2, 1) := by decide +kernel
theorem dX3_bring_8 : decode cX3_bring 8 = .ok (.iconst 0, 1) := by decide +kernel
theorem dX3_bring_9 : decode cX3_bring 9 = .ok (.invokevirtual 46, 3) := by decide +kernel
theorem dX3_bring_12 : decode cX3_bring 12 = .ok (.istore 4, 2) := by decide +kernel
theorem dX3_bring_14 : decode cX3_bring 14 = .ok (.aload_n 0, 1) := by decide +kernel
theorem dX3_bring_15 : decode cX3_bring 15 = .ok (.getfield 11, 3) := by decide +kernel
theorem dX3_bring_18 : decode cX3_bring 18 = .ok (.iload_n 3, 1) := by decide +kernel
theorem dX3_bring_19 : decode cX3_bring 19 = .ok (.aaload, 1) := by decide +kernel
theorem dX3_bring_20 : decode cX3_bring 20 = .ok (.getfield 49, 3) := by decide +kernel
theorem dX3_bring_23 : decode cX3_bring 23 = .ok (.iload_n 1, 1) := by decide +kernel
theorem dX3_bring_24 : decode cX3_bring 24 = .ok (.aaload, 1) := by decide +kernel
theorem dX3_bring_25 : decode cX3_bring 25 = .ok (.aload_n 0, 1) := by decide +kernel
theorem dX3_bring_26 : decode cX3_bring 26 = .ok (.getfield 11, 3) := by decide +kernel
theorem dX3_bring_29 : decode cX3_bring 29 = .ok (.iload_n 3, 1) := by decide +kernel
theorem dX3_bring_30 : decode cX3_bring 30 = .ok (.aaload, 1) := by decide +kernel
theorem dX3_bring_31 : decode cX3_bring 31 = .ok (.getfield 49, 3) := by decide +kernel
theorem dX3_bring_34 : decode cX3_bring 34 = .ok (.iload_n 2, 1) := by decide +kernel
theorem dX3_bring_35 : decode cX3_bring 35 = .ok (.aaload, 1) := by decide +kernel
theorem dX3_bring_36 : decode cX3_bring 36 = .ok (.invokevirtual 53, 3) := by decide +kernel
theorem dX3_bring_39 : decode cX3_bring 39 = .ok (.aload_n 0, 1) := by decide +kernel
theorem dX3_bring_40 : decode cX3_bring 40 = .ok (.dup, 1) := by decide +kernel
theorem dX3_bring_41 : decode cX3_bring 41 = .ok (.getfield 29, 3) := by decide +kernel
theorem dX3_bring_44 : decode cX3_bring 44 = .ok (.iload 4, 2) := by decide +kernel
theorem dX3_bring_46 : decode cX3_bring 46 = .ok (.iadd, 1) := by decide +kernel
theorem dX3_bring_47 : decode cX3_bring 47 = .ok (.putfield 29, 3) := by decide +kernel
theorem dX3_bring_50 : decode cX3_bring 50 = .ok (.iload 4, 2) := by decide +kernel
theorem dX3_bring_52 : decode cX3_bring 52 = .ok (.ireturn, 1) := by decide +kernel
theorem dX3_bringAll_0 : decode cX3_bringAll 0 = .ok (.iconst 0, 1) := by decide +kernel
theorem dX3_bringAll_1 : decode cX3_bringAll 1 = .ok (.istore_n 1, 1) := by decide +kernel
theorem dX3_bringAll_2 : decode cX3_bringAll 2 = .ok (.iload_n 1, 1) := by decide +kernel
theorem dX3_bringAll_3 : decode cX3_bringAll 3 = .ok (.iconst 3, 1) := by decide +kernel
theorem dX3_bringAll_4 : decode cX3_bringAll 4 = .ok (.if_icmp .ge 69, 3) := by decide +kernel
theorem dX3_bringAll_7 : decode cX3_bringAll 7 = .ok (.iconst 0, 1) := by decide +kernel
theorem dX3_bringAll_8 : decode cX3_bringAll 8 = .ok (.istore_n 2, 1) := by decide +kernel
theorem dX3_bringAll_9 : decode cX3_bringAll 9 = .ok (.iload_n 2, 1) := by decide +kernel
theorem dX3_bringAll_10 : decode cX3_bringAll 10 = .ok (.iconst 3, 1) := by decide +kernel
theorem dX3_bringAll_11 : decode cX3_bringAll 11 = .ok (.if_icmp .ge 56, 3) := by decide +kernel
theorem dX3_bringAll_14 : decode cX3_bringAll 14 = .ok (.iconst 0, 1) := by decide +kernel
theorem dX3_bringAll_15 : decode cX3_bringAll 15 = .ok (.istore_n 3, 1) := by decide +kernel
theorem dX3_bringAll_16 : decode cX3_bringAll 16 = .ok (.iload_n 3, 1) := by decide +kernel
theorem dX3_bringAll_17 : decode cX3_bringAll 17 = .ok (.iconst 3, 1) := by decide +kernel
theorem dX3_bringAll_18 : decode cX3_bringAll 18 = .ok (.if_icmp .ge 43, 3) := by decide +kernel
theorem dX3_bringAll_21 : decode cX3_bringAll 21 = .ok (.iload_n 2, 1) := by decide +kernel
theorem dX3_bringAll_22 : decode cX3_bringAll 22 = .ok (.iload_n 3, 1) := by decide +kernel
theorem dX3_bringAll_23 : decode cX3_bringAll 23 = .ok (.if_icmp .eq 19, 3) := by decide +kernel
theorem dX3_bringAll_26 : decode cX3_bringAll 26 = .ok (.aload_n 0, 1) := by decide +kernel
theorem dX3_bringAll_27 : decode cX3_bringAll 27 = .ok (.getfield 11, 3) := by decide +kernel
theorem dX3_bringAll_30 : decode cX3_bringAll 30 = .ok (.iload_n 1, 1) := by decide +kernel
theorem dX3_bringAll_31 : decode cX3_bringAll 31 = .ok (.aaload, 1) := by decide +kernel
theorem dX3_bringAll_32 : decode cX3_bringAll 32 = .ok (.iload_n 2, 1) := by decide +kernel
theorem dX3_bringAll_33 : decode cX3_bringAll 33 = .ok (.iload_n 3, 1) := by decide +kernel
theorem dX3_bringAll_34 : decode cX3_bringAll 34 = .ok (.invokevirtual 59, 3) := by decide +kernel
theorem dX3_bringAll_37 : decode cX3_bringAll 37 = .ok (.ifCond .ne 5, 3) := by decide +kernel
theorem dX3_bringAll_40 : decode cX3_bringAll 40 = .ok (.iconst 0, 1) := by decide +kernel
theorem dX3_bringAll_41 : decode cX3_bringAll 41 = .ok (.ireturn, 1) := by decide +kernel
theorem dX3_bringAll_42 : decode cX3_bringAll 42 = .ok (.iload_n 2, 1) := by decide +kernel
theorem dX3_bringAll_43 : decode cX3_bringAll 43 = .ok (.iload_n 3, 1) := by decide +kernel
theorem dX3_bringAll_44 : decode cX3_bringAll 44 = .ok (.if_icmp .eq 11, 3) := by decide +kernel
theorem dX3_bringAll_47 : decode cX3_bringAll 47 = .ok (.aload_n 0, 1) := by decide +kernel
theorem dX3_bringAll_48 : decode cX3_bringAll 48 = .ok (.iload_n 2, 1) := by decide +kernel
theorem dX3_bringAll_49 : decode cX3_bringAll 49 = .ok (.iload_n 3, 1) := by decide +kernel
theorem dX3_bringAll_50 : decode cX3_bringAll 50 = .ok (.iload_n 1, 1) := by decide +kernel
theorem dX3_bringAll_51 : decode cX3_bringAll 51 = .ok (.invokevirtual 63, 3) := by decide +kernel
theorem dX3_bringAll_54 : decode cX3_bringAll 54 = .ok (.pop, 1) := by decide +kernel
theorem dX3_bringAll_55 : decode cX3_bringAll 55 = .ok (.iinc 3 1, 3) := by decide +kernel
theorem dX3_bringAll_58 : decode cX3_bringAll 58 = .ok (.goto (-42), 3) := by decide +kernel
theorem dX3_bringAll_61 : decode cX3_bringAll 61 = .ok (.iinc 2 1, 3) := by decide +kernel
theorem dX3_bringAll_64 : decode cX3_bringAll 64 = .ok (.goto (-55), 3) := by decide +kernel
theorem dX3_bringAll_67 : decode cX3_bringAll 67 = .ok (.iinc 1 1, 3) := by decide +kernel
theorem dX3_bringAll_70 : decode cX3_bringAll 70 = .ok (.goto (-68), 3) := by decide +kernel
theorem dX3_bringAll_73 : decode cX3_bringAll 73 = .ok (.iconst 1, 1) := by decide +kernel
theorem dX3_bringAll_74 : decode cX3_bringAll 74 = .ok (.ireturn, 1) := by decide +kernel
theorem dX3_siblingsInAll_0 : decode cX3_siblingsInAll 0 = .ok (.iconst 0, 1) := by decide +kernel
theorem dX3_siblingsInAll_1 : decode cX3_siblingsInAll 1 = .ok (.istore_n 1, 1) := by decide +kernel
theorem dX3_siblingsInAll_2 : decode cX3_siblingsInAll 2 = .ok (.iconst 0, 1) := by decide +kernel
theorem dX3_siblingsInAll_3 : decode cX3_siblingsInAll 3 = .ok (.istore_n 2, 1) := by decide +kernel
theorem dX3_siblingsInAll_4 : decode cX3_siblingsInAll 4 = .ok (.iload_n 2, 1) := by decide +kernel
theorem dX3_siblingsInAll_5 : decode cX3_siblingsInAll 5 = .ok (.iconst 3, 1) := by decide +kernel
theorem dX3_siblingsInAll_6 : decode cX3_siblingsInAll 6 = .ok (.if_icmp .ge 39, 3) := by decide +kernel
theorem dX3_siblingsInAll_9 : decode cX3_siblingsInAll 9 = .ok (.iconst 0, 1) := by decide +kernel
theorem dX3_siblingsInAll_10 : decode cX3_siblingsInAll 10 = .ok (.istore_n 3, 1) := by decide +kernel
theorem dX3_siblingsInAll_11 : decode cX3_siblingsInAll 11 = .ok (.iload_n 3, 1) := by decide +kernel
theorem dX3_siblingsInAll_12 : decode cX3_siblingsInAll 12 = .ok (.iconst 3, 1) := by decide +kernel
theorem dX3_siblingsInAll_13 : decode cX3_siblingsInAll 13 = .ok (.if_icmp .ge 26, 3) := by decide +kernel
theorem dX3_siblingsInAll_16 : decode cX3_siblingsInAll 16 = .ok (.iload_n 1, 1) := by decide +kernel
theorem dX3_siblingsInAll_17 : decode cX3_siblingsInAll 17 = .ok (.aload_n 0, 1) := by decide +kernel
theorem dX3_siblingsInAll_18 : decode cX3_siblingsInAll 18 = .ok (.getfield 11, 3) := by decide +kernel
theorem dX3_siblingsInAll_21 : decode cX3_siblingsInAll 21 = .ok (.iload_n 2, 1) := by decide +kernel
theorem dX3_siblingsInAll_22 : decode cX3_siblingsInAll 22 = .ok (.aaload, 1) := by decide +kernel
theorem dX3_siblingsInAll_23 : decode cX3_siblingsInAll 23 = .ok (.getfield 49, 3) := by decide +kernel
theorem dX3_siblingsInAll_26 : decode cX3_siblingsInAll 26 = .ok (.iload_n 3, 1) := by decide +kernel
theorem dX3_siblingsInAll_27 : decode cX3_siblingsInAll 27 = .ok (.aaload, 1) := by decide +kernel
theorem dX3_siblingsInAll_28 : decode cX3_siblingsInAll 28 = .ok (.getfield 66, 3) := by decide +kernel
theorem dX3_siblingsInAll_31 : decode cX3_siblingsInAll 31 = .ok (.iadd, 1) := by decide +kernel
theorem dX3_siblingsInAll_32 : decode cX3_siblingsInAll 32 = .ok (.istore_n 1, 1) := by decide +kernel
theorem dX3_siblingsInAll_33 : decode cX3_siblingsInAll 33 = .ok (.iinc 3 1, 3) := by decide +kernel
theorem dX3_siblingsInAll_36 : decode cX3_siblingsInAll 36 = .ok (.goto (-25), 3) := by decide +kernel
theorem dX3_siblingsInAll_39 : decode cX3_siblingsInAll 39 = .ok (.iinc 2 1, 3) := by decide +kernel
theorem dX3_siblingsInAll_42 : decode cX3_siblingsInAll 42 = .ok (.goto (-38), 3) := by decide +kernel
theorem dX3_siblingsInAll_45 : decode cX3_siblingsInAll 45 = .ok (.iload_n 1, 1) := by decide +kernel
theorem dX3_siblingsInAll_46 : decode cX3_siblingsInAll 46 = .ok (.ireturn, 1) := by decide +kernel
theorem dX3_mostSiblings_0 : decode cX3_mostSiblings 0 = .ok (.iconst 0, 1) := by decide +kernel
theorem dX3_mostSiblings_1 : decode cX3_mostSiblings 1 = .ok (.istore_n 1, 1) := by decide +kernel
theorem dX3_mostSiblings_2 : decode cX3_mostSiblings 2 = .ok (.iconst 0, 1) := by decide +kernel
theorem dX3_mostSiblings_3 : decode cX3_mostSiblings 3 = .ok (.istore_n 2, 1) := by decide +kernel
theorem dX3_mostSiblings_4 : decode cX3_mostSiblings 4 = .ok (.iload_n 2, 1) := by decide +kernel
theorem dX3_mostSiblings_5 : decode cX3_mostSiblings 5 = .ok (.iconst 3, 1) := by decide +kernel
theorem dX3_mostSiblings_6 : decode cX3_mostSiblings 6 = .ok (.if_icmp .ge 41, 3) := by decide +kernel
theorem dX3_mostSiblings_9 : decode cX3_mostSiblings 9 = .ok (.iconst 0, 1) := by decide +kernel
theorem dX3_mostSiblings_10 : decode cX3_mostSiblings 10 = .ok (.istore_n 3, 1) := by decide +kernel
theorem dX3_mostSiblings_11 : decode cX3_mostSiblings 11 = .ok (.iload_n 3, 1) := by decide +kernel
theorem dX3_mostSiblings_12 : decode cX3_mostSiblings 12 = .ok (.iconst 3, 1) := by decide +kernel
theorem dX3_mostSiblings_13 : decode cX3_mostSiblings 13 = .ok (.if_icmp .ge 28, 3) := by decide +kernel
theorem dX3_mostSiblings_16 : decode cX3_mostSiblings 16 = .ok (.iload_n 1, 1) := by decide +kernel
theorem dX3_mostSiblings_17 : decode cX3_mostSiblings 17 = .ok (.aload_n 0, 1) := by decide +kernel
theorem dX3_mostSiblings_18 : decode cX3_mostSiblings 18 = .ok (.getfield 11, 3) := by decide +kernel
theorem dX3_mostSiblings_21 : decode cX3_mostSiblings 21 = .ok (.iload_n 2, 1) := by decide +kernel
theorem dX3_mostSiblings_22 : decode cX3_mostSiblings 22 = .ok (.aaload, 1) := by decide +kernel
theorem dX3_mostSiblings_23 : decode cX3_mostSiblings 23 = .ok (.getfield 49, 3) := by decide +kernel
theorem dX3_mostSiblings_26 : decode cX3_mostSiblings 26 = .ok (.iload_n 3, 1) := by decide +kernel
theorem dX3_mostSiblings_27 : decode cX3_mostSiblings 27 = .ok (.aaload, 1) := by decide +kernel
theorem dX3_mostSiblings_28 : decode cX3_mostSiblings 28 = .ok (.getfield 66, 3) := by decide +kernel
theorem dX3_mostSiblings_31 : decode cX3_mostSiblings 31 = .ok (.invokestatic 69, 3) := by decide +kernel
theorem dX3_mostSiblings_34 : decode cX3_mostSiblings 34 = .ok (.istore_n 1, 1) := by decide +kernel
theorem dX3_mostSiblings_35 : decode cX3_mostSiblings 35 = .ok (.iinc 3 1, 3) := by decide +kernel
theorem dX3_mostSiblings_38 : decode cX3_mostSiblings 38 = .ok (.goto (-27), 3) := by decide +kernel
theorem dX3_mostSiblings_41 : decode cX3_mostSiblings 41 = .ok (.iinc 2 1, 3) := by decide +kernel
theorem dX3_mostSiblings_44 : decode cX3_mostSiblings 44 = .ok (.goto (-40), 3) := by decide +kernel
theorem dX3_mostSiblings_47 : decode cX3_mostSiblings 47 = .ok (.iload_n 1, 1) := by decide +kernel
theorem dX3_mostSiblings_48 : decode cX3_mostSiblings 48 = .ok (.ireturn, 1) := by decide +kernel
theorem dX4_init_0 : decode cX4_init 0 = .ok (.aload_n 0, 1) := by decide +kernel
theorem dX4_init_1 : decode cX4_init 1 = .ok (.invokespecial 1, 3) := by decide +kernel
theorem dX4_init_4 : decode cX4_init 4 = .ok (.aload_n 0, 1) := by decide +kernel
theorem dX4_init_5 : decode cX4_init 5 = .ok (.new 7, 3) := by decide +kernel
theorem dX4_init_8 : decode cX4_init 8 = .ok (.dup, 1) := by decide +kernel
theorem dX4_init_9 : decode cX4_init 9 = .ok (.invokespecial 9, 3) := by decide +kernel
theorem dX4_init_12 : decode cX4_init 12 = .ok (.putfield 10, 3) := by decide +kernel
theorem dX4_init_15 : decode cX4_init 15 = .ok (.aload_n 0, 1) := by decide +kernel
theorem dX4_init_16 : decode cX4_init 16 = .ok (.new 7, 3) := by decide +kernel
theorem dX4_init_19 : decode cX4_init 19 = .ok (.dup, 1) := by decide +kernel
theorem dX4_init_20 : decode cX4_init 20 = .ok (.invokespecial 9, 3) := by decide +kernel
theorem dX4_init_23 : decode cX4_init 23 = .ok (.putfield 16, 3) := by decide +kernel
theorem dX4_init_26 : decode cX4_init 26 = .ok (.aload_n 0, 1) := by decide +kernel
theorem dX4_init_27 : decode cX4_init 27 = .ok (.bipush 6, 2) := by decide +kernel
theorem dX4_init_29 : decode cX4_init 29 = .ok (.anewarray 7, 3) := by decide +kernel
theorem dX4_init_32 : decode cX4_init 32 = .ok (.putfield 19, 3) := by decide +kernel
theorem dX4_init_35 : decode cX4_init 35 = .ok (.aload_n 0, 1) := by decide +kernel
theorem dX4_init_36 : decode cX4_init 36 = .ok (.bipush 60, 2) := by decide +kernel
theorem dX4_init_38 : decode cX4_init 38 = .ok (.newarray .int, 2) := by decide +kernel
theorem dX4_init_40 : decode cX4_init 40 = .ok (.putfield 23, 3) := by decide +kernel
theorem dX4_init_43 : decode cX4_init 43 = .ok (.aload_n 0, 1) := by decide +kernel
theorem dX4_init_44 : decode cX4_init 44 = .ok (.new 27, 3) := by decide +kernel
theorem dX4_init_47 : decode cX4_init 47 = .ok (.dup, 1) := by decide +kernel
theorem dX4_init_48 : decode cX4_init 48 = .ok (.invokespecial 29, 3) := by decide +kernel
theorem dX4_init_51 : decode cX4_init 51 = .ok (.putfield 30, 3) := by decide +kernel
theorem dX4_init_54 : decode cX4_init 54 = .ok (.iconst 0, 1) := by decide +kernel
theorem dX4_init_55 : decode cX4_init 55 = .ok (.istore_n 1, 1) := by decide +kernel
theorem dX4_init_56 : decode cX4_init 56 = .ok (.iload_n 1, 1) := by decide +kernel
theorem dX4_init_57 : decode cX4_init 57 = .ok (.bipush 6, 2) := by decide +kernel
theorem dX4_init_59 : decode cX4_init 59 = .ok (.if_icmp .ge 22, 3) := by decide +kernel
theorem dX4_init_62 : decode cX4_init 62 = .ok (.aload_n 0, 1) := by decide +kernel
theorem dX4_init_63 : decode cX4_init 63 = .ok (.getfield 19, 3) := by decide +kernel
theorem dX4_init_66 : decode cX4_init 66 = .ok (.iload_n 1, 1) := by decide +kernel
theorem dX4_init_67 : decode cX4_init 67 = .ok (.new 7, 3) := by decide +kernel
theorem dX4_init_70 : decode cX4_init 70 = .ok (.dup, 1) := by decide +kernel
theorem dX4_init_71 : decode cX4_init 71 = .ok (.invokespecial 9, 3) := by decide +kernel
theorem dX4_init_74 : decode cX4_init 74 = .ok (.aastore, 1) := by decide +kernel
theorem dX4_init_75 : decode cX4_init 75 = .ok (.iinc 1 1, 3) := by decide +kernel
theorem dX4_init_78 : decode cX4_init 78 = .ok (.goto (-22), 3) := by decide +kernel
theorem dX4_init_81 : decode cX4_init 81 = .ok (.return_, 1) := by decide +kernel
theorem dX4_read_0 : decode cX4_read 0 = .ok (.iload_n 1, 1) := by decide +kernel
theorem dX4_read_1 : decode cX4_read 1 = .ok (.iload_n 2, 1) := by decide +kernel
theorem dX4_read_2 : decode cX4_read 2 = .ok (.iload_n 3, 1) := by decide +kernel
theorem dX4_read_3 : decode cX4_read 3 = .ok (.invokestatic 34, 3) := by decide +kernel
theorem dX4_read_6 : decode cX4_read 6 = .ok (.aload_n 0, 1) := by decide +kernel
theorem dX4_read_7 : decode cX4_read 7 = .ok (.invokevirtual 38, 3) := by decide +kernel
theorem dX4_read_10 : decode cX4_read 10 = .ok (.aload_n 0, 1) := by decide +kernel
theorem dX4_read_11 : decode cX4_read 11 = .ok (.getfield 10, 3) := by decide +kernel
theorem dX4_read_14 : decode cX4_read 14 = .ok (.getfield 41, 3) := by decide +kernel
theorem dX4_read_17 : decode cX4_read 17 = .ok (.iload_n 2, 1) := by decide +kernel
theorem dX4_read_18 : decode cX4_read 18 = .ok (.aaload, 1) := by decide +kernel
theorem dX4_read_19 : decode cX4_read 19 = .ok (.astore 4, 2) := by decide +kernel
theorem dX4_read_21 : decode cX4_read 21 = .ok (.aload 4, 2) := by decide +kernel
theorem dX4_read_23 : decode cX4_read 23 = .ok (.iload_n 1, 1) := by decide +kernel
theorem dX4_read_24 : decode cX4_read 24 = .ok (.iload_n 3, 1) := by decide +kernel
theorem dX4_read_25 : decode cX4_read 25 = .ok (.invokevirtual 45, 3) := by decide +kernel
theorem dX4_read_28 : decode cX4_read 28 = .ok (.aload 4, 2) := by decide +kernel
theorem dX4_read_30 : decode cX4_read 30 = .ok (.getfield 51, 3) := by decide +kernel
theorem dX4_read_33 : decode cX4_read 33 = .ok (.iload_n 3, 1) := by decide +kernel
theorem dX4_read_34 : decode cX4_read 34 = .ok (.aaload, 1) := by decide +kernel
theorem dX4_read_35 : decode cX4_read 35 = .ok (.getfield 55, 3) := by decide +kernel
theorem dX4_read_38 : decode cX4_read 38 = .ok (.ireturn, 1) := by decide +kernel
theorem dX4_write_0 : decode cX4_write 0 = .ok (.iload_n 1, 1) := by decide +kernel
theorem dX4_write_1 : decode cX4_write 1 = .ok (.iload_n 2, 1) := by decide +kernel
theorem dX4_write_2 : decode cX4_write 2 = .ok (.iload_n 3, 1) := by decide +kernel
theorem dX4_write_3 : decode cX4_write 3 = .ok (.invokestatic 34, 3) := by decide +kernel
theorem dX4_write_6 : decode cX4_write 6 = .ok (.iload 4, 2) := by decide +kernel
theorem dX4_write_8 : decode cX4_write 8 = .ok (.bipush 99, 2) := by decide +kernel
theorem dX4_write_10 : decode cX4_write 10 = .ok (.invokestatic 61, 3) := by decide +kernel
theorem dX4_write_13 : decode cX4_write 13 = .ok (.aload_n 0, 1) := by decide +kernel
theorem dX4_write_14 : decode cX4_write 14 = .ok (.getfield 10, 3) := by decide +kernel
theorem dX4_write_17 : decode cX4_write 17 = .ok (.getfield 41, 3) := by decide +kernel
theorem dX4_write_20 : decode cX4_write 20 = .ok (.iload_n 2, 1) := by decide +kernel
theorem dX4_write_21 : decode cX4_write 21 = .ok (.aaload, 1) := by decide +kernel
theorem dX4_write_22 : decode cX4_write 22 = .ok (.iload_n 1, 1) := by decide +kernel
theorem dX4_write_23 : decode cX4_write 23 = .ok (.iload_n 3, 1) := by decide +kernel
theorem dX4_write_24 : decode cX4_write 24 = .ok (.invokevirtual 64, 3) := by decide +kernel
theorem dX4_write_27 : decode cX4_write 27 = .ok (.ifCond .ne 13, 3) := by decide +kernel
theorem dX4_write_30 : decode cX4_write 30 = .ok (.new 68, 3) := by decide +kernel
theorem dX4_write_33 : decode cX4_write 33 = .ok (.dup, 1) := by decide +kernel
theorem dX4_write_34 : decode cX4_write 34 = .ok (.ldc 70, 2) := by decide +kernel
theorem dX4_write_36 : decode cX4_write 36 = .ok (.invokespecial 72, 3) := by decide +kernel
theorem dX4_write_39 : decode cX4_write 39 = .ok (.athrow, 1) := by decide +kernel
theorem dX4_write_40 : decode cX4_write 40 = .ok (.aload_n 0, 1) := by decide +kernel
theorem dX4_write_41 : decode cX4_write 41 = .ok (.invokevirtual 38, 3) := by decide +kernel
theorem dX4_write_44 : decode cX4_write 44 = .ok (.aload_n 0, 1) := by decide +kernel
theorem dX4_write_45 : decode cX4_write 45 = .ok (.getfield 10, 3) := by decide +kernel
theorem dX4_write_48 : decode cX4_write 48 = .ok (.iload_n 1, 1) := by decide +kernel
theorem dX4_write_49 : decode cX4_write 49 = .ok (.iload_n 2, 1) := by decide +kernel
theorem dX4_write_50 : decode cX4_write 50 = .ok (.iload_n 3, 1) := by decide +kernel
theorem dX4_write_51 : decode cX4_write 51 = .ok (.iload 4, 2) := by decide +kernel
theorem dX4_write_53 : decode cX4_write 53 = .ok (.invokevirtual 75, 3) := by decide +kernel
theorem dX4_write_56 : decode cX4_write 56 = .ok (.ireturn, 1) := by decide +kernel
theorem dX4_pull_0 : decode cX4_pull 0 = .ok (.iload_n 1, 1) := by decide +kernel
theorem dX4_pull_1 : decode cX4_pull 1 = .ok (.iload_n 2, 1) := by decide +kernel
theorem dX4_pull_2 : decode cX4_pull 2 = .ok (.iload_n 3, 1) := by decide +kernel
theorem dX4_pull_3 : decode cX4_pull 3 = .ok (.invokestatic 79, 3) := by decide +kernel
theorem dX4_pull_6 : decode cX4_pull 6 = .ok (.aload_n 0, 1) := by decide +kernel
theorem dX4_pull_7 : decode cX4_pull 7 = .ok (.getfield 10, 3) := by decide +kernel
theorem dX4_pull_10 : decode cX4_pull 10 = .ok (.getfield 41, 3) := by decide +kernel
theorem dX4_pull_13 : decode cX4_pull 13 = .ok (.iload_n 3, 1) := by decide +kernel
theorem dX4_pull_14 : decode cX4_pull 14 = .ok (.aaload, 1) := by decide +kernel
theorem dX4_pull_15 : decode cX4_pull 15 = .ok (.iload_n 1, 1) := by decide +kernel
theorem dX4_pull_16 : decode cX4_pull 16 = .ok (.iload_n 2, 1) := by decide +kernel
theorem dX4_pull_17 : decode cX4_pull 17 = .ok (.invokevirtual 82, 3) := by decide +kernel
theorem dX4_pull_20 : decode cX4_pull 20 = .ok (.ifCond .ne 13, 3) := by decide +kernel
theorem dX4_pull_23 : decode cX4_pull 23 = .ok (.new 68, 3) := by decide +kernel
theorem dX4_pull_26 : decode cX4_pull 26 = .ok (.dup, 1) := by decide +kernel
theorem dX4_pull_27 : decode cX4_pull 27 = .ok (.ldc 85, 2) := by decide +kernel
theorem dX4_pull_29 : decode cX4_pull 29 = .ok (.invokespecial 72, 3) := by decide +kernel
theorem dX4_pull_32 : decode cX4_pull 32 = .ok (.athrow, 1) := by decide +kernel
theorem dX4_pull_33 : decode cX4_pull 33 = .ok (.aload_n 0, 1) := by decide +kernel
theorem dX4_pull_34 : decode cX4_pull 34 = .ok (.invokevirtual 38, 3) := by decide +kernel
theorem dX4_pull_37 : decode cX4_pull 37 = .ok (.aload_n 0, 1) := by decide +kernel
theorem dX4_pull_38 : decode cX4_pull 38 = .ok (.getfield 10, 3) := by decide +kernel
theorem dX4_pull_41 : decode cX4_pull 41 = .ok (.iload_n 1, 1) := by decide +kernel
theorem dX4_pull_42 : decode cX4_pull 42 = .ok (.iload_n 2, 1) := by decide +kernel
theorem dX4_pull_43 : decode cX4_pull 43 = .ok (.iload_n 3, 1) := by decide +kernel
theorem dX4_pull_44 : decode cX4_pull 44 = .ok (.invokevirtual 87, 3) := by decide +kernel
theorem dX4_pull_47 : decode cX4_pull 47 = .ok (.ireturn, 1) := by decide +kernel
theorem dX4_join_0 : decode cX4_join 0 = .ok (.iload_n 1, 1) := by decide +kernel
theorem dX4_join_1 : decode cX4_join 1 = .ok (.iload_n 2, 1) := by decide +kernel
theorem dX4_join_2 : decode cX4_join 2 = .ok (.iload_n 3, 1) := by decide +kernel
theorem dX4_join_3 : decode cX4_join 3 = .ok (.invokestatic 34, 3) := by decide +kernel
theorem dX4_join_6 : decode cX4_join 6 = .ok (.iload 4, 2) := by decide +kernel
theorem dX4_join_8 : decode cX4_join 8 = .ok (.iconst 3, 1) := by decide +kernel
theorem dX4_join_9 : decode cX4_join 9 = .ok (.invokestatic 61, 3) := by decide +kernel
theorem dX4_join_12 : decode cX4_join 12 = .ok (.aload_n 0, 1) := by decide +kernel
theorem dX4_join_13 : decode cX4_join 13 = .ok (.getfield 10, 3) := by decide +kernel
theorem dX4_join_16 : decode cX4_join 16 = .ok (.getfield 41, 3) := by decide +kernel
theorem dX4_join_19 : decode cX4_join 19 = .ok (.iload_n 2, 1) := by decide +kernel
theorem dX4_join_20 : decode cX4_join 20 = .ok (.aaload, 1) := by decide +kernel
theorem dX4_join_21 : decode cX4_join 21 = .ok (.astore 5, 2) := by decide +kernel
theorem dX4_join_23 : decode cX4_join 23 = .ok (.aload 5, 2) := by decide +kernel
theorem dX4_join_25 : decode cX4_join 25 = .ok (.getfield 51, 3) := by decide +kernel
theorem dX4_join_28 : decode cX4_join 28 = .ok (.iload_n 3, 1) := by decide +kernel
theorem dX4_join_29 : decode cX4_join 29 = .ok (.aaload, 1) := by decide +kernel
theorem dX4_join_30 : decode cX4_join 30 = .ok (.getfield 55, 3) := by decide +kernel
theorem dX4_join_33 : decode cX4_join 33 = .ok (.ifCond .eq 16, 3) := by decide +kernel
theorem dX4_join_36 : decode cX4_join 36 = .ok (.aload 5, 2) := by decide +kernel
theorem dX4_join_38 : decode cX4_join 38 = .ok (.getfield 91, 3) := by decide +kernel
theorem dX4_join_41 : decode cX4_join 41 = .ok (.iload_n 1, 1) := by decide +kernel
theorem dX4_join_42 : decode cX4_join 42 = .ok (.iaload, 1) := by decide +kernel
theorem dX4_join_43 : decode cX4_join 43 = .ok (.sipush 999, 3) := by decide +kernel
theorem dX4_join_46 : decode cX4_join 46 = .ok (.if_icmp .lt 13, 3) := by decide +kernel
theorem dX4_join_49 : decode cX4_join 49 = .ok (.new 68, 3) := by decide +kernel
theorem dX4_join_52 : decode cX4_join 52 = .ok (.dup, 1) := by decide +kernel
theorem dX4_join_53 : decode cX4_join 53 = .ok (.ldc 94, 2) := by decide +kernel
theorem dX4_join_55 : decode cX4_join 55 = .ok (.invokespecial 72, 3) := by decide +kernel
theorem dX4_join_58 : decode cX4_join 58 = .ok (.athrow, 1) := by decide +kernel
theorem dX4_join_59 : decode cX4_join 59 = .ok (.aload_n 0, 1) := by decide +kernel
theorem dX4_join_60 : decode cX4_join 60 = .ok (.invokevirtual 38, 3) := by decide +kernel
theorem dX4_join_63 : decode cX4_join 63 = .ok (.aload 5, 2) := by decide +kernel
theorem dX4_join_65 : decode cX4_join 65 = .ok (.getfield 51, 3) := by decide +kernel
theorem dX4_join_68 : decode cX4_join 68 = .ok (.iload_n 3, 1) := by decide +kernel
theorem dX4_join_69 : decode cX4_join 69 = .ok (.aaload, 1) := by decide +kernel
theorem dX4_join_70 : decode cX4_join 70 = .ok (.iload 4, 2) := by decide +kernel
theorem dX4_join_72 : decode cX4_join 72 = .ok (.invokevirtual 96, 3) := by decide +kernel
theorem dX4_join_75 : decode cX4_join 75 = .ok (.istore 6, 2) := by decide +kernel
theorem dX4_join_77 : decode cX4_join 77 = .ok (.aload 5, 2) := by decide +kernel
theorem dX4_join_79 : decode cX4_join 79 = .ok (.iload_n 1, 1) := by decide +kernel
theorem dX4_join_80 : decode cX4_join 80 = .ok (.iload_n 3, 1) := by decide +kernel
theorem dX4_join_81 : decode cX4_join 81 = .ok (.invokevirtual 45, 3) := by decide +kernel
theorem dX4_join_84 : decode cX4_join 84 = .ok (.aload_n 0, 1) := by decide +kernel
theorem dX4_join_85 : decode cX4_join 85 = .ok (.getfield 10, 3) := by decide +kernel
theorem dX4_join_88 : decode cX4_join 88 = .ok (.iload_n 1, 1) := by decide +kernel
theorem dX4_join_89 : decode cX4_join 89 = .ok (.iload_n 2, 1) := by decide +kernel
theorem dX4_join_90 : decode cX4_join 90 = .ok (.iload_n 3, 1) := by decide +kernel
theorem dX4_join_91 : decode cX4_join 91 = .ok (.iload 6, 2) := by decide +kernel
theorem dX4_join_93 : decode cX4_join 93 = .ok (.invokevirtual 75, 3) := by decide +kernel
theorem dX4_join_96 : decode cX4_join 96 = .ok (.pop, 1) := by decide +kernel
theorem dX4_join_97 : decode cX4_join 97 = .ok (.aload_n 0, 1) := by decide +kernel
theorem dX4_join_98 : decode cX4_join 98 = .ok (.getfield 10, 3) := by decide +kernel
theorem dX4_join_101 : decode cX4_join 101 = .ok (.dup, 1) := by decide +kernel
theorem dX4_join_102 : decode cX4_join 102 = .ok (.getfield 100, 3) := by decide +kernel
theorem dX4_join_105 : decode cX4_join 105 = .ok (.iconst 1, 1) := by decide +kernel
theorem dX4_join_106 : decode cX4_join 106 = .ok (.iadd, 1) := by decide +kernel
theorem dX4_join_107 : decode cX4_join 107 = .ok (.putfield 100, 3) := by decide +kernel
theorem dX4_join_110 : decode cX4_join 110 = .ok (.iload 6, 2) := by decide +kernel
theorem dX4_join_112 : decode cX4_join 112 = .ok (.ireturn, 1) := by decide +kernel
theorem dX4_lose_0 : decode cX4_lose 0 = .ok (.iload_n 1, 1) := by decide +kernel
theorem dX4_lose_1 : decode cX4_lose 1 = .ok (.iconst 5, 1) := by decide +kernel
theorem dX4_lose_2 : decode cX4_lose 2 = .ok (.invokestatic 103, 3) := by decide +kernel
theorem dX4_lose_5 : decode cX4_lose 5 = .ok (.iload_n 2, 1) := by decide +kernel
theorem dX4_lose_6 : decode cX4_lose 6 = .ok (.iconst 3, 1) := by decide +kernel
theorem dX4_lose_7 : decode cX4_lose 7 = .ok (.invokestatic 103, 3) := by decide +kernel
theorem dX4_lose_10 : decode cX4_lose 10 = .ok (.aload_n 0, 1) := by decide +kernel
theorem dX4_lose_11 : decode cX4_lose 11 = .ok (.invokevirtual 38, 3) := by decide +kernel
theorem dX4_lose_14 : decode cX4_lose 14 = .ok (.aload_n 0, 1) := by decide +kernel
theorem dX4_lose_15 : decode cX4_lose 15 = .ok (.getfield 10, 3) := by decide +kernel
theorem dX4_lose_18 : decode cX4_lose 18 = .ok (.getfield 41, 3) := by decide +kernel
theorem dX4_lose_21 : decode cX4_lose 21 = .ok (.iload_n 2, 1) := by decide +kernel
theorem dX4_lose_22 : decode cX4_lose 22 = .ok (.aaload, 1) := by decide +kernel
theorem dX4_lose_23 : decode cX4_lose 23 = .ok (.iload_n 1, 1) := by decide +kernel
theorem dX4_lose_24 : decode cX4_lose 24 = .ok (.invokevirtual 106, 3) := by decide +kernel
theorem dX4_lose_27 : decode cX4_lose 27 = .ok (.ireturn, 1) := by decide +kernel
theorem dX4_forget_0 : decode cX4_forget 0 = .ok (.iload_n 1, 1) := by decide +kernel
theorem dX4_forget_1 : decode cX4_forget 1 = .ok (.iconst 5, 1) := by decide +kernel
theorem dX4_forget_2 : decode cX4_forget 2 = .ok (.invokestatic 103, 3) := by decide +kernel
theorem dX4_forget_5 : decode cX4_forget 5 = .ok (.iload_n 2, 1) := by decide +kernel
theorem dX4_forget_6 : decode cX4_forget 6 = .ok (.iconst 3, 1) := by decide +kernel
theorem dX4_forget_7 : decode cX4_forget 7 = .ok (.invokestatic 103, 3) := by decide +kernel
theorem dX4_forget_10 : decode cX4_forget 10 = .ok (.aload_n 0, 1) := by decide +kernel
theorem dX4_forget_11 : decode cX4_forget 11 = .ok (.getfield 10, 3) := by decide +kernel
theorem dX4_forget_14 : decode cX4_forget 14 = .ok (.getfield 41, 3) := by decide +kernel
theorem dX4_forget_17 : decode cX4_forget 17 = .ok (.iload_n 2, 1) := by decide +kernel
theorem dX4_forget_18 : decode cX4_forget 18 = .ok (.aaload, 1) := by decide +kernel
theorem dX4_forget_19 : decode cX4_forget 19 = .ok (.astore_n 3, 1) := by decide +kernel
theorem dX4_forget_20 : decode cX4_forget 20 = .ok (.aload_n 3, 1) := by decide +kernel
theorem dX4_forget_21 : decode cX4_forget 21 = .ok (.iload_n 1, 1) := by decide +kernel
theorem dX4_forget_22 : decode cX4_forget 22 = .ok (.invokevirtual 109, 3) := by decide +kernel
theorem dX4_forget_25 : decode cX4_forget 25 = .ok (.ifCond .eq 13, 3) := by decide +kernel
theorem dX4_forget_28 : decode cX4_forget 28 = .ok (.new 68, 3) := by decide +kernel
theorem dX4_forget_31 : decode cX4_forget 31 = .ok (.dup, 1) := by decide +kernel
theorem dX4_forget_32 : decode cX4_forget 32 = .ok (.ldc 112, 2) := by decide +kernel
theorem dX4_forget_34 : decode cX4_forget 34 = .ok (.invokespecial 72, 3) := by decide +kernel
theorem dX4_forget_37 : decode cX4_forget 37 = .ok (.athrow, 1) := by decide +kernel
theorem dX4_forget_38 : decode cX4_forget 38 = .ok (.aload_n 0, 1) := by decide +kernel
theorem dX4_forget_39 : decode cX4_forget 39 = .ok (.invokevirtual 38, 3) := by decide +kernel
theorem dX4_forget_42 : decode cX4_forget 42 = .ok (.aload_n 3, 1) := by decide +kernel
theorem dX4_forget_43 : decode cX4_forget 43 = .ok (.getfield 91, 3) := by decide +kernel
theorem dX4_forget_46 : decode cX4_forget 46 = .ok (.iload_n 1, 1) := by decide +kernel
theorem dX4_forget_47 : decode cX4_forget 47 = .ok (.iaload, 1) := by decide +kernel
theorem dX4_forget_48 : decode cX4_forget 48 = .ok (.istore 4, 2) := by decide +kernel
theorem dX4_forget_50 : decode cX4_forget 50 = .ok (.aload_n 3, 1) := by decide +kernel
theorem dX4_forget_51 : decode cX4_forget 51 = .ok (.iload_n 1, 1) := by decide +kernel
theorem dX4_forget_52 : decode cX4_forget 52 = .ok (.invokevirtual 114, 3) := by decide +kernel
theorem dX4_forget_55 : decode cX4_forget 55 = .ok (.aload_n 0, 1) := by decide +kernel
theorem dX4_forget_56 : decode cX4_forget 56 = .ok (.getfield 10, 3) := by decide +kernel
theorem dX4_forget_59 : decode cX4_forget 59 = .ok (.dup, 1) := by decide +kernel
theorem dX4_forget_60 : decode cX4_forget 60 = .ok (.getfield 118, 3) := by decide +kernel
theorem dX4_forget_63 : decode cX4_forget 63 = .ok (.iconst 1, 1) := by decide +kernel
theorem dX4_forget_64 : decode cX4_forget 64 = .ok (.iadd, 1) := by decide +kernel
theorem dX4_forget_65 : decode cX4_forget 65 = .ok (.putfield 118, 3) := by decide +kernel
theorem dX4_forget_68 : decode cX4_forget 68 = .ok (.iload 4, 2) := by decide +kernel
theorem dX4_forget_70 : decode cX4_forget 70 = .ok (.ireturn, 1) := by decide +kernel
theorem dX4_pullAll_0 : decode cX4_pullAll 0 = .ok (.aload_n 0, 1) := by decide +kernel
theorem dX4_pullAll_1 : decode cX4_pullAll 1 = .ok (.getfield 16, 3) := by decide +kernel
theorem dX4_pullAll_4 : decode cX4_pullAll 4 = .ok (.aload_n 0, 1) := by decide +kernel
theorem dX4_pullAll_5 : decode cX4_pullAll 5 = .ok (.getfield 10, 3) := by decide +kernel
theorem dX4_pullAll_8 : decode cX4_pullAll 8 = .ok (.invokevirtual 121, 3) := by decide +kernel
theorem dX4_pullAll_11 : decode cX4_pullAll 11 = .ok (.aload_n 0, 1) := by decide +kernel
theorem dX4_pullAll_12 : decode cX4_pullAll 12 = .ok (.getfield 16, 3) := by decide +kernel
theorem dX4_pullAll_15 : decode cX4_pullAll 15 = .ok (.invokevirtual 125, 3) := by decide +kernel
theorem dX4_pullAll_18 : decode cX4_pullAll 18 = .ok (.ifCond .ne 13, 3) := by decide +kernel
theorem dX4_pullAll_21 : decode cX4_pullAll 21 = .ok (.new 68, 3) := by decide +kernel
theorem dX4_pullAll_24 : decode cX4_pullAll 24 = .ok (.dup, 1) := by decide +kernel
theorem dX4_pullAll_25 : decode cX4_pullAll 25 = .ok (.ldc 85, 2) := by decide +kernel
theorem dX4_pullAll_27 : decode cX4_pullAll 27 = .ok (.invokespecial 72, 3) := by decide +kernel
theorem dX4_pullAll_30 : decode cX4_pullAll 30 = .ok (.athrow, 1) := by decide +kernel
theorem dX4_pullAll_31 : decode cX4_pullAll 31 = .ok (.aload_n 0, 1) := by decide +kernel
theorem dX4_pullAll_32 : decode cX4_pullAll 32 = .ok (.getfield 16, 3) := by decide +kernel
theorem dX4_pullAll_35 : decode cX4_pullAll 35 = .ok (.getfield 129, 3) := by decide +kernel
theorem dX4_pullAll_38 : decode cX4_pullAll 38 = .ok (.aload_n 0, 1) := by decide +kernel
theorem dX4_pullAll_39 : decode cX4_pullAll 39 = .ok (.getfield 10, 3) := by decide +kernel
theorem dX4_pullAll_42 : decode cX4_pullAll 42 = .ok (.getfield 129, 3) := by decide +kernel
theorem dX4_pullAll_45 : decode cX4_pullAll 45 = .ok (.isub, 1) := by decide +kernel
theorem dX4_pullAll_46 : decode cX4_pullAll 46 = .ok (.istore_n 1, 1) := by decide +kernel
theorem dX4_pullAll_47 : decode cX4_pullAll 47 = .ok (.aload_n 0, 1) := by decide +kernel
theorem dX4_pullAll_48 : decode cX4_pullAll 48 = .ok (.invokevirtual 38, 3) := by decide +kernel
theorem dX4_pullAll_51 : decode cX4_pullAll 51 = .ok (.aload_n 0, 1) := by decide +kernel
theorem dX4_pullAll_52 : decode cX4_pullAll 52 = .ok (.getfield 10, 3) := by decide +kernel
theorem dX4_pullAll_55 : decode cX4_pullAll 55 = .ok (.aload_n 0, 1) := by decide +kernel
theorem dX4_pullAll_56 : decode cX4_pullAll 56 = .ok (.getfield 16, 3) := by decide +kernel
theorem dX4_pullAll_59 : decode cX4_pullAll 59 = .ok (.invokevirtual 121, 3) := by decide +kernel
theorem dX4_pullAll_62 : decode cX4_pullAll 62 = .ok (.iload_n 1, 1) := by decide +kernel
theorem dX4_pullAll_63 : decode cX4_pullAll 63 = .ok (.ireturn, 1) := by decide +kernel
theorem dX4_append_0 : decode cX4_append 0 = .ok (.iload_n 1, 1) := by decide +kernel
theorem dX4_append_1 : decode cX4_append 1 = .ok (.bipush 33, 2) := by decide +kernel
theorem dX4_append_3 : decode cX4_append 3 = .ok (.if_icmp .lt 9, 3) := by decide +kernel
theorem dX4_append_6 : decode cX4_append 6 = .ok (.iload_n 1, 1) := by decide +kernel
theorem dX4_append_7 : decode cX4_append 7 = .ok (.bipush 126, 2) := by decide +kernel
theorem dX4_append_9 : decode cX4_append 9 = .ok (.if_icmp .le 13, 3) := by decide +kernel
theorem dX4_append_12 : decode cX4_append 12 = .ok (.new 132, 3) := by decide +kernel
theorem dX4_append_15 : decode cX4_append 15 = .ok (.dup, 1) := by decide +kernel
theorem dX4_append_16 : decode cX4_append 16 = .ok (.ldc 134, 2) := by decide +kernel
theorem dX4_append_18 : decode cX4_append 18 = .ok (.invokespecial 136, 3) := by decide +kernel
theorem dX4_append_21 : decode cX4_append 21 = .ok (.athrow, 1) := by decide +kernel
theorem dX4_append_22 : decode cX4_append 22 = .ok (.aload_n 0, 1) := by decide +kernel
theorem dX4_append_23 : decode cX4_append 23 = .ok (.getfield 137, 3) := by decide +kernel
theorem dX4_append_26 : decode cX4_append 26 = .ok (.bipush 60, 2) := by decide +kernel
theorem dX4_append_28 : decode cX4_append 28 = .ok (.if_icmp .lt 13, 3) := by decide +kernel
theorem dX4_append_31 : decode cX4_append 31 = .ok (.new 68, 3) := by decide +kernel
theorem dX4_append_34 : decode cX4_append 34 = .ok (.dup, 1) := by decide +kernel
theorem dX4_append_35 : decode cX4_append 35 = .ok (.ldc 140, 2) := by decide +kernel
theorem dX4_append_37 : decode cX4_append 37 = .ok (.invokespecial 72, 3) := by decide +kernel
theorem dX4_append_40 : decode cX4_append 40 = .ok (.athrow, 1) := by decide +kernel
theorem dX4_append_41 : decode cX4_append 41 = .ok (.aload_n 0, 1) := by decide +kernel
theorem dX4_append_42 : decode cX4_append 42 = .ok (.getfield 23, 3) := by decide +kernel
theorem dX4_append_45 : decode cX4_append 45 = .ok (.aload_n 0, 1) := by decide +kernel
theorem dX4_append_46 : decode cX4_append 46 = .ok (.getfield 137, 3) := by decide +kernel
theorem dX4_append_49 : decode cX4_append 49 = .ok (.iload_n 1, 1) := by decide +kernel
theorem dX4_append_50 : decode cX4_append 50 = .ok (.iastore, 1) := by decide +kernel
theorem dX4_append_51 : decode cX4_append 51 = .ok (.aload_n 0, 1) := by decide +kernel
theorem dX4_append_52 : decode cX4_append 52 = .ok (.dup, 1) := by decide +kernel
theorem dX4_append_53 : decode cX4_append 53 = .ok (.getfield 137, 3) := by decide +kernel
theorem dX4_append_56 : decode cX4_append 56 = .ok (.iconst 1, 1) := by decide +kernel
theorem dX4_append_57 : decode cX4_append 57 = .ok (.iadd, 1) := by decide +kernel
theorem dX4_append_58 : decode cX4_append 58 = .ok (.putfield 137, 3) := by decide +kernel
theorem dX4_append_61 : decode cX4_append 61 = .ok (.aload_n 0, 1) := by decide +kernel
theorem dX4_append_62 : decode cX4_append 62 = .ok (.getfield 137, 3) := by decide +kernel
theorem dX4_append_65 : decode cX4_append 65 = .ok (.ireturn, 1) := by decide +kernel
theorem dX4_clearBuffer_0 : decode cX4_clearBuffer 0 = .ok (.aload_n 0, 1) := by decide +kernel
theorem dX4_clearBuffer_1 : decode cX4_clearBuffer 1 = .ok (.getfield 137, 3) := by decide +kernel
theorem dX4_clearBuffer_4 : decode cX4_clearBuffer 4 = .ok (.istore_n 1, 1) := by decide +kernel
theorem dX4_clearBuffer_5 : decode cX4_clearBuffer 5 = .ok (.aload_n 0, 1) := by decide +kernel
theorem dX4_clearBuffer_6 : decode cX4_clearBuffer 6 = .ok (.iconst 0, 1) := by decide +kernel
theorem dX4_clearBuffer_7 : decode cX4_clearBuffer 7 = .ok (.putfield 137, 3) := by decide +kernel
theorem dX4_clearBuffer_10 : decode cX4_clearBuffer 10 = .ok (.iload_n 1, 1) := by decide +kernel
theorem dX4_clearBuffer_11 : decode cX4_clearBuffer 11 = .ok (.ireturn, 1) := by decide +kernel
theorem dX4_firstError_0 : decode cX4_firstError 0 = .ok (.aload_n 0, 1) := by decide +kernel
theorem dX4_firstError_1 : decode cX4_firstError 1 = .ok (.invokevirtual 142, 3) := by decide +kernel
theorem dX4_firstError_4 : decode cX4_firstError 4 = .ok (.ireturn, 1) := by decide +kernel
theorem dX4_runAll_0 : decode cX4_runAll 0 = .ok (.aload_n 0, 1) := by decide +kernel
theorem dX4_runAll_1 : decode cX4_runAll 1 = .ok (.invokevirtual 142, 3) := by decide +kernel
theorem dX4_runAll_4 : decode cX4_runAll 4 = .ok (.aload_n 0, 1) := by decide +kernel
theorem dX4_runAll_5 : decode cX4_runAll 5 = .ok (.getfield 137, 3) := by decide +kernel
theorem dX4_runAll_8 : decode cX4_runAll 8 = .ok (.if_icmp .lt 13, 3) := by decide +kernel
theorem dX4_runAll_11 : decode cX4_runAll 11 = .ok (.aload_n 0, 1) := by decide +kernel
theorem dX4_runAll_12 : decode cX4_runAll 12 = .ok (.getfield 30, 3) := by decide +kernel
theorem dX4_runAll_15 : decode cX4_runAll 15 = .ok (.invokevirtual 146, 3) := by decide +kernel
theorem dX4_runAll_18 : decode cX4_runAll 18 = .ok (.ifCond .ne 13, 3) := by decide +kernel
theorem dX4_runAll_21 : decode cX4_runAll 21 = .ok (.new 132, 3) := by decide +kernel
theorem dX4_runAll_24 : decode cX4_runAll 24 = .ok (.dup, 1) := by decide +kernel
theorem dX4_runAll_25 : decode cX4_runAll 25 = .ok (.ldc 149, 2) := by decide +kernel
theorem dX4_runAll_27 : decode cX4_runAll 27 = .ok (.invokespecial 136, 3) := by decide +kernel
theorem dX4_runAll_30 : decode cX4_runAll 30 = .ok (.athrow, 1) := by decide +kernel
theorem dX4_runAll_31 : decode cX4_runAll 31 = .ok (.aload_n 0, 1) := by decide +kernel
theorem dX4_runAll_32 : decode cX4_runAll 32 = .ok (.invokevirtual 38, 3) := by decide +kernel
theorem dX4_runAll_35 : decode cX4_runAll 35 = .ok (.aload_n 0, 1) := by decide +kernel
theorem dX4_runAll_36 : decode cX4_runAll 36 = .ok (.invokevirtual 151, 3) := by decide +kernel
theorem dX4_runAll_39 : decode cX4_runAll 39 = .ok (.istore_n 1, 1) := by decide +kernel
theorem dX4_runAll_40 : decode cX4_runAll 40 = .ok (.aload_n 0, 1) := by decide +kernel
theorem dX4_runAll_41 : decode cX4_runAll 41 = .ok (.iconst 0, 1) := by decide +kernel
theorem dX4_runAll_42 : decode cX4_runAll 42 = .ok (.putfield 137, 3) := by decide +kernel
theorem dX4_runAll_45 : decode cX4_runAll 45 = .ok (.iload_n 1, 1) := by decide +kernel
theorem dX4_runAll_46 : decode cX4_runAll 46 = .ok (.ireturn, 1) := by decide +kernel
theorem dX4_undo_0 : decode cX4_undo 0 = .ok (.aload_n 0, 1) := by decide +kernel
theorem dX4_undo_1 : decode cX4_undo 1 = .ok (.getfield 154, 3) := by decide +kernel
theorem dX4_undo_4 : decode cX4_undo 4 = .ok (.ifCond .ne 13, 3) := by decide +kernel
theorem dX4_undo_7 : decode cX4_undo 7 = .ok (.new 68, 3) := by decide +kernel
theorem dX4_undo_10 : decode cX4_undo 10 = .ok (.dup, 1) := by decide +kernel
theorem dX4_undo_11 : decode cX4_undo 11 = .ok (.ldc 157, 2) := by decide +kernel
theorem dX4_undo_13 : decode cX4_undo 13 = .ok (.invokespecial 72, 3) := by decide +kernel
theorem dX4_undo_16 : decode cX4_undo 16 = .ok (.athrow, 1) := by decide +kernel
theorem dX4_undo_17 : decode cX4_undo 17 = .ok (.aload_n 0, 1) := by decide +kernel
theorem dX4_undo_18 : decode cX4_undo 18 = .ok (.dup, 1) := by decide +kernel
theorem dX4_undo_19 : decode cX4_undo 19 = .ok (.getfield 154, 3) := by decide +kernel
theorem dX4_undo_22 : decode cX4_undo 22 = .ok (.iconst 1, 1) := by decide +kernel
theorem dX4_undo_23 : decode cX4_undo 23 = .ok (.isub, 1) := by decide +kernel
theorem dX4_undo_24 : decode cX4_undo 24 = .ok (.putfield 154, 3) := by decide +kernel
theorem dX4_undo_27 : decode cX4_undo 27 = .ok (.aload_n 0, 1) := by decide +kernel
theorem dX4_undo_28 : decode cX4_undo 28 = .ok (.getfield 10, 3) := by decide +kernel
theorem dX4_undo_31 : decode cX4_undo 31 = .ok (.aload_n 0, 1) := by decide +kernel
theorem dX4_undo_32 : decode cX4_undo 32 = .ok (.getfield 19, 3) := by decide +kernel
theorem dX4_undo_35 : decode cX4_undo 35 = .ok (.aload_n 0, 1) := by decide +kernel
theorem dX4_undo_36 : decode cX4_undo 36 = .ok (.getfield 154, 3) := by decide +kernel
theorem dX4_undo_39 : decode cX4_undo 39 = .ok (.aaload, 1) := by decide +kernel
theorem dX4_undo_40 : decode cX4_undo 40 = .ok (.invokevirtual 121, 3) := by decide +kernel
theorem dX4_undo_43 : decode cX4_undo 43 = .ok (.aload_n 0, 1) := by decide +kernel
theorem dX4_undo_44 : decode cX4_undo 44 = .ok (.getfield 154, 3) := by decide +kernel
theorem dX4_undo_47 : decode cX4_undo 47 = .ok (.ireturn, 1) := by decide +kernel
theorem dX4_sibling_0 : decode cX4_sibling 0 = .ok (.iload_n 1, 1) := by decide +kernel
theorem dX4_sibling_1 : decode cX4_sibling 1 = .ok (.iconst 3, 1) := by decide +kernel
theorem dX4_sibling_2 : decode cX4_sibling 2 = .ok (.invokestatic 103, 3) := by decide +kernel
theorem dX4_sibling_5 : decode cX4_sibling 5 = .ok (.iload_n 2, 1) := by decide +kernel
theorem dX4_sibling_6 : decode cX4_sibling 6 = .ok (.iconst 3, 1) := by decide +kernel
theorem dX4_sibling_7 : decode cX4_sibling 7 = .ok (.invokestatic 103, 3) := by decide +kernel
theorem dX4_sibling_10 : decode cX4_sibling 10 = .ok (.iload_n 3, 1) := by decide +kernel
theorem dX4_sibling_11 : decode cX4_sibling 11 = .ok (.iconst 3, 1) := by decide +kernel
theorem dX4_sibling_12 : decode cX4_sibling 12 = .ok (.invokestatic 61, 3) := by decide +kernel
theorem dX4_sibling_15 : decode cX4_sibling 15 = .ok (.iload 4, 2) := by decide +kernel
theorem dX4_sibling_17 : decode cX4_sibling 17 = .ok (.iconst 4, 1) := by decide +kernel
theorem dX4_sibling_18 : decode cX4_sibling 18 = .ok (.invokestatic 61, 3) := by decide +kernel
theorem dX4_sibling_21 : decode cX4_sibling 21 = .ok (.aload_n 0, 1) := by decide +kernel
theorem dX4_sibling_22 : decode cX4_sibling 22 = .ok (.getfield 10, 3) := by decide +kernel
theorem dX4_sibling_25 : decode cX4_sibling 25 = .ok (.getfield 41, 3) := by decide +kernel
theorem dX4_sibling_28 : decode cX4_sibling 28 = .ok (.iload_n 2, 1) := by decide +kernel
theorem dX4_sibling_29 : decode cX4_sibling 29 = .ok (.aaload, 1) := by decide +kernel
theorem dX4_sibling_30 : decode cX4_sibling 30 = .ok (.iload_n 1, 1) := by decide +kernel
theorem dX4_sibling_31 : decode cX4_sibling 31 = .ok (.iload_n 3, 1) := by decide +kernel
theorem dX4_sibling_32 : decode cX4_sibling 32 = .ok (.iload 4, 2) := by decide +kernel
theorem dX4_sibling_34 : decode cX4_sibling 34 = .ok (.invokevirtual 159, 3) := by decide +kernel
theorem dX4_sibling_37 : decode cX4_sibling 37 = .ok (.ireturn, 1) := by decide +kernel
theorem dX4_vector_0 : decode cX4_vector 0 = .ok (.iload_n 3, 1) := by decide +kernel
theorem dX4_vector_1 : decode cX4_vector 1 = .ok (.iload_n 2, 1) := by decide +kernel
theorem dX4_vector_2 : decode cX4_vector 2 = .ok (.iload_n 1, 1) := by decide +kernel
theorem dX4_vector_3 : decode cX4_vector 3 = .ok (.invokestatic 34, 3) := by decide +kernel
theorem dX4_vector_6 : decode cX4_vector 6 = .ok (.aload_n 0, 1) := by decide +kernel
theorem dX4_vector_7 : decode cX4_vector 7 = .ok (.getfield 10, 3) := by decide +kernel
theorem dX4_vector_10 : decode cX4_vector 10 = .ok (.getfield 41, 3) := by decide +kernel
theorem dX4_vector_13 : decode cX4_vector 13 = .ok (.iload_n 2, 1) := by decide +kernel
theorem dX4_vector_14 : decode cX4_vector 14 = .ok (.aaload, 1) := by decide +kernel
theorem dX4_vector_15 : decode cX4_vector 15 = .ok (.getfield 51, 3) := by decide +kernel
theorem dX4_vector_18 : decode cX4_vector 18 = .ok (.iload_n 1, 1) := by decide +kernel
theorem dX4_vector_19 : decode cX4_vector 19 = .ok (.aaload, 1) := by decide +kernel
theorem dX4_vector_20 : decode cX4_vector 20 = .ok (.getfield 162, 3) := by decide +kernel
theorem dX4_vector_23 : decode cX4_vector 23 = .ok (.iload_n 3, 1) := by decide +kernel
theorem dX4_vector_24 : decode cX4_vector 24 = .ok (.iaload, 1) := by decide +kernel
theorem dX4_vector_25 : decode cX4_vector 25 = .ok (.ireturn, 1) := by decide +kernel
theorem dX4_knows_0 : decode cX4_knows 0 = .ok (.iload_n 1, 1) := by decide +kernel
theorem dX4_knows_1 : decode cX4_knows 1 = .ok (.iconst 5, 1) := by decide +kernel
theorem dX4_knows_2 : decode cX4_knows 2 = .ok (.invokestatic 103, 3) := by decide +kernel
theorem dX4_knows_5 : decode cX4_knows 5 = .ok (.iload_n 2, 1) := by decide +kernel
theorem dX4_knows_6 : decode cX4_knows 6 = .ok (.iconst 3, 1) := by decide +kernel
theorem dX4_knows_7 : decode cX4_knows 7 = .ok (.invokestatic 103, 3) := by decide +kernel
theorem dX4_knows_10 : decode cX4_knows 10 = .ok (.iload_n 3, 1) := by decide +kernel
theorem dX4_knows_11 : decode cX4_knows 11 = .ok (.iconst 5, 1) := by decide +kernel
theorem dX4_knows_12 : decode cX4_knows 12 = .ok (.invokestatic 103, 3) := by decide +kernel
theorem dX4_knows_15 : decode cX4_knows 15 = .ok (.aload_n 0, 1) := by decide +kernel
theorem dX4_knows_16 : decode cX4_knows 16 = .ok (.getfield 10, 3) := by decide +kernel
theorem dX4_knows_19 : decode cX4_knows 19 = .ok (.getfield 41, 3) := by decide +kernel
theorem dX4_knows_22 : decode cX4_knows 22 = .ok (.iload_n 2, 1) := by decide +kernel
theorem dX4_knows_23 : decode cX4_knows 23 = .ok (.aaload, 1) := by decide +kernel
theorem dX4_knows_24 : decode cX4_knows 24 = .ok (.getfield 165, 3) := by decide +kernel
theorem dX4_knows_27 : decode cX4_knows 27 = .ok (.iload_n 1, 1) := by decide +kernel
theorem dX4_knows_28 : decode cX4_knows 28 = .ok (.aaload, 1) := by decide +kernel
theorem dX4_knows_29 : decode cX4_knows 29 = .ok (.iload_n 3, 1) := by decide +kernel
theorem dX4_knows_30 : decode cX4_knows 30 = .ok (.iaload, 1) := by decide +kernel
theorem dX4_knows_31 : decode cX4_knows 31 = .ok (.ireturn, 1) := by decide +kernel
theorem dX4_key_0 : decode cX4_key 0 = .ok (.iload_n 1, 1) := by decide +kernel
theorem dX4_key_1 : decode cX4_key 1 = .ok (.iconst 3, 1) := by decide +kernel
theorem dX4_key_2 : decode cX4_key 2 = .ok (.invokestatic 103, 3) := by decide +kernel
theorem dX4_key_5 : decode cX4_key 5 = .ok (.iload_n 2, 1) := by decide +kernel
theorem dX4_key_6 : decode cX4_key 6 = .ok (.bipush 7, 2) := by decide +kernel
theorem dX4_key_8 : decode cX4_key 8 = .ok (.invokestatic 61, 3) := by decide +kernel
theorem dX4_key_11 : decode cX4_key 11 = .ok (.aload_n 0, 1) := by decide +kernel
theorem dX4_key_12 : decode cX4_key 12 = .ok (.getfield 10, 3) := by decide +kernel
theorem dX4_key_15 : decode cX4_key 15 = .ok (.getfield 41, 3) := by decide +kernel
theorem dX4_key_18 : decode cX4_key 18 = .ok (.iload_n 1, 1) := by decide +kernel
theorem dX4_key_19 : decode cX4_key 19 = .ok (.aaload, 1) := by decide +kernel
theorem dX4_key_20 : decode cX4_key 20 = .ok (.iload_n 2, 1) := by decide +kernel
theorem dX4_key_21 : decode cX4_key 21 = .ok (.invokevirtual 169, 3) := by decide +kernel
theorem dX4_key_24 : decode cX4_key 24 = .ok (.ireturn, 1) := by decide +kernel
theorem dX4_count_0 : decode cX4_count 0 = .ok (.iload_n 1, 1) := by decide +kernel
theorem dX4_count_1 : decode cX4_count 1 = .ok (.bipush 7, 2) := by decide +kernel
theorem dX4_count_3 : decode cX4_count 3 = .ok (.invokestatic 61, 3) := by decide +kernel
theorem dX4_count_6 : decode cX4_count 6 = .ok (.aload_n 0, 1) := by decide +kernel
theorem dX4_count_7 : decode cX4_count 7 = .ok (.iload_n 1, 1) := by decide +kernel
theorem dX4_count_8 : decode cX4_count 8 = .ok (.invokevirtual 172, 3) := by decide +kernel
theorem dX4_count_11 : decode cX4_count 11 = .ok (.ireturn, 1) := by decide +kernel
theorem dX4_ifWritten_0 : decode cX4_ifWritten 0 = .ok (.iload_n 1, 1) := by decide +kernel
theorem dX4_ifWritten_1 : decode cX4_ifWritten 1 = .ok (.iload_n 2, 1) := by decide +kernel
theorem dX4_ifWritten_2 : decode cX4_ifWritten 2 = .ok (.iload_n 3, 1) := by decide +kernel
theorem dX4_ifWritten_3 : decode cX4_ifWritten 3 = .ok (.invokestatic 34, 3) := by decide +kernel
theorem dX4_ifWritten_6 : decode cX4_ifWritten 6 = .ok (.iload 4, 2) := by decide +kernel
theorem dX4_ifWritten_8 : decode cX4_ifWritten 8 = .ok (.iconst 1, 1) := by decide +kernel
theorem dX4_ifWritten_9 : decode cX4_ifWritten 9 = .ok (.invokestatic 61, 3) := by decide +kernel
theorem dX4_ifWritten_12 : decode cX4_ifWritten 12 = .ok (.aload_n 0, 1) := by decide +kernel
theorem dX4_ifWritten_13 : decode cX4_ifWritten 13 = .ok (.getfield 10, 3) := by decide +kernel
theorem dX4_ifWritten_16 : decode cX4_ifWritten 16 = .ok (.getfield 41, 3) := by decide +kernel
theorem dX4_ifWritten_19 : decode cX4_ifWritten 19 = .ok (.iload_n 2, 1) := by decide +kernel
theorem dX4_ifWritten_20 : decode cX4_ifWritten 20 = .ok (.aaload, 1) := by decide +kernel
theorem dX4_ifWritten_21 : decode cX4_ifWritten 21 = .ok (.iload_n 1, 1) := by decide +kernel
theorem dX4_ifWritten_22 : decode cX4_ifWritten 22 = .ok (.iload_n 3, 1) := by decide +kernel
theorem dX4_ifWritten_23 : decode cX4_ifWritten 23 = .ok (.iload 4, 2) := by decide +kernel
theorem dX4_ifWritten_25 : decode cX4_ifWritten 25 = .ok (.invokevirtual 175, 3) := by decide +kernel
theorem dX4_ifWritten_28 : decode cX4_ifWritten 28 = .ok (.ireturn, 1) := by decide +kernel
theorem dX4_ifPulled_0 : decode cX4_ifPulled 0 = .ok (.iload_n 1, 1) := by decide +kernel
theorem dX4_ifPulled_1 : decode cX4_ifPulled 1 = .ok (.iload_n 2, 1) := by decide +kernel
theorem dX4_ifPulled_2 : decode cX4_ifPulled 2 = .ok (.iload_n 3, 1) := by decide +kernel
theorem dX4_ifPulled_3 : decode cX4_ifPulled 3 = .ok (.invokestatic 79, 3) := by decide +kernel
theorem dX4_ifPulled_6 : decode cX4_ifPulled 6 = .ok (.iload 4, 2) := by decide +kernel
theorem dX4_ifPulled_8 : decode cX4_ifPulled 8 = .ok (.iconst 2, 1) := by decide +kernel
theorem dX4_ifPulled_9 : decode cX4_ifPulled 9 = .ok (.invokestatic 61, 3) := by decide +kernel
theorem dX4_ifPulled_12 : decode cX4_ifPulled 12 = .ok (.aload_n 0, 1) := by decide +kernel
theorem dX4_ifPulled_13 : decode cX4_ifPulled 13 = .ok (.getfield 10, 3) := by decide +kernel
theorem dX4_ifPulled_16 : decode cX4_ifPulled 16 = .ok (.getfield 41, 3) := by decide +kernel
theorem dX4_ifPulled_19 : decode cX4_ifPulled 19 = .ok (.iload_n 3, 1) := by decide +kernel
theorem dX4_ifPulled_20 : decode cX4_ifPulled 20 = .ok (.aaload, 1) := by decide +kernel
theorem dX4_ifPulled_21 : decode cX4_ifPulled 21 = .ok (.iload_n 1, 1) := by decide +kernel
theorem dX4_ifPulled_22 : decode cX4_ifPulled 22 = .ok (.iload_n 2, 1) := by decide +kernel
theorem dX4_ifPulled_23 : decode cX4_ifPulled 23 = .ok (.iload 4, 2) := by decide +kernel
theorem dX4_ifPulled_25 : decode cX4_ifPulled 25 = .ok (.invokevirtual 178, 3) := by decide +kernel
theorem dX4_ifPulled_28 : decode cX4_ifPulled 28 = .ok (.ireturn, 1) := by decide +kernel
theorem dX4_whyNot_0 : decode cX4_whyNot 0 = .ok (.iload_n 1, 1) := by decide +kernel
theorem dX4_whyNot_1 : decode cX4_whyNot 1 = .ok (.iconst 5, 1) := by decide +kernel
theorem dX4_whyNot_2 : decode cX4_whyNot 2 = .ok (.invokestatic 103, 3) := by decide +kernel
theorem dX4_whyNot_5 : decode cX4_whyNot 5 = .ok (.iload_n 2, 1) := by decide +kernel
theorem dX4_whyNot_6 : decode cX4_whyNot 6 = .ok (.iconst 3, 1) := by decide +kernel
theorem dX4_whyNot_7 : decode cX4_whyNot 7 = .ok (.invokestatic 103, 3) := by decide +kernel
theorem dX4_whyNot_10 : decode cX4_whyNot 10 = .ok (.aload_n 0, 1) := by decide +kernel
theorem dX4_whyNot_11 : decode cX4_whyNot 11 = .ok (.getfield 10, 3) := by decide +kernel
theorem dX4_whyNot_14 : decode cX4_whyNot 14 = .ok (.getfield 41, 3) := by decide +kernel
theorem dX4_whyNot_17 : decode cX4_whyNot 17 = .ok (.iload_n 2, 1) := by decide +kernel
theorem dX4_whyNot_18 : decode cX4_whyNot 18 = .ok (.aaload, 1) := by decide +kernel
theorem dX4_whyNot_19 : decode cX4_whyNot 19 = .ok (.iload_n 1, 1) := by decide +kernel
theorem dX4_whyNot_20 : decode cX4_whyNot 20 = .ok (.invokevirtual 109, 3) := by decide +kernel
theorem dX4_whyNot_23 : decode cX4_whyNot 23 = .ok (.ireturn, 1) := by decide +kernel
theorem dX4_agreement_0 : decode cX4_agreement 0 = .ok (.aload_n 0, 1) := by decide +kernel
theorem dX4_agreement_1 : decode cX4_agreement 1 = .ok (.invokevirtual 181, 3) := by decide +kernel
theorem dX4_agreement_4 : decode cX4_agreement 4 = .ok (.dreturn, 1) := by decide +kernel
theorem dX4_digest_0 : decode cX4_digest 0 = .ok (.ldc2_w 185, 3) := by decide +kernel
theorem dX4_digest_3 : decode cX4_digest 3 = .ok (.lstore_n 1, 1) := by decide +kernel
theorem dX4_digest_4 : decode cX4_digest 4 = .ok (.iconst 0, 1) := by decide +kernel
theorem dX4_digest_5 : decode cX4_digest 5 = .ok (.istore_n 3, 1) := by decide +kernel
theorem dX4_digest_6 : decode cX4_digest 6 = .ok (.iload_n 3, 1) := by decide +kernel
theorem dX4_digest_7 : decode cX4_digest 7 = .ok (.bipush 7, 2) := by decide +kernel
theorem dX4_digest_9 : decode cX4_digest 9 = .ok (.if_icmp .gt 20, 3) := by decide +kernel
theorem dX4_digest_12 : decode cX4_digest 12 = .ok (.lload_n 1, 1) := by decide +kernel
theorem dX4_digest_13 : decode cX4_digest 13 = .ok (.aload_n 0, 1) := by decide +kernel
theorem dX4_digest_14 : decode cX4_digest 14 = .ok (.iload_n 3, 1) := by decide +kernel
theorem dX4_digest_15 : decode cX4_digest 15 = .ok (.invokevirtual 172, 3) := by decide +kernel
theorem dX4_digest_18 : decode cX4_digest 18 = .ok (.i2l, 1) := by decide +kernel
theorem dX4_digest_19 : decode cX4_digest 19 = .ok (.invokestatic 187, 3) := by decide +kernel
theorem dX4_digest_22 : decode cX4_digest 22 = .ok (.lstore_n 1, 1) := by decide +kernel
theorem dX4_digest_23 : decode cX4_digest 23 = .ok (.iinc 3 1, 3) := by decide +kernel
theorem dX4_digest_26 : decode cX4_digest 26 = .ok (.goto (-20), 3) := by decide +kernel
theorem dX4_digest_29 : decode cX4_digest 29 = .ok (.iconst 0, 1) := by decide +kernel
theorem dX4_digest_30 : decode cX4_digest 30 = .ok (.istore_n 3, 1) := by decide +kernel
theorem dX4_digest_31 : decode cX4_digest 31 = .ok (.iload_n 3, 1) := by decide +kernel
theorem dX4_digest_32 : decode cX4_digest 32 = .ok (.iconst 3, 1) := by decide +kernel
theorem dX4_digest_33 : decode cX4_digest 33 = .ok (.if_icmp .ge 23, 3) := by decide +kernel
theorem dX4_digest_36 : decode cX4_digest 36 = .ok (.lload_n 1, 1) := by decide +kernel
theorem dX4_digest_37 : decode cX4_digest 37 = .ok (.aload_n 0, 1) := by decide +kernel
theorem dX4_digest_38 : decode cX4_digest 38 = .ok (.getfield 10, 3) := by decide +kernel
theorem dX4_digest_41 : decode cX4_digest 41 = .ok (.getfield 41, 3) := by decide +kernel
theorem dX4_digest_44 : decode cX4_digest 44 = .ok (.iload_n 3, 1) := by decide +kernel
theorem dX4_digest_45 : decode cX4_digest 45 = .ok (.aaload, 1) := by decide +kernel
theorem dX4_digest_46 : decode cX4_digest 46 = .ok (.invokestatic 191, 3) := by decide +kernel
theorem dX4_digest_49 : decode cX4_digest 49 = .ok (.lstore_n 1, 1) := by decide +kernel
theorem dX4_digest_50 : decode cX4_digest 50 = .ok (.iinc 3 1, 3) := by decide +kernel
theorem dX4_digest_53 : decode cX4_digest 53 = .ok (.goto (-22), 3) := by decide +kernel
theorem dX4_digest_56 : decode cX4_digest 56 = .ok (.iconst 0, 1) := by decide +kernel
theorem dX4_digest_57 : decode cX4_digest 57 = .ok (.istore_n 3, 1) := by decide +kernel
theorem dX4_digest_58 : decode cX4_digest 58 = .ok (.iload_n 3, 1) := by decide +kernel
theorem dX4_digest_59 : decode cX4_digest 59 = .ok (.iconst 3, 1) := by decide +kernel
theorem dX4_digest_60 : decode cX4_digest 60 = .ok (.if_icmp .ge 46, 3) := by decide +kernel
theorem dX4_digest_63 : decode cX4_digest 63 = .ok (.iconst 0, 1) := by decide +kernel
theorem dX4_digest_64 : decode cX4_digest 64 = .ok (.istore 4, 2) := by decide +kernel
theorem dX4_digest_66 : decode cX4_digest 66 = .ok (.iload 4, 2) := by decide +kernel
theorem dX4_digest_68 : decode cX4_digest 68 = .ok (.iconst 2, 1) := by decide +kernel
theorem dX4_digest_69 : decode cX4_digest 69 = .ok (.if_icmp .gt 31, 3) := by decide +kernel
theorem dX4_digest_72 : decode cX4_digest 72 = .ok (.lload_n 1, 1) := by decide +kernel
theorem dX4_digest_73 : decode cX4_digest 73 = .ok (.aload_n 0, 1) := by decide +kernel
theorem dX4_digest_74 : decode cX4_digest 74 = .ok (.getfield 10, 3) := by decide +kernel
theorem dX4_digest_77 : decode cX4_digest 77 = .ok (.getfield 41, 3) := by decide +kernel
theorem dX4_digest_80 : decode cX4_digest 80 = .ok (.iload_n 3, 1) := by decide +kernel
theorem dX4_digest_81 : decode cX4_digest 81 = .ok (.aaload, 1) := by decide +kernel
theorem dX4_digest_82 : decode cX4_digest 82 = .ok (.iconst 1, 1) := by decide +kernel
theorem dX4_digest_83 : decode cX4_digest 83 = .ok (.iconst 0, 1) := by decide +kernel
theorem dX4_digest_84 : decode cX4_digest 84 = .ok (.iload 4, 2) := by decide +kernel
theorem dX4_digest_86 : decode cX4_digest 86 = .ok (.invokevirtual 178, 3) := by decide +kernel
theorem dX4_digest_89 : decode cX4_digest 89 = .ok (.i2l, 1) := by decide +kernel
theorem dX4_digest_90 : decode cX4_digest 90 = .ok (.invokestatic 187, 3) := by decide +kernel
theorem dX4_digest_93 : decode cX4_digest 93 = .ok (.lstore_n 1, 1) := by decide +kernel
theorem dX4_digest_94 : decode cX4_digest 94 = .ok (.iinc 4 1, 3) := by decide +kernel
theorem dX4_digest_97 : decode cX4_digest 97 = .ok (.goto (-31), 3) := by decide +kernel
theorem dX4_digest_100 : decode cX4_digest 100 = .ok (.iinc 3 1, 3) := by decide +kernel
theorem dX4_digest_103 : decode cX4_digest 103 = .ok (.goto (-45), 3) := by decide +kernel
theorem dX4_digest_106 : decode cX4_digest 106 = .ok (.lload_n 1, 1) := by decide +kernel
theorem dX4_digest_107 : decode cX4_digest 107 = .ok (.aload_n 0, 1) := by decide +kernel
theorem dX4_digest_108 : decode cX4_digest 108 = .ok (.invokevirtual 181, 3) := by decide +kernel
theorem dX4_digest_111 : decode cX4_digest 111 = .ok (.invokestatic 195, 3) := by decide +kernel
theorem dX4_digest_114 : decode cX4_digest 114 = .ok (.invokestatic 187, 3) := by decide +kernel
theorem dX4_digest_117 : decode cX4_digest 117 = .ok (.lstore_n 1, 1) := by decide +kernel
theorem dX4_digest_118 : decode cX4_digest 118 = .ok (.lload_n 1, 1) := by decide +kernel
theorem dX4_digest_119 : decode cX4_digest 119 = .ok (.aload_n 0, 1) := by decide +kernel
theorem dX4_digest_120 : decode cX4_digest 120 = .ok (.getfield 137, 3) := by decide +kernel
theorem dX4_digest_123 : decode cX4_digest 123 = .ok (.i2l, 1) := by decide +kernel
theorem dX4_digest_124 : decode cX4_digest 124 = .ok (.invokestatic 187, 3) := by decide +kernel
theorem dX4_digest_127 : decode cX4_digest 127 = .ok (.lstore_n 1, 1) := by decide +kernel
theorem dX4_digest_128 : decode cX4_digest 128 = .ok (.iconst 0, 1) := by decide +kernel
theorem dX4_digest_129 : decode cX4_digest 129 = .ok (.istore_n 3, 1) := by decide +kernel
theorem dX4_digest_130 : decode cX4_digest 130 = .ok (.iload_n 3, 1) := by decide +kernel
theorem dX4_digest_131 : decode cX4_digest 131 = .ok (.aload_n 0, 1) := by decide +kernel
theorem dX4_digest_132 : decode cX4_digest 132 = .ok (.getfield 137, 3) := by decide +kernel
theorem dX4_digest_135 : decode cX4_digest 135 = .ok (.if_icmp .ge 21, 3) := by decide +kernel
theorem dX4_digest_138 : decode cX4_digest 138 = .ok (.lload_n 1, 1) := by decide +kernel
theorem dX4_digest_139 : decode cX4_digest 139 = .ok (.aload_n 0, 1) := by decide +kernel
theorem dX4_digest_140 : decode cX4_digest 140 = .ok (.getfield 23, 3) := by decide +kernel
theorem dX4_digest_143 : decode cX4_digest 143 = .ok (.iload_n 3, 1) := by decide +kernel
theorem dX4_digest_144 : decode cX4_digest 144 = .ok (.iaload, 1) := by decide +kernel
theorem dX4_digest_145 : decode cX4_digest 145 = .ok (.i2l, 1) := by decide +kernel
theorem dX4_digest_146 : decode cX4_digest 146 = .ok (.invokestatic 187, 3) := by decide +kernel
theorem dX4_digest_149 : decode cX4_digest 149 = .ok (.lstore_n 1, 1) := by decide +kernel
theorem dX4_digest_150 : decode cX4_digest 150 = .ok (.iinc 3 1, 3) := by decide +kernel
theorem dX4_digest_153 : decode cX4_digest 153 = .ok (.goto (-23), 3) := by decide +kernel
theorem dX4_digest_156 : decode cX4_digest 156 = .ok (.lload_n 1, 1) := by decide +kernel
theorem dX4_digest_157 : decode cX4_digest 157 = .ok (.lreturn, 1) := by decide +kernel
theorem dX4_checkIndex_0 : decode cX4_checkIndex 0 = .ok (.iload_n 0, 1) := by decide +kernel
theorem dX4_checkIndex_1 : decode cX4_checkIndex 1 = .ok (.ifCond .lt 8, 3) := by decide +kernel
theorem dX4_checkIndex_4 : decode cX4_checkIndex 4 = .ok (.iload_n 0, 1) := by decide +kernel
theorem dX4_checkIndex_5 : decode cX4_checkIndex 5 = .ok (.iload_n 1, 1) := by decide +kernel
theorem dX4_checkIndex_6 : decode cX4_checkIndex 6 = .ok (.if_icmp .lt 13, 3) := by decide +kernel
theorem dX4_checkIndex_9 : decode cX4_checkIndex 9 = .ok (.new 199, 3) := by decide +kernel
theorem dX4_checkIndex_12 : decode cX4_checkIndex 12 = .ok (.dup, 1) := by decide +kernel
theorem dX4_checkIndex_13 : decode cX4_checkIndex 13 = .ok (.ldc 201, 2) := by decide +kernel
theorem dX4_checkIndex_15 : decode cX4_checkIndex 15 = .ok (.invokespecial 203, 3) := by decide +kernel
theorem dX4_checkIndex_18 : decode cX4_checkIndex 18 = .ok (.athrow, 1) := by decide +kernel
theorem dX4_checkIndex_19 : decode cX4_checkIndex 19 = .ok (.return_, 1) := by decide +kernel
theorem dX4_checkUpTo_0 : decode cX4_checkUpTo 0 = .ok (.iload_n 0, 1) := by decide +kernel
theorem dX4_checkUpTo_1 : decode cX4_checkUpTo 1 = .ok (.ifCond .lt 8, 3) := by decide +kernel
theorem dX4_checkUpTo_4 : decode cX4_checkUpTo 4 = .ok (.iload_n 0, 1) := by decide +kernel
theorem dX4_checkUpTo_5 : decode cX4_checkUpTo 5 = .ok (.iload_n 1, 1) := by decide +kernel
theorem dX4_checkUpTo_6 : decode cX4_checkUpTo 6 = .ok (.if_icmp .le 13, 3) := by decide +kernel
theorem dX4_checkUpTo_9 : decode cX4_checkUpTo 9 = .ok (.new 132, 3) := by decide +kernel
theorem dX4_checkUpTo_12 : decode cX4_checkUpTo 12 = .ok (.dup, 1) := by decide +kernel
theorem dX4_checkUpTo_13 : decode cX4_checkUpTo 13 = .ok (.ldc 204, 2) := by decide +kernel
theorem dX4_checkUpTo_15 : decode cX4_checkUpTo 15 = .ok (.invokespecial 136, 3) := by decide +kernel
theorem dX4_checkUpTo_18 : decode cX4_checkUpTo 18 = .ok (.athrow, 1) := by decide +kernel
theorem dX4_checkUpTo_19 : decode cX4_checkUpTo 19 = .ok (.return_, 1) := by decide +kernel
theorem dX4_checkWriterKeyStore_0 : decode cX4_checkWriterKeyStore 0 = .ok (.iload_n 0, 1) := by decide +kernel
theorem dX4_checkWriterKeyStore_1 : decode cX4_checkWriterKeyStore 1 = .ok (.iconst 5, 1) := by decide +kernel
theorem dX4_checkWriterKeyStore_2 : decode cX4_checkWriterKeyStore 2 = .ok (.invokestatic 103, 3) := by decide +kernel
theorem dX4_checkWriterKeyStore_5 : decode cX4_checkWriterKeyStore 5 = .ok (.iload_n 1, 1) := by decide +kernel
theorem dX4_checkWriterKeyStore_6 : decode cX4_checkWriterKeyStore 6 = .ok (.iconst 3, 1) := by decide +kernel
theorem dX4_checkWriterKeyStore_7 : decode cX4_checkWriterKeyStore 7 = .ok (.invokestatic 103, 3) := by decide +kernel
theorem dX4_checkWriterKeyStore_10 : decode cX4_checkWriterKeyStore 10 = .ok (.iload_n 2, 1) := by decide +kernel
theorem dX4_checkWriterKeyStore_11 : decode cX4_checkWriterKeyStore 11 = .ok (.iconst 3, 1) := by decide +kernel
theorem dX4_checkWriterKeyStore_12 : decode cX4_checkWriterKeyStore 12 = .ok (.invokestatic 103, 3) := by decide +kernel
theorem dX4_checkWriterKeyStore_15 : decode cX4_checkWriterKeyStore 15 = .ok (.return_, 1) := by decide +kernel
theorem dX4_checkTwoStores_0 : decode cX4_checkTwoStores 0 = .ok (.iload_n 0, 1) := by decide +kernel
theorem dX4_checkTwoStores_1 : decode cX4_checkTwoStores 1 = .ok (.iconst 3, 1) := by decide +kernel
theorem dX4_checkTwoStores_2 : decode cX4_checkTwoStores 2 = .ok (.invokestatic 103, 3) := by decide +kernel
theorem dX4_checkTwoStores_5 : decode cX4_checkTwoStores 5 = .ok (.iload_n 1, 1) := by decide +kernel
theorem dX4_checkTwoStores_6 : decode cX4_checkTwoStores 6 = .ok (.iconst 3, 1) := by decide +kernel
theorem dX4_checkTwoStores_7 : decode cX4_checkTwoStores 7 = .ok (.invokestatic 103, 3) := by decide +kernel
theorem dX4_checkTwoStores_10 : decode cX4_checkTwoStores 10 = .ok (.iload_n 2, 1) := by decide +kernel
theorem dX4_checkTwoStores_11 : decode cX4_checkTwoStores 11 = .ok (.iconst 3, 1) := by decide +kernel
theorem dX4_checkTwoStores_12 : decode cX4_checkTwoStores 12 = .ok (.invokestatic 103, 3) := by decide +kernel
theorem dX4_checkTwoStores_15 : decode cX4_checkTwoStores 15 = .ok (.iload_n 0, 1) := by decide +kernel
theorem dX4_checkTwoStores_16 : decode cX4_checkTwoStores 16 = .ok (.iload_n 1, 1) := by decide +kernel
theorem dX4_checkTwoStores_17 : decode cX4_checkTwoStores 17 = .ok (.if_icmp .ne 13, 3) := by decide +kernel
theorem dX4_checkTwoStores_20 : decode cX4_checkTwoStores 20 = .ok (.new 132, 3) := by decide +kernel
theorem dX4_checkTwoStores_23 : decode cX4_checkTwoStores 23 = .ok (.dup, 1) := by decide +kernel
theorem dX4_checkTwoStores_24 : decode cX4_checkTwoStores 24 = .ok (.ldc 206, 2) := by decide +kernel
theorem dX4_checkTwoStores_26 : decode cX4_checkTwoStores 26 = .ok (.invokespecial 136, 3) := by decide +kernel
theorem dX4_checkTwoStores_29 : decode cX4_checkTwoStores 29 = .ok (.athrow, 1) := by decide +kernel
theorem dX4_checkTwoStores_30 : decode cX4_checkTwoStores 30 = .ok (.return_, 1) := by decide +kernel
theorem dX4_save_0 : decode cX4_save 0 = .ok (.aload_n 0, 1) := by decide +kernel
theorem dX4_save_1 : decode cX4_save 1 = .ok (.getfield 154, 3) := by decide +kernel
theorem dX4_save_4 : decode cX4_save 4 = .ok (.bipush 6, 2) := by decide +kernel
theorem dX4_save_6 : decode cX4_save 6 = .ok (.if_icmp .ne 7, 3) := by decide +kernel
theorem dX4_save_9 : decode cX4_save 9 = .ok (.aload_n 0, 1) := by decide +kernel
theorem dX4_save_10 : decode cX4_save 10 = .ok (.invokevirtual 208, 3) := by decide +kernel
theorem dX4_save_13 : decode cX4_save 13 = .ok (.aload_n 0, 1) := by decide +kernel
theorem dX4_save_14 : decode cX4_save 14 = .ok (.getfield 19, 3) := by decide +kernel
theorem dX4_save_17 : decode cX4_save 17 = .ok (.aload_n 0, 1) := by decide +kernel
theorem dX4_save_18 : decode cX4_save 18 = .ok (.getfield 154, 3) := by decide +kernel
theorem dX4_save_21 : decode cX4_save 21 = .ok (.aaload, 1) := by decide +kernel
theorem dX4_save_22 : decode cX4_save 22 = .ok (.aload_n 0, 1) := by decide +kernel
theorem dX4_save_23 : decode cX4_save 23 = .ok (.getfield 10, 3) := by decide +kernel
theorem dX4_save_26 : decode cX4_save 26 = .ok (.invokevirtual 121, 3) := by decide +kernel
theorem dX4_save_29 : decode cX4_save 29 = .ok (.aload_n 0, 1) := by decide +kernel
theorem dX4_save_30 : decode cX4_save 30 = .ok (.dup, 1) := by decide +kernel
theorem dX4_save_31 : decode cX4_save 31 = .ok (.getfield 154, 3) := by decide +kernel
theorem dX4_save_34 : decode cX4_save 34 = .ok (.iconst 1, 1) := by decide +kernel
theorem dX4_save_35 : decode cX4_save 35 = .ok (.iadd, 1) := by decide +kernel
theorem dX4_save_36 : decode cX4_save 36 = .ok (.putfield 154, 3) := by decide +kernel
theorem dX4_save_39 : decode cX4_save 39 = .ok (.return_, 1) := by decide +kernel
theorem dX4_dropOldest_0 : decode cX4_dropOldest 0 = .ok (.aload_n 0, 1) := by decide +kernel
theorem dX4_dropOldest_1 : decode cX4_dropOldest 1 = .ok (.getfield 19, 3) := by decide +kernel
theorem dX4_dropOldest_4 : decode cX4_dropOldest 4 = .ok (.iconst 0, 1) := by decide +kernel
theorem dX4_dropOldest_5 : decode cX4_dropOldest 5 = .ok (.aaload, 1) := by decide +kernel
theorem dX4_dropOldest_6 : decode cX4_dropOldest 6 = .ok (.astore_n 1, 1) := by decide +kernel
theorem dX4_dropOldest_7 : decode cX4_dropOldest 7 = .ok (.iconst 1, 1) := by decide +kernel
theorem dX4_dropOldest_8 : decode cX4_dropOldest 8 = .ok (.istore_n 2, 1) := by decide +kernel
theorem dX4_dropOldest_9 : decode cX4_dropOldest 9 = .ok (.iload_n 2, 1) := by decide +kernel
theorem dX4_dropOldest_10 : decode cX4_dropOldest 10 = .ok (.bipush 6, 2) := by decide +kernel
theorem dX4_dropOldest_12 : decode cX4_dropOldest 12 = .ok (.if_icmp .ge 23, 3) := by decide +kernel
theorem dX4_dropOldest_15 : decode cX4_dropOldest 15 = .ok (.aload_n 0, 1) := by decide +kernel
theorem dX4_dropOldest_16 : decode cX4_dropOldest 16 = .ok (.getfield 19, 3) := by decide +kernel
theorem dX4_dropOldest_19 : decode cX4_dropOldest 19 = .ok (.iload_n 2, 1) := by decide +kernel
theorem dX4_dropOldest_20 : decode cX4_dropOldest 20 = .ok (.iconst 1, 1) := by decide +kernel
theorem dX4_dropOldest_21 : decode cX4_dropOldest 21 = .ok (.isub, 1) := by decide +kernel
theorem dX4_dropOldest_22 : decode cX4_dropOldest 22 = .ok (.aload_n 0, 1) := by decide +kernel
theorem dX4_dropOldest_23 : decode cX4_dropOldest 23 = .ok (.getfield 19, 3) := by decide +kernel
theorem dX4_dropOldest_26 : decode cX4_dropOldest 26 = .ok (.iload_n 2, 1) := by decide +kernel
theorem dX4_dropOldest_27 : decode cX4_dropOldest 27 = .ok (.aaload, 1) := by decide +kernel
theorem dX4_dropOldest_28 : decode cX4_dropOldest 28 = .ok (.aastore, 1) := by decide +kernel
theorem dX4_dropOldest_29 : decode cX4_dropOldest 29 = .ok (.iinc 2 1, 3) := by decide +kernel
theorem dX4_dropOldest_32 : decode cX4_dropOldest 32 = .ok (.goto (-23), 3) := by decide +kernel
theorem dX4_dropOldest_35 : decode cX4_dropOldest 35 = .ok (.aload_n 0, 1) := by decide +kernel
theorem dX4_dropOldest_36 : decode cX4_dropOldest 36 = .ok (.getfield 19, 3) := by decide +kernel
theorem dX4_dropOldest_39 : decode cX4_dropOldest 39 = .ok (.iconst 5, 1) := by decide +kernel
theorem dX4_dropOldest_40 : decode cX4_dropOldest 40 = .ok (.aload_n 1, 1) := by decide +kernel
theorem dX4_dropOldest_41 : decode cX4_dropOldest 41 = .ok (.aastore, 1) := by decide +kernel
theorem dX4_dropOldest_42 : decode cX4_dropOldest 42 = .ok (.aload_n 0, 1) := by decide +kernel
theorem dX4_dropOldest_43 : decode cX4_dropOldest 43 = .ok (.iconst 5, 1) := by decide +kernel
theorem dX4_dropOldest_44 : decode cX4_dropOldest 44 = .ok (.putfield 154, 3) := by decide +kernel
theorem dX4_dropOldest_47 : decode cX4_dropOldest 47 = .ok (.return_, 1) := by decide +kernel
theorem dX4_scanBuffer_0 : decode cX4_scanBuffer 0 = .ok (.aload_n 0, 1) := by decide +kernel
theorem dX4_scanBuffer_1 : decode cX4_scanBuffer 1 = .ok (.getfield 30, 3) := by decide +kernel
theorem dX4_scanBuffer_4 : decode cX4_scanBuffer 4 = .ok (.invokevirtual 211, 3) := by decide +kernel
theorem dX4_scanBuffer_7 : decode cX4_scanBuffer 7 = .ok (.iconst 0, 1) := by decide +kernel
theorem dX4_scanBuffer_8 : decode cX4_scanBuffer 8 = .ok (.istore_n 1, 1) := by decide +kernel
theorem dX4_scanBuffer_9 : decode cX4_scanBuffer 9 = .ok (.iload_n 1, 1) := by decide +kernel
theorem dX4_scanBuffer_10 : decode cX4_scanBuffer 10 = .ok (.aload_n 0, 1) := by decide +kernel
theorem dX4_scanBuffer_11 : decode cX4_scanBuffer 11 = .ok (.getfield 137, 3) := by decide +kernel
theorem dX4_scanBuffer_14 : decode cX4_scanBuffer 14 = .ok (.if_icmp .ge 27, 3) := by decide +kernel
theorem dX4_scanBuffer_17 : decode cX4_scanBuffer 17 = .ok (.aload_n 0, 1) := by decide +kernel
theorem dX4_scanBuffer_18 : decode cX4_scanBuffer 18 = .ok (.getfield 30, 3) := by decide +kernel
theorem dX4_scanBuffer_21 : decode cX4_scanBuffer 21 = .ok (.aload_n 0, 1) := by decide +kernel
theorem dX4_scanBuffer_22 : decode cX4_scanBuffer 22 = .ok (.getfield 23, 3) := by decide +kernel
theorem dX4_scanBuffer_25 : decode cX4_scanBuffer 25 = .ok (.iload_n 1, 1) := by decide +kernel
theorem dX4_scanBuffer_26 : decode cX4_scanBuffer 26 = .ok (.iaload, 1) := by decide +kernel
theorem dX4_scanBuffer_27 : decode cX4_scanBuffer 27 = .ok (.invokevirtual 214, 3) := by decide +kernel
theorem dX4_scanBuffer_30 : decode cX4_scanBuffer 30 = .ok (.ifCond .ne 5, 3) := by decide +kernel
theorem dX4_scanBuffer_33 : decode cX4_scanBuffer 33 = .ok (.iload_n 1, 1) := by decide +kernel
theorem dX4_scanBuffer_34 : decode cX4_scanBuffer 34 = .ok (.ireturn, 1) := by decide +kernel
theorem dX4_scanBuffer_35 : decode cX4_scanBuffer 35 = .ok (.iinc 1 1, 3) := by decide +kernel
theorem dX4_scanBuffer_38 : decode cX4_scanBuffer 38 = .ok (.goto (-29), 3) := by decide +kernel
theorem dX4_scanBuffer_41 : decode cX4_scanBuffer 41 = .ok (.aload_n 0, 1) := by decide +kernel
theorem dX4_scanBuffer_42 : decode cX4_scanBuffer 42 = .ok (.getfield 137, 3) := by decide +kernel
theorem dX4_scanBuffer_45 : decode cX4_scanBuffer 45 = .ok (.ireturn, 1) := by decide +kernel
theorem dX4_runParts_0 : decode cX4_runParts 0 = .ok (.aload_n 0, 1) := by decide +kernel
theorem dX4_runParts_1 : decode cX4_runParts 1 = .ok (.getfield 30, 3) := by decide +kernel
theorem dX4_runParts_4 : decode cX4_runParts 4 = .ok (.invokevirtual 211, 3) := by decide +kernel
theorem dX4_runParts_7 : decode cX4_runParts 7 = .ok (.iconst 0, 1) := by decide +kernel
theorem dX4_runParts_8 : decode cX4_runParts 8 = .ok (.istore_n 1, 1) := by decide +kernel
theorem dX4_runParts_9 : decode cX4_runParts 9 = .ok (.iconst 0, 1) := by decide +kernel
theorem dX4_runParts_10 : decode cX4_runParts 10 = .ok (.istore_n 2, 1) := by decide +kernel
theorem dX4_runParts_11 : decode cX4_runParts 11 = .ok (.iload_n 2, 1) := by decide +kernel
theorem dX4_runParts_12 : decode cX4_runParts 12 = .ok (.aload_n 0, 1) := by decide +kernel
theorem dX4_runParts_13 : decode cX4_runParts 13 = .ok (.getfield 137, 3) := by decide +kernel
theorem dX4_runParts_16 : decode cX4_runParts 16 = .ok (.if_icmp .ge 46, 3) := by decide +kernel
theorem dX4_runParts_19 : decode cX4_runParts 19 = .ok (.aload_n 0, 1) := by decide +kernel
theorem dX4_runParts_20 : decode cX4_runParts 20 = .ok (.getfield 23, 3) := by decide +kernel
theorem dX4_runParts_23 : decode cX4_runParts 23 = .ok (.iload_n 2, 1) := by decide +kernel
theorem dX4_runParts_24 : decode cX4_runParts 24 = .ok (.iaload, 1) := by decide +kernel
theorem dX4_runParts_25 : decode cX4_runParts 25 = .ok (.bipush 59, 2) := by decide +kernel
theorem dX4_runParts_27 : decode cX4_runParts 27 = .ok (.if_icmp .ne 15, 3) := by decide +kernel
theorem dX4_runParts_30 : decode cX4_runParts 30 = .ok (.aload_n 0, 1) := by decide +kernel
theorem dX4_runParts_31 : decode cX4_runParts 31 = .ok (.invokevirtual 218, 3) := by decide +kernel
theorem dX4_runParts_34 : decode cX4_runParts 34 = .ok (.ifCond .ne 5, 3) := by decide +kernel
theorem dX4_runParts_37 : decode cX4_runParts 37 = .ok (.iload_n 1, 1) := by decide +kernel
theorem dX4_runParts_38 : decode cX4_runParts 38 = .ok (.ireturn, 1) := by decide +kernel
theorem dX4_runParts_39 : decode cX4_runParts 39 = .ok (.iinc 1 1, 3) := by decide +kernel
theorem dX4_runParts_42 : decode cX4_runParts 42 = .ok (.aload_n 0, 1) := by decide +kernel
theorem dX4_runParts_43 : decode cX4_runParts 43 = .ok (.getfield 30, 3) := by decide +kernel
theorem dX4_runParts_46 : decode cX4_runParts 46 = .ok (.aload_n 0, 1) := by decide +kernel
theorem dX4_runParts_47 : decode cX4_runParts 47 = .ok (.getfield 23, 3) := by decide +kernel
theorem dX4_runParts_50 : decode cX4_runParts 50 = .ok (.iload_n 2, 1) := by decide +kernel
theorem dX4_runParts_51 : decode cX4_runParts 51 = .ok (.iaload, 1) := by decide +kernel
theorem dX4_runParts_52 : decode cX4_runParts 52 = .ok (.invokevirtual 214, 3) := by decide +kernel
theorem dX4_runParts_55 : decode cX4_runParts 55 = .ok (.pop, 1) := by decide +kernel
theorem dX4_runParts_56 : decode cX4_runParts 56 = .ok (.iinc 2 1, 3) := by decide +kernel
theorem dX4_runParts_59 : decode cX4_runParts 59 = .ok (.goto (-48), 3) := by decide +kernel
theorem dX4_runParts_62 : decode cX4_runParts 62 = .ok (.aload_n 0, 1) := by decide +kernel
theorem dX4_runParts_63 : decode cX4_runParts 63 = .ok (.invokevirtual 218, 3) := by decide +kernel
theorem dX4_runParts_66 : decode cX4_runParts 66 = .ok (.ifCond .eq 9, 3) := by decide +kernel
theorem dX4_runParts_69 : decode cX4_runParts 69 = .ok (.iload_n 1, 1) := by decide +kernel
theorem dX4_runParts_70 : decode cX4_runParts 70 = .ok (.iconst 1, 1) := by decide +kernel
theorem dX4_runParts_71 : decode cX4_runParts 71 = .ok (.iadd, 1) := by decide +kernel
theorem dX4_runParts_72 : decode cX4_runParts 72 = .ok (.goto 4, 3) := by decide +kernel
theorem dX4_runParts_75 : decode cX4_runParts 75 = .ok (.iload_n 1, 1) := by decide +kernel
theorem dX4_runParts_76 : decode cX4_runParts 76 = .ok (.ireturn, 1) := by decide +kernel
theorem dX4_runPart_0 : decode cX4_runPart 0 = .ok (.aload_n 0, 1) := by decide +kernel
theorem dX4_runPart_1 : decode cX4_runPart 1 = .ok (.getfield 10, 3) := by decide +kernel
theorem dX4_runPart_4 : decode cX4_runPart 4 = .ok (.getfield 41, 3) := by decide +kernel
theorem dX4_runPart_7 : decode cX4_runPart 7 = .ok (.aload_n 0, 1) := by decide +kernel
theorem dX4_runPart_8 : decode cX4_runPart 8 = .ok (.getfield 30, 3) := by decide +kernel
theorem dX4_runPart_11 : decode cX4_runPart 11 = .ok (.getfield 221, 3) := by decide +kernel
theorem dX4_runPart_14 : decode cX4_runPart 14 = .ok (.aaload, 1) := by decide +kernel
theorem dX4_runPart_15 : decode cX4_runPart 15 = .ok (.astore_n 1, 1) := by decide +kernel
theorem dX4_runPart_16 : decode cX4_runPart 16 = .ok (.aload_n 0, 1) := by decide +kernel
theorem dX4_runPart_17 : decode cX4_runPart 17 = .ok (.getfield 30, 3) := by decide +kernel
theorem dX4_runPart_20 : decode cX4_runPart 20 = .ok (.getfield 224, 3) := by decide +kernel
theorem dX4_runPart_23 : decode cX4_runPart 23 = .ok (.ifCond .ne 23, 3) := by decide +kernel
theorem dX4_runPart_26 : decode cX4_runPart 26 = .ok (.aload_n 1, 1) := by decide +kernel
theorem dX4_runPart_27 : decode cX4_runPart 27 = .ok (.aload_n 0, 1) := by decide +kernel
theorem dX4_runPart_28 : decode cX4_runPart 28 = .ok (.getfield 30, 3) := by decide +kernel
theorem dX4_runPart_31 : decode cX4_runPart 31 = .ok (.getfield 228, 3) := by decide +kernel
theorem dX4_runPart_34 : decode cX4_runPart 34 = .ok (.aload_n 0, 1) := by decide +kernel
theorem dX4_runPart_35 : decode cX4_runPart 35 = .ok (.getfield 30, 3) := by decide +kernel
theorem dX4_runPart_38 : decode cX4_runPart 38 = .ok (.getfield 231, 3) := by decide +kernel
theorem dX4_runPart_41 : decode cX4_runPart 41 = .ok (.invokevirtual 45, 3) := by decide +kernel
theorem dX4_runPart_44 : decode cX4_runPart 44 = .ok (.iconst 1, 1) := by decide +kernel
theorem dX4_runPart_45 : decode cX4_runPart 45 = .ok (.ireturn, 1) := by decide +kernel
theorem dX4_runPart_46 : decode cX4_runPart 46 = .ok (.aload_n 1, 1) := by decide +kernel
theorem dX4_runPart_47 : decode cX4_runPart 47 = .ok (.aload_n 0, 1) := by decide +kernel
theorem dX4_runPart_48 : decode cX4_runPart 48 = .ok (.getfield 30, 3) := by decide +kernel
theorem dX4_runPart_51 : decode cX4_runPart 51 = .ok (.getfield 228, 3) := by decide +kernel
theorem dX4_runPart_54 : decode cX4_runPart 54 = .ok (.aload_n 0, 1) := by decide +kernel
theorem dX4_runPart_55 : decode cX4_runPart 55 = .ok (.getfield 30, 3) := by decide +kernel
theorem dX4_runPart_58 : decode cX4_runPart 58 = .ok (.getfield 231, 3) := by decide +kernel
theorem dX4_runPart_61 : decode cX4_runPart 61 = .ok (.invokevirtual 64, 3) := by decide +kernel
theorem dX4_runPart_64 : decode cX4_runPart 64 = .ok (.ifCond .ne 5, 3) := by decide +kernel
theorem dX4_runPart_67 : decode cX4_runPart 67 = .ok (.iconst 0, 1) := by decide +kernel
theorem dX4_runPart_68 : decode cX4_runPart 68 = .ok (.ireturn, 1) := by decide +kernel
theorem dX4_runPart_69 : decode cX4_runPart 69 = .ok (.aload_n 0, 1) := by decide +kernel
theorem dX4_runPart_70 : decode cX4_runPart 70 = .ok (.getfield 10, 3) := by decide +kernel
theorem dX4_runPart_73 : decode cX4_runPart 73 = .ok (.aload_n 0, 1) := by decide +kernel
theorem dX4_runPart_74 : decode cX4_runPart 74 = .ok (.getfield 30, 3) := by decide +kernel
theorem dX4_runPart_77 : decode cX4_runPart 77 = .ok (.getfield 228, 3) := by decide +kernel
theorem dX4_runPart_80 : decode cX4_runPart 80 = .ok (.aload_n 0, 1) := by decide +kernel
theorem dX4_runPart_81 : decode cX4_runPart 81 = .ok (.getfield 30, 3) := by decide +kernel
theorem dX4_runPart_84 : decode cX4_runPart 84 = .ok (.getfield 221, 3) := by decide +kernel
theorem dX4_runPart_87 : decode cX4_runPart 87 = .ok (.aload_n 0, 1) := by decide +kernel
theorem dX4_runPart_88 : decode cX4_runPart 88 = .ok (.getfield 30, 3) := by decide +kernel
theorem dX4_runPart_91 : decode cX4_runPart 91 = .ok (.getfield 231, 3) := by decide +kernel
theorem dX4_runPart_94 : decode cX4_runPart 94 = .ok (.aload_n 0, 1) := by decide +kernel
theorem dX4_runPart_95 : decode cX4_runPart 95 = .ok (.getfield 30, 3) := by decide +kernel
theorem dX4_runPart_98 : decode cX4_runPart 98 = .ok (.getfield 234, 3) := by decide +kernel
theorem dX4_runPart_101 : decode cX4_runPart 101 = .ok (.invokevirtual 75, 3) := by decide +kernel
theorem dX4_runPart_104 : decode cX4_runPart 104 = .ok (.pop, 1) := by decide +kernel
theorem dX4_runPart_105 : decode cX4_runPart 105 = .ok (.iconst 1, 1) := by decide +kernel
theorem dX4_runPart_106 : decode cX4_runPart 106 = .ok (.ireturn, 1) := by decide +kernel
theorem dX4_tally_0 : decode cX4_tally 0 = .ok (.iload_n 1, 1) := by decide +kernel
theorem dX4_tally_1 : decode cX4_tally 1 = .ok (.tableswitch 99 0 6 #[43, 51, 59, 67, 75, 83, 91], 43) := by decide +kernel
theorem dX4_tally_44 : decode cX4_tally 44 = .ok (.aload_n 0, 1) := by decide +kernel
theorem dX4_tally_45 : decode cX4_tally 45 = .ok (.getfield 10, 3) := by decide +kernel
theorem dX4_tally_48 : decode cX4_tally 48 = .ok (.invokevirtual 237, 3) := by decide +kernel
theorem dX4_tally_51 : decode cX4_tally 51 = .ok (.ireturn, 1) := by decide +kernel
theorem dX4_tally_52 : decode cX4_tally 52 = .ok (.aload_n 0, 1) := by decide +kernel
theorem dX4_tally_53 : decode cX4_tally 53 = .ok (.getfield 10, 3) := by decide +kernel
theorem dX4_tally_56 : decode cX4_tally 56 = .ok (.invokevirtual 240, 3) := by decide +kernel
theorem dX4_tally_59 : decode cX4_tally 59 = .ok (.ireturn, 1) := by decide +kernel
theorem dX4_tally_60 : decode cX4_tally 60 = .ok (.aload_n 0, 1) := by decide +kernel
theorem dX4_tally_61 : decode cX4_tally 61 = .ok (.getfield 10, 3) := by decide +kernel
theorem dX4_tally_64 : decode cX4_tally 64 = .ok (.getfield 243, 3) := by decide +kernel
theorem dX4_tally_67 : decode cX4_tally 67 = .ok (.ireturn, 1) := by decide +kernel
theorem dX4_tally_68 : decode cX4_tally 68 = .ok (.aload_n 0, 1) := by decide +kernel
theorem dX4_tally_69 : decode cX4_tally 69 = .ok (.getfield 10, 3) := by decide +kernel
theorem dX4_tally_72 : decode cX4_tally 72 = .ok (.getfield 246, 3) := by decide +kernel
theorem dX4_tally_75 : decode cX4_tally 75 = .ok (.ireturn, 1) := by decide +kernel
theorem dX4_tally_76 : decode cX4_tally 76 = .ok (.aload_n 0, 1) := by decide +kernel
theorem dX4_tally_77 : decode cX4_tally 77 = .ok (.getfield 10, 3) := by decide +kernel
theorem dX4_tally_80 : decode cX4_tally 80 = .ok (.getfield 129, 3) := by decide +kernel
theorem dX4_tally_83 : decode cX4_tally 83 = .ok (.ireturn, 1) := by decide +kernel
theorem dX4_tally_84 : decode cX4_tally 84 = .ok (.aload_n 0, 1) := by decide +kernel
theorem dX4_tally_85 : decode cX4_tally 85 = .ok (.getfield 10, 3) := by decide +kernel
theorem dX4_tally_88 : decode cX4_tally 88 = .ok (.getfield 100, 3) := by decide +kernel
theorem dX4_tally_91 : decode cX4_tally 91 = .ok (.ireturn, 1) := by decide +kernel
theorem dX4_tally_92 : decode cX4_tally 92 = .ok (.aload_n 0, 1) := by decide +kernel
theorem dX4_tally_93 : decode cX4_tally 93 = .ok (.getfield 10, 3) := by decide +kernel
theorem dX4_tally_96 : decode cX4_tally 96 = .ok (.getfield 118, 3) := by decide +kernel
theorem dX4_tally_99 : decode cX4_tally 99 = .ok (.ireturn, 1) := by decide +kernel
theorem dX4_tally_100 : decode cX4_tally 100 = .ok (.aload_n 0, 1) := by decide +kernel
theorem dX4_tally_101 : decode cX4_tally 101 = .ok (.getfield 154, 3) := by decide +kernel
theorem dX4_tally_104 : decode cX4_tally 104 = .ok (.ireturn, 1) := by decide +kernel
theorem dX4_shareOfAgreement_0 : decode cX4_shareOfAgreement 0 = .ok (.iconst 0, 1) := by decide +kernel
theorem dX4_shareOfAgreement_1 : decode cX4_shareOfAgreement 1 = .ok (.istore_n 1, 1) := by decide +kernel
theorem dX4_shareOfAgreement_2 : decode cX4_shareOfAgreement 2 = .ok (.iconst 0, 1) := by decide +kernel
theorem dX4_shareOfAgreement_3 : decode cX4_shareOfAgreement 3 = .ok (.istore_n 2, 1) := by decide +kernel
theorem dX4_shareOfAgreement_4 : decode cX4_shareOfAgreement 4 = .ok (.iload_n 2, 1) := by decide +kernel
theorem dX4_shareOfAgreement_5 : decode cX4_shareOfAgreement 5 = .ok (.iconst 3, 1) := by decide +kernel
theorem dX4_shareOfAgreement_6 : decode cX4_shareOfAgreement 6 = .ok (.if_icmp .ge 24, 3) := by decide +kernel
theorem dX4_shareOfAgreement_9 : decode cX4_shareOfAgreement 9 = .ok (.iload_n 1, 1) := by decide +kernel
theorem dX4_shareOfAgreement_10 : decode cX4_shareOfAgreement 10 = .ok (.aload_n 0, 1) := by decide +kernel
theorem dX4_shareOfAgreement_11 : decode cX4_shareOfAgreement 11 = .ok (.getfield 10, 3) := by decide +kernel
theorem dX4_shareOfAgreement_14 : decode cX4_shareOfAgreement 14 = .ok (.getfield 41, 3) := by decide +kernel
theorem dX4_shareOfAgreement_17 : decode cX4_shareOfAgreement 17 = .ok (.iload_n 2, 1) := by decide +kernel
theorem dX4_shareOfAgreement_18 : decode cX4_shareOfAgreement 18 = .ok (.aaload, 1) := by decide +kernel
theorem dX4_shareOfAgreement_19 : decode cX4_shareOfAgreement 19 = .ok (.invokevirtual 249, 3) := by decide +kernel
theorem dX4_shareOfAgreement_22 : decode cX4_shareOfAgreement 22 = .ok (.iadd, 1) := by decide +kernel
theorem dX4_shareOfAgreement_23 : decode cX4_shareOfAgreement 23 = .ok (.istore_n 1, 1) := by decide +kernel
theorem dX4_shareOfAgreement_24 : decode cX4_shareOfAgreement 24 = .ok (.iinc 2 1, 3) := by decide +kernel
theorem dX4_shareOfAgreement_27 : decode cX4_shareOfAgreement 27 = .ok (.goto (-23), 3) := by decide +kernel
theorem dX4_shareOfAgreement_30 : decode cX4_shareOfAgreement 30 = .ok (.iload_n 1, 1) := by decide +kernel
theorem dX4_shareOfAgreement_31 : decode cX4_shareOfAgreement 31 = .ok (.i2d, 1) := by decide +kernel
theorem dX4_shareOfAgreement_32 : decode cX4_shareOfAgreement 32 = .ok (.ldc2_w 252, 3) := by decide +kernel
theorem dX4_shareOfAgreement_35 : decode cX4_shareOfAgreement 35 = .ok (.ddiv, 1) := by decide +kernel
theorem dX4_shareOfAgreement_36 : decode cX4_shareOfAgreement 36 = .ok (.dreturn, 1) := by decide +kernel
theorem dX4_mix_0 : decode cX4_mix 0 = .ok (.ldc2_w 254, 3) := by decide +kernel
theorem dX4_mix_3 : decode cX4_mix 3 = .ok (.lload_n 0, 1) := by decide +kernel
theorem dX4_mix_4 : decode cX4_mix 4 = .ok (.lmul, 1) := by decide +kernel
theorem dX4_mix_5 : decode cX4_mix 5 = .ok (.lload_n 2, 1) := by decide +kernel
theorem dX4_mix_6 : decode cX4_mix 6 = .ok (.ladd, 1) := by decide +kernel
theorem dX4_mix_7 : decode cX4_mix 7 = .ok (.lreturn, 1) := by decide +kernel
theorem dX4_mixKey_0 : decode cX4_mixKey 0 = .ok (.lload_n 0, 1) := by decide +kernel
theorem dX4_mixKey_1 : decode cX4_mixKey 1 = .ok (.lstore_n 3, 1) := by decide +kernel
theorem dX4_mixKey_2 : decode cX4_mixKey 2 = .ok (.iconst 0, 1) := by decide +kernel
theorem dX4_mixKey_3 : decode cX4_mixKey 3 = .ok (.istore 5, 2) := by decide +kernel
theorem dX4_mixKey_5 : decode cX4_mixKey 5 = .ok (.iload 5, 2) := by decide +kernel
theorem dX4_mixKey_7 : decode cX4_mixKey 7 = .ok (.bipush 7, 2) := by decide +kernel
theorem dX4_mixKey_9 : decode cX4_mixKey 9 = .ok (.if_icmp .gt 21, 3) := by decide +kernel
theorem dX4_mixKey_12 : decode cX4_mixKey 12 = .ok (.lload_n 3, 1) := by decide +kernel
theorem dX4_mixKey_13 : decode cX4_mixKey 13 = .ok (.aload_n 2, 1) := by decide +kernel
theorem dX4_mixKey_14 : decode cX4_mixKey 14 = .ok (.iload 5, 2) := by decide +kernel
theorem dX4_mixKey_16 : decode cX4_mixKey 16 = .ok (.invokevirtual 169, 3) := by decide +kernel
theorem dX4_mixKey_19 : decode cX4_mixKey 19 = .ok (.i2l, 1) := by decide +kernel
theorem dX4_mixKey_20 : decode cX4_mixKey 20 = .ok (.invokestatic 187, 3) := by decide +kernel
theorem dX4_mixKey_23 : decode cX4_mixKey 23 = .ok (.lstore_n 3, 1) := by decide +kernel
theorem dX4_mixKey_24 : decode cX4_mixKey 24 = .ok (.iinc 5 1, 3) := by decide +kernel
theorem dX4_mixKey_27 : decode cX4_mixKey 27 = .ok (.goto (-22), 3) := by decide +kernel
theorem dX4_mixKey_30 : decode cX4_mixKey 30 = .ok (.iconst 0, 1) := by decide +kernel
theorem dX4_mixKey_31 : decode cX4_mixKey 31 = .ok (.istore 5, 2) := by decide +kernel
theorem dX4_mixKey_33 : decode cX4_mixKey 33 = .ok (.iload 5, 2) := by decide +kernel
theorem dX4_mixKey_35 : decode cX4_mixKey 35 = .ok (.iconst 3, 1) := by decide +kernel
theorem dX4_mixKey_36 : decode cX4_mixKey 36 = .ok (.if_icmp .ge 17, 3) := by decide +kernel
theorem dX4_mixKey_39 : decode cX4_mixKey 39 = .ok (.lload_n 3, 1) := by decide +kernel
theorem dX4_mixKey_40 : decode cX4_mixKey 40 = .ok (.aload_n 2, 1) := by decide +kernel
theorem dX4_mixKey_41 : decode cX4_mixKey 41 = .ok (.iload 5, 2) := by decide +kernel
theorem dX4_mixKey_43 : decode cX4_mixKey 43 = .ok (.invokestatic 256, 3) := by decide +kernel
theorem dX4_mixKey_46 : decode cX4_mixKey 46 = .ok (.lstore_n 3, 1) := by decide +kernel
theorem dX4_mixKey_47 : decode cX4_mixKey 47 = .ok (.iinc 5 1, 3) := by decide +kernel
theorem dX4_mixKey_50 : decode cX4_mixKey 50 = .ok (.goto (-17), 3) := by decide +kernel
theorem dX4_mixKey_53 : decode cX4_mixKey 53 = .ok (.iconst 0, 1) := by decide +kernel
theorem dX4_mixKey_54 : decode cX4_mixKey 54 = .ok (.istore 5, 2) := by decide +kernel
theorem dX4_mixKey_56 : decode cX4_mixKey 56 = .ok (.iload 5, 2) := by decide +kernel
theorem dX4_mixKey_58 : decode cX4_mixKey 58 = .ok (.iconst 5, 1) := by decide +kernel
theorem dX4_mixKey_59 : decode cX4_mixKey 59 = .ok (.if_icmp .ge 61, 3) := by decide +kernel
theorem dX4_mixKey_62 : decode cX4_mixKey 62 = .ok (.lload_n 3, 1) := by decide +kernel
theorem dX4_mixKey_63 : decode cX4_mixKey 63 = .ok (.aload_n 2, 1) := by decide +kernel
theorem dX4_mixKey_64 : decode cX4_mixKey 64 = .ok (.getfield 165, 3) := by decide +kernel
theorem dX4_mixKey_67 : decode cX4_mixKey 67 = .ok (.iload 5, 2) := by decide +kernel
theorem dX4_mixKey_69 : decode cX4_mixKey 69 = .ok (.aaload, 1) := by decide +kernel
theorem dX4_mixKey_70 : decode cX4_mixKey 70 = .ok (.invokestatic 260, 3) := by decide +kernel
theorem dX4_mixKey_73 : decode cX4_mixKey 73 = .ok (.lstore_n 3, 1) := by decide +kernel
theorem dX4_mixKey_74 : decode cX4_mixKey 74 = .ok (.lload_n 3, 1) := by decide +kernel
theorem dX4_mixKey_75 : decode cX4_mixKey 75 = .ok (.aload_n 2, 1) := by decide +kernel
theorem dX4_mixKey_76 : decode cX4_mixKey 76 = .ok (.iload 5, 2) := by decide +kernel
theorem dX4_mixKey_78 : decode cX4_mixKey 78 = .ok (.invokevirtual 109, 3) := by decide +kernel
theorem dX4_mixKey_81 : decode cX4_mixKey 81 = .ok (.i2l, 1) := by decide +kernel
theorem dX4_mixKey_82 : decode cX4_mixKey 82 = .ok (.invokestatic 187, 3) := by decide +kernel
theorem dX4_mixKey_85 : decode cX4_mixKey 85 = .ok (.lstore_n 3, 1) := by decide +kernel
theorem dX4_mixKey_86 : decode cX4_mixKey 86 = .ok (.lload_n 3, 1) := by decide +kernel
theorem dX4_mixKey_87 : decode cX4_mixKey 87 = .ok (.aload_n 2, 1) := by decide +kernel
theorem dX4_mixKey_88 : decode cX4_mixKey 88 = .ok (.iload 5, 2) := by decide +kernel
theorem dX4_mixKey_90 : decode cX4_mixKey 90 = .ok (.iconst 0, 1) := by decide +kernel
theorem dX4_mixKey_91 : decode cX4_mixKey 91 = .ok (.iconst 0, 1) := by decide +kernel
theorem dX4_mixKey_92 : decode cX4_mixKey 92 = .ok (.invokevirtual 175, 3) := by decide +kernel
theorem dX4_mixKey_95 : decode cX4_mixKey 95 = .ok (.i2l, 1) := by decide +kernel
theorem dX4_mixKey_96 : decode cX4_mixKey 96 = .ok (.invokestatic 187, 3) := by decide +kernel
theorem dX4_mixKey_99 : decode cX4_mixKey 99 = .ok (.lstore_n 3, 1) := by decide +kernel
theorem dX4_mixKey_100 : decode cX4_mixKey 100 = .ok (.lload_n 3, 1) := by decide +kernel
theorem dX4_mixKey_101 : decode cX4_mixKey 101 = .ok (.aload_n 2, 1) := by decide +kernel
theorem dX4_mixKey_102 : decode cX4_mixKey 102 = .ok (.iload 5, 2) := by decide +kernel
theorem dX4_mixKey_104 : decode cX4_mixKey 104 = .ok (.iconst 0, 1) := by decide +kernel
theorem dX4_mixKey_105 : decode cX4_mixKey 105 = .ok (.iconst 1, 1) := by decide +kernel
theorem dX4_mixKey_106 : decode cX4_mixKey 106 = .ok (.invokevirtual 175, 3) := by decide +kernel
theorem dX4_mixKey_109 : decode cX4_mixKey 109 = .ok (.i2l, 1) := by decide +kernel
theorem dX4_mixKey_110 : decode cX4_mixKey 110 = .ok (.invokestatic 187, 3) := by decide +kernel
theorem dX4_mixKey_113 : decode cX4_mixKey 113 = .ok (.lstore_n 3, 1) := by decide +kernel
theorem dX4_mixKey_114 : decode cX4_mixKey 114 = .ok (.iinc 5 1, 3) := by decide +kernel
theorem dX4_mixKey_117 : decode cX4_mixKey 117 = .ok (.goto (-61), 3) := by decide +kernel
theorem dX4_mixKey_120 : decode cX4_mixKey 120 = .ok (.lload_n 3, 1) := by decide +kernel
theorem dX4_mixKey_121 : decode cX4_mixKey 121 = .ok (.lreturn, 1) := by decide +kernel
theorem dX4_mixStore_0 : decode cX4_mixStore 0 = .ok (.lload_n 0, 1) := by decide +kernel
theorem dX4_mixStore_1 : decode cX4_mixStore 1 = .ok (.lstore 4, 2) := by decide +kernel
theorem dX4_mixStore_3 : decode cX4_mixStore 3 = .ok (.iconst 0, 1) := by decide +kernel
theorem dX4_mixStore_4 : decode cX4_mixStore 4 = .ok (.istore 6, 2) := by decide +kernel
theorem dX4_mixStore_6 : decode cX4_mixStore 6 = .ok (.iload 6, 2) := by decide +kernel
theorem dX4_mixStore_8 : decode cX4_mixStore 8 = .ok (.aload_n 2, 1) := by decide +kernel
theorem dX4_mixStore_9 : decode cX4_mixStore 9 = .ok (.getfield 51, 3) := by decide +kernel
theorem dX4_mixStore_12 : decode cX4_mixStore 12 = .ok (.iload_n 3, 1) := by decide +kernel
theorem dX4_mixStore_13 : decode cX4_mixStore 13 = .ok (.aaload, 1) := by decide +kernel
theorem dX4_mixStore_14 : decode cX4_mixStore 14 = .ok (.getfield 55, 3) := by decide +kernel
theorem dX4_mixStore_17 : decode cX4_mixStore 17 = .ok (.if_icmp .ge 41, 3) := by decide +kernel
theorem dX4_mixStore_20 : decode cX4_mixStore 20 = .ok (.iconst 0, 1) := by decide +kernel
theorem dX4_mixStore_21 : decode cX4_mixStore 21 = .ok (.istore 7, 2) := by decide +kernel
theorem dX4_mixStore_23 : decode cX4_mixStore 23 = .ok (.iload 7, 2) := by decide +kernel
theorem dX4_mixStore_25 : decode cX4_mixStore 25 = .ok (.iconst 4, 1) := by decide +kernel
theorem dX4_mixStore_26 : decode cX4_mixStore 26 = .ok (.if_icmp .gt 26, 3) := by decide +kernel
theorem dX4_mixStore_29 : decode cX4_mixStore 29 = .ok (.lload 4, 2) := by decide +kernel
theorem dX4_mixStore_31 : decode cX4_mixStore 31 = .ok (.aload_n 2, 1) := by decide +kernel
theorem dX4_mixStore_32 : decode cX4_mixStore 32 = .ok (.iload_n 3, 1) := by decide +kernel
theorem dX4_mixStore_33 : decode cX4_mixStore 33 = .ok (.iload 6, 2) := by decide +kernel
theorem dX4_mixStore_35 : decode cX4_mixStore 35 = .ok (.iload 7, 2) := by decide +kernel
theorem dX4_mixStore_37 : decode cX4_mixStore 37 = .ok (.invokevirtual 159, 3) := by decide +kernel
theorem dX4_mixStore_40 : decode cX4_mixStore 40 = .ok (.i2l, 1) := by decide +kernel
theorem dX4_mixStore_41 : decode cX4_mixStore 41 = .ok (.invokestatic 187, 3) := by decide +kernel
theorem dX4_mixStore_44 : decode cX4_mixStore 44 = .ok (.lstore 4, 2) := by decide +kernel
theorem dX4_mixStore_46 : decode cX4_mixStore 46 = .ok (.iinc 7 1, 3) := by decide +kernel
theorem dX4_mixStore_49 : decode cX4_mixStore 49 = .ok (.goto (-26), 3) := by decide +kernel
theorem dX4_mixStore_52 : decode cX4_mixStore 52 = .ok (.iinc 6 1, 3) := by decide +kernel
theorem dX4_mixStore_55 : decode cX4_mixStore 55 = .ok (.goto (-49), 3) := by decide +kernel
theorem dX4_mixStore_58 : decode cX4_mixStore 58 = .ok (.lload 4, 2) := by decide +kernel
theorem dX4_mixStore_60 : decode cX4_mixStore 60 = .ok (.aload_n 2, 1) := by decide +kernel
theorem dX4_mixStore_61 : decode cX4_mixStore 61 = .ok (.getfield 51, 3) := by decide +kernel
theorem dX4_mixStore_64 : decode cX4_mixStore 64 = .ok (.iload_n 3, 1) := by decide +kernel
theorem dX4_mixStore_65 : decode cX4_mixStore 65 = .ok (.aaload, 1) := by decide +kernel
theorem dX4_mixStore_66 : decode cX4_mixStore 66 = .ok (.getfield 162, 3) := by decide +kernel
theorem dX4_mixStore_69 : decode cX4_mixStore 69 = .ok (.invokestatic 260, 3) := by decide +kernel
theorem dX4_mixStore_72 : decode cX4_mixStore 72 = .ok (.lreturn, 1) := by decide +kernel
theorem dX4_mixRow_0 : decode cX4_mixRow 0 = .ok (.lload_n 0, 1) := by decide +kernel
theorem dX4_mixRow_1 : decode cX4_mixRow 1 = .ok (.lstore_n 3, 1) := by decide +kernel
theorem dX4_mixRow_2 : decode cX4_mixRow 2 = .ok (.iconst 0, 1) := by decide +kernel
theorem dX4_mixRow_3 : decode cX4_mixRow 3 = .ok (.istore 5, 2) := by decide +kernel
theorem dX4_mixRow_5 : decode cX4_mixRow 5 = .ok (.iload 5, 2) := by decide +kernel
theorem dX4_mixRow_7 : decode cX4_mixRow 7 = .ok (.aload_n 2, 1) := by decide +kernel
theorem dX4_mixRow_8 : decode cX4_mixRow 8 = .ok (.arraylength, 1) := by decide +kernel
theorem dX4_mixRow_9 : decode cX4_mixRow 9 = .ok (.if_icmp .ge 19, 3) := by decide +kernel
theorem dX4_mixRow_12 : decode cX4_mixRow 12 = .ok (.lload_n 3, 1) := by decide +kernel
theorem dX4_mixRow_13 : decode cX4_mixRow 13 = .ok (.aload_n 2, 1) := by decide +kernel
theorem dX4_mixRow_14 : decode cX4_mixRow 14 = .ok (.iload 5, 2) := by decide +kernel
theorem dX4_mixRow_16 : decode cX4_mixRow 16 = .ok (.iaload, 1) := by decide +kernel
theorem dX4_mixRow_17 : decode cX4_mixRow 17 = .ok (.i2l, 1) := by decide +kernel
theorem dX4_mixRow_18 : decode cX4_mixRow 18 = .ok (.invokestatic 187, 3) := by decide +kernel
theorem dX4_mixRow_21 : decode cX4_mixRow 21 = .ok (.lstore_n 3, 1) := by decide +kernel
theorem dX4_mixRow_22 : decode cX4_mixRow 22 = .ok (.iinc 5 1, 3) := by decide +kernel
theorem dX4_mixRow_25 : decode cX4_mixRow 25 = .ok (.goto (-20), 3) := by decide +kernel
theorem dX4_mixRow_28 : decode cX4_mixRow 28 = .ok (.lload_n 3, 1) := by decide +kernel
theorem dX4_mixRow_29 : decode cX4_mixRow 29 = .ok (.lreturn, 1) := by decide +kernel
theorem dX4_bitsOfShare_0 : decode cX4_bitsOfShare 0 = .ok (.dload_n 0, 1) := by decide +kernel
theorem dX4_bitsOfShare_1 : decode cX4_bitsOfShare 1 = .ok (.dconst 0, 1) := by decide +kernel
theorem dX4_bitsOfShare_2 : decode cX4_bitsOfShare 2 = .ok (.dcmp .g, 1) := by decide +kernel
theorem dX4_bitsOfShare_3 : decode cX4_bitsOfShare 3 = .ok (.ifCond .gt 5, 3) := by decide +kernel
theorem dX4_bitsOfShare_6 : decode cX4_bitsOfShare 6 = .ok (.lconst 0, 1) := by decide +kernel
theorem dX4_bitsOfShare_7 : decode cX4_bitsOfShare 7 = .ok (.lreturn, 1) := by decide +kernel
theorem dX4_bitsOfShare_8 : decode cX4_bitsOfShare 8 = .ok (.dload_n 0, 1) := by decide +kernel
theorem dX4_bitsOfShare_9 : decode cX4_bitsOfShare 9 = .ok (.dstore_n 2, 1) := by decide +kernel
theorem dX4_bitsOfShare_10 : decode cX4_bitsOfShare 10 = .ok (.ldc2_w 264, 3) := by decide +kernel
theorem dX4_bitsOfShare_13 : decode cX4_bitsOfShare 13 = .ok (.lstore 4, 2) := by decide +kernel
theorem dX4_bitsOfShare_15 : decode cX4_bitsOfShare 15 = .ok (.iconst 1, 1) := by decide +kernel
theorem dX4_bitsOfShare_16 : decode cX4_bitsOfShare 16 = .ok (.istore 6, 2) := by decide +kernel
theorem dX4_bitsOfShare_18 : decode cX4_bitsOfShare 18 = .ok (.iload 6, 2) := by decide +kernel
theorem dX4_bitsOfShare_20 : decode cX4_bitsOfShare 20 = .ok (.sipush 1023, 3) := by decide +kernel
theorem dX4_bitsOfShare_23 : decode cX4_bitsOfShare 23 = .ok (.if_icmp .ge 27, 3) := by decide +kernel
theorem dX4_bitsOfShare_26 : decode cX4_bitsOfShare 26 = .ok (.dload_n 2, 1) := by decide +kernel
theorem dX4_bitsOfShare_27 : decode cX4_bitsOfShare 27 = .ok (.dconst 1, 1) := by decide +kernel
theorem dX4_bitsOfShare_28 : decode cX4_bitsOfShare 28 = .ok (.dcmp .g, 1) := by decide +kernel
theorem dX4_bitsOfShare_29 : decode cX4_bitsOfShare 29 = .ok (.ifCond .ge 21, 3) := by decide +kernel
theorem dX4_bitsOfShare_32 : decode cX4_bitsOfShare 32 = .ok (.dload_n 2, 1) := by decide +kernel
theorem dX4_bitsOfShare_33 : decode cX4_bitsOfShare 33 = .ok (.ldc2_w 266, 3) := by decide +kernel
theorem dX4_bitsOfShare_36 : decode cX4_bitsOfShare 36 = .ok (.dmul, 1) := by decide +kernel
theorem dX4_bitsOfShare_37 : decode cX4_bitsOfShare 37 = .ok (.dstore_n 2, 1) := by decide +kernel
theorem dX4_bitsOfShare_38 : decode cX4_bitsOfShare 38 = .ok (.lload 4, 2) := by decide +kernel
theorem dX4_bitsOfShare_40 : decode cX4_bitsOfShare 40 = .ok (.lconst 1, 1) := by decide +kernel
theorem dX4_bitsOfShare_41 : decode cX4_bitsOfShare 41 = .ok (.lsub, 1) := by decide +kernel
theorem dX4_bitsOfShare_42 : decode cX4_bitsOfShare 42 = .ok (.lstore 4, 2) := by decide +kernel
theorem dX4_bitsOfShare_44 : decode cX4_bitsOfShare 44 = .ok (.iinc 6 1, 3) := by decide +kernel
theorem dX4_bitsOfShare_47 : decode cX4_bitsOfShare 47 = .ok (.goto (-29), 3) := by decide +kernel
theorem dX4_bitsOfShare_50 : decode cX4_bitsOfShare 50 = .ok (.ldc2_w 268, 3) := by decide +kernel
theorem dX4_bitsOfShare_53 : decode cX4_bitsOfShare 53 = .ok (.lstore 6, 2) := by decide +kernel
theorem dX4_bitsOfShare_55 : decode cX4_bitsOfShare 55 = .ok (.dload_n 2, 1) := by decide +kernel
theorem dX4_bitsOfShare_56 : decode cX4_bitsOfShare 56 = .ok (.lload 6, 2) := by decide +kernel
theorem dX4_bitsOfShare_58 : decode cX4_bitsOfShare 58 = .ok (.l2d, 1) := by decide +kernel
theorem dX4_bitsOfShare_59 : decode cX4_bitsOfShare 59 = .ok (.dmul, 1) := by decide +kernel
theorem dX4_bitsOfShare_60 : decode cX4_bitsOfShare 60 = .ok (.d2l, 1) := by decide +kernel
theorem dX4_bitsOfShare_61 : decode cX4_bitsOfShare 61 = .ok (.lload 6, 2) := by decide +kernel
theorem dX4_bitsOfShare_63 : decode cX4_bitsOfShare 63 = .ok (.lsub, 1) := by decide +kernel
theorem dX4_bitsOfShare_64 : decode cX4_bitsOfShare 64 = .ok (.lstore 8, 2) := by decide +kernel
theorem dX4_bitsOfShare_66 : decode cX4_bitsOfShare 66 = .ok (.lload 4, 2) := by decide +kernel
theorem dX4_bitsOfShare_68 : decode cX4_bitsOfShare 68 = .ok (.bipush 52, 2) := by decide +kernel
theorem dX4_bitsOfShare_70 : decode cX4_bitsOfShare 70 = .ok (.lshl, 1) := by decide +kernel
theorem dX4_bitsOfShare_71 : decode cX4_bitsOfShare 71 = .ok (.lload 8, 2) := by decide +kernel
theorem dX4_bitsOfShare_73 : decode cX4_bitsOfShare 73 = .ok (.ladd, 1) := by decide +kernel
theorem dX4_bitsOfShare_74 : decode cX4_bitsOfShare 74 = .ok (.lreturn, 1) := by decide +kernel
theorem dX4_writerOf_0 : decode cX4_writerOf 0 = .ok (.iload_n 0, 1) := by decide +kernel
theorem dX4_writerOf_1 : decode cX4_writerOf 1 = .ok (.sipush 1000, 3) := by decide +kernel
theorem dX4_writerOf_4 : decode cX4_writerOf 4 = .ok (.idiv, 1) := by decide +kernel
theorem dX4_writerOf_5 : decode cX4_writerOf 5 = .ok (.ireturn, 1) := by decide +kernel
theorem dX4_numberOf_0 : decode cX4_numberOf 0 = .ok (.iload_n 0, 1) := by decide +kernel
theorem dX4_numberOf_1 : decode cX4_numberOf 1 = .ok (.sipush 1000, 3) := by decide +kernel
theorem dX4_numberOf_4 : decode cX4_numberOf 4 = .ok (.irem, 1) := by decide +kernel
theorem dX4_numberOf_5 : decode cX4_numberOf 5 = .ok (.ireturn, 1) := by decide +kernel
theorem dX4_covers_0 : decode cX4_covers 0 = .ok (.iload_n 1, 1) := by decide +kernel
theorem dX4_covers_1 : decode cX4_covers 1 = .ok (.sipush 1000, 3) := by decide +kernel
theorem dX4_covers_4 : decode cX4_covers 4 = .ok (.idiv, 1) := by decide +kernel
theorem dX4_covers_5 : decode cX4_covers 5 = .ok (.istore_n 2, 1) := by decide +kernel
theorem dX4_covers_6 : decode cX4_covers 6 = .ok (.iload_n 2, 1) := by decide +kernel
theorem dX4_covers_7 : decode cX4_covers 7 = .ok (.ifCond .lt 24, 3) := by decide +kernel
theorem dX4_covers_10 : decode cX4_covers 10 = .ok (.iload_n 2, 1) := by decide +kernel
theorem dX4_covers_11 : decode cX4_covers 11 = .ok (.aload_n 0, 1) := by decide +kernel
theorem dX4_covers_12 : decode cX4_covers 12 = .ok (.arraylength, 1) := by decide +kernel
theorem dX4_covers_13 : decode cX4_covers 13 = .ok (.if_icmp .ge 18, 3) := by decide +kernel
theorem dX4_covers_16 : decode cX4_covers 16 = .ok (.aload_n 0, 1) := by decide +kernel
theorem dX4_covers_17 : decode cX4_covers 17 = .ok (.iload_n 2, 1) := by decide +kernel
theorem dX4_covers_18 : decode cX4_covers 18 = .ok (.iaload, 1) := by decide +kernel
theorem dX4_covers_19 : decode cX4_covers 19 = .ok (.iload_n 1, 1) := by decide +kernel
theorem dX4_covers_20 : decode cX4_covers 20 = .ok (.sipush 1000, 3) := by decide +kernel
theorem dX4_covers_23 : decode cX4_covers 23 = .ok (.irem, 1) := by decide +kernel
theorem dX4_covers_24 : decode cX4_covers 24 = .ok (.if_icmp .lt 7, 3) := by decide +kernel
theorem dX4_covers_27 : decode cX4_covers 27 = .ok (.iconst 1, 1) := by decide +kernel
theorem dX4_covers_28 : decode cX4_covers 28 = .ok (.goto 4, 3) := by decide +kernel
theorem dX4_covers_31 : decode cX4_covers 31 = .ok (.iconst 0, 1) := by decide +kernel
theorem dX4_covers_32 : decode cX4_covers 32 = .ok (.ireturn, 1) := by decide +kernel
theorem dX4_mergeInto_0 : decode cX4_mergeInto 0 = .ok (.iconst 0, 1) := by decide +kernel
theorem dX4_mergeInto_1 : decode cX4_mergeInto 1 = .ok (.istore_n 2, 1) := by decide +kernel
theorem dX4_mergeInto_2 : decode cX4_mergeInto 2 = .ok (.iload_n 2, 1) := by decide +kernel
theorem dX4_mergeInto_3 : decode cX4_mergeInto 3 = .ok (.iconst 5, 1) := by decide +kernel
theorem dX4_mergeInto_4 : decode cX4_mergeInto 4 = .ok (.if_icmp .ge 21, 3) := by decide +kernel
theorem dX4_mergeInto_7 : decode cX4_mergeInto 7 = .ok (.aload_n 0, 1) := by decide +kernel
theorem dX4_mergeInto_8 : decode cX4_mergeInto 8 = .ok (.iload_n 2, 1) := by decide +kernel
theorem dX4_mergeInto_9 : decode cX4_mergeInto 9 = .ok (.aload_n 0, 1) := by decide +kernel
theorem dX4_mergeInto_10 : decode cX4_mergeInto 10 = .ok (.iload_n 2, 1) := by decide +kernel
theorem dX4_mergeInto_11 : decode cX4_mergeInto 11 = .ok (.iaload, 1) := by decide +kernel
theorem dX4_mergeInto_12 : decode cX4_mergeInto 12 = .ok (.aload_n 1, 1) := by decide +kernel
theorem dX4_mergeInto_13 : decode cX4_mergeInto 13 = .ok (.iload_n 2, 1) := by decide +kernel
theorem dX4_mergeInto_14 : decode cX4_mergeInto 14 = .ok (.iaload, 1) := by decide +kernel
theorem dX4_mergeInto_15 : decode cX4_mergeInto 15 = .ok (.invokestatic 270, 3) := by decide +kernel
theorem dX4_mergeInto_18 : decode cX4_mergeInto 18 = .ok (.iastore, 1) := by decide +kernel
theorem dX4_mergeInto_19 : decode cX4_mergeInto 19 = .ok (.iinc 2 1, 3) := by decide +kernel
theorem dX4_mergeInto_22 : decode cX4_mergeInto 22 = .ok (.goto (-20), 3) := by decide +kernel
theorem dX4_mergeInto_25 : decode cX4_mergeInto 25 = .ok (.return_, 1) := by decide +kernel
theorem dX4_sameNumbers_0 : decode cX4_sameNumbers 0 = .ok (.iconst 0, 1) := by decide +kernel
theorem dX4_sameNumbers_1 : decode cX4_sameNumbers 1 = .ok (.istore_n 2, 1) := by decide +kernel
theorem dX4_sameNumbers_2 : decode cX4_sameNumbers 2 = .ok (.iload_n 2, 1) := by decide +kernel
theorem dX4_sameNumbers_3 : decode cX4_sameNumbers 3 = .ok (.iconst 5, 1) := by decide +kernel
theorem dX4_sameNumbers_4 : decode cX4_sameNumbers 4 = .ok (.if_icmp .ge 20, 3) := by decide +kernel
theorem dX4_sameNumbers_7 : decode cX4_sameNumbers 7 = .ok (.aload_n 0, 1) := by decide +kernel
theorem dX4_sameNumbers_8 : decode cX4_sameNumbers 8 = .ok (.iload_n 2, 1) := by decide +kernel
theorem dX4_sameNumbers_9 : decode cX4_sameNumbers 9 = .ok (.iaload, 1) := by decide +kernel
theorem dX4_sameNumbers_10 : decode cX4_sameNumbers 10 = .ok (.aload_n 1, 1) := by decide +kernel
theorem dX4_sameNumbers_11 : decode cX4_sameNumbers 11 = .ok (.iload_n 2, 1) := by decide +kernel
theorem dX4_sameNumbers_12 : decode cX4_sameNumbers 12 = .ok (.iaload, 1) := by decide +kernel
theorem dX4_sameNumbers_13 : decode cX4_sameNumbers 13 = .ok (.if_icmp .eq 5, 3) := by decide +kernel
theorem dX4_sameNumbers_16 : decode cX4_sameNumbers 16 = .ok (.iconst 0, 1) := by decide +kernel
theorem dX4_sameNumbers_17 : decode cX4_sameNumbers 17 = .ok (.ireturn, 1) := by decide +kernel
theorem dX4_sameNumbers_18 : decode cX4_sameNumbers 18 = .ok (.iinc 2 1, 3) := by decide +kernel
theorem dX4_sameNumbers_21 : decode cX4_sameNumbers 21 = .ok (.goto (-19), 3) := by decide +kernel
theorem dX4_sameNumbers_24 : decode cX4_sameNumbers 24 = .ok (.iconst 1, 1) := by decide +kernel
theorem dX4_sameNumbers_25 : decode cX4_sameNumbers 25 = .ok (.ireturn, 1) := by decide +kernel
theorem dJxe99ae_isNaN_b9ae7_0 : decode cJxe99ae_isNaN_b9ae7 0 = .ok (.dload_n 0, 1) := by decide +kernel
theorem dJxe99ae_isNaN_b9ae7_1 : decode cJxe99ae_isNaN_b9ae7 1 = .ok (.dload_n 0, 1) := by decide +kernel
theorem dJxe99ae_isNaN_b9ae7_2 : decode cJxe99ae_isNaN_b9ae7 2 = .ok (.dcmp .l, 1) := by decide +kernel
theorem dJxe99ae_isNaN_b9ae7_3 : decode cJxe99ae_isNaN_b9ae7 3 = .ok (.ifCond .eq 7, 3) := by decide +kernel
theorem dJxe99ae_isNaN_b9ae7_6 : decode cJxe99ae_isNaN_b9ae7 6 = .ok (.iconst 1, 1) := by decide +kernel
theorem dJxe99ae_isNaN_b9ae7_7 : decode cJxe99ae_isNaN_b9ae7 7 = .ok (.goto 4, 3) := by decide +kernel
theorem dJxe99ae_isNaN_b9ae7_10 : decode cJxe99ae_isNaN_b9ae7 10 = .ok (.iconst 0, 1) := by decide +kernel
theorem dJxe99ae_isNaN_b9ae7_11 : decode cJxe99ae_isNaN_b9ae7 11 = .ok (.ireturn, 1) := by decide +kernel
theorem dJxe99ae_doubleToLongBits_ccdee_0 : decode cJxe99ae_doubleToLongBits_ccdee 0 = .ok (.dload_n 0, 1) := by decide +kernel
theorem dJxe99ae_doubleToLongBits_ccdee_1 : decode cJxe99ae_doubleToLongBits_ccdee 1 = .ok (.invokestatic 122, 3) := by decide +kernel
theorem dJxe99ae_doubleToLongBits_ccdee_4 : decode cJxe99ae_doubleToLongBits_ccdee 4 = .ok (.ifCond .ne 8, 3) := by decide +kernel
theorem dJxe99ae_doubleToLongBits_ccdee_7 : decode cJxe99ae_doubleToLongBits_ccdee 7 = .ok (.dload_n 0, 1) := by decide +kernel
theorem dJxe99ae_doubleToLongBits_ccdee_8 : decode cJxe99ae_doubleToLongBits_ccdee 8 = .ok (.invokestatic 134, 3) := by decide +kernel
theorem dJxe99ae_doubleToLongBits_ccdee_11 : decode cJxe99ae_doubleToLongBits_ccdee 11 = .ok (.lreturn, 1) := by decide +kernel
theorem dJxe99ae_doubleToLongBits_ccdee_12 : decode cJxe99ae_doubleToLongBits_ccdee 12 = .ok (.ldc2_w 137, 3) := by decide +kernel
theorem dJxe99ae_doubleToLongBits_ccdee_15 : decode cJxe99ae_doubleToLongBits_ccdee 15 = .ok (.lreturn, 1) := by decide +kernel
theorem dJ9_max_7cf53_0 : decode cJ9_max_7cf53 0 = .ok (.iload_n 0, 1) := by decide +kernel
theorem dJ9_max_7cf53_1 : decode cJ9_max_7cf53 1 = .ok (.iload_n 1, 1) := by decide +kernel
theorem dJ9_max_7cf53_2 : decode cJ9_max_7cf53 2 = .ok (.if_icmp .lt 7, 3) := by decide +kernel
theorem dJ9_max_7cf53_5 : decode cJ9_max_7cf53 5 = .ok (.iload_n 0, 1) := by decide +kernel
theorem dJ9_max_7cf53_6 : decode cJ9_max_7cf53 6 = .ok (.goto 4, 3) := by decide +kernel
theorem dJ9_max_7cf53_9 : decode cJ9_max_7cf53 9 = .ok (.iload_n 1, 1) := by decide +kernel
theorem dJ9_max_7cf53_10 : decode cJ9_max_7cf53 10 = .ok (.ireturn, 1) := by decide +kernel
theorem dJ9_min_7cf53_0 : decode cJ9_min_7cf53 0 = .ok (.iload_n 0, 1) := by decide +kernel
theorem dJ9_min_7cf53_1 : decode cJ9_min_7cf53 1 = .ok (.iload_n 1, 1) := by decide +kernel
theorem dJ9_min_7cf53_2 : decode cJ9_min_7cf53 2 = .ok (.if_icmp .gt 7, 3) := by decide +kernel
theorem dJ9_min_7cf53_5 : decode cJ9_min_7cf53 5 = .ok (.iload_n 0, 1) := by decide +kernel
theorem dJ9_min_7cf53_6 : decode cJ9_min_7cf53 6 = .ok (.goto 4, 3) := by decide +kernel
theorem dJ9_min_7cf53_9 : decode cJ9_min_7cf53 9 = .ok (.iload_n 1, 1) := by decide +kernel
theorem dJ9_min_7cf53_10 : decode cJ9_min_7cf53 10 = .ok (.ireturn, 1) := by decide +kernel
theorem dJ0_length_8abf5_0 : decode cJ0_length_8abf5 0 = .ok (.aload_n 0, 1) := by decide +kernel
theorem dJ0_length_8abf5_1 : decode cJ0_length_8abf5 1 = .ok (.getfield 9, 3) := by decide +kernel
theorem dJ0_length_8abf5_4 : decode cJ0_length_8abf5 4 = .ok (.arraylength, 1) := by decide +kernel
theorem dJ0_length_8abf5_5 : decode cJ0_length_8abf5 5 = .ok (.aload_n 0, 1) := by decide +kernel
theorem dJ0_length_8abf5_6 : decode cJ0_length_8abf5 6 = .ok (.invokevirtual 335, 3) := by decide +kernel
theorem dJ0_length_8abf5_9 : decode cJ0_length_8abf5 9 = .ok (.ishr, 1) := by decide +kernel
theorem dJ0_length_8abf5_10 : decode cJ0_length_8abf5 10 = .ok (.ireturn, 1) := by decide +kernel
theorem dJ0_charAt_5068e_0 : decode cJ0_charAt_5068e 0 = .ok (.aload_n 0, 1) := by decide +kernel
theorem dJ0_charAt_5068e_1 : decode cJ0_charAt_5068e 1 = .ok (.invokevirtual 492, 3) := by decide +kernel
theorem dJ0_charAt_5068e_4 : decode cJ0_charAt_5068e 4 = .ok (.ifCond .eq 12, 3) := by decide +kernel
theorem dJ0_charAt_5068e_7 : decode cJ0_charAt_5068e 7 = .ok (.aload_n 0, 1) := by decide +kernel
theorem dJ0_charAt_5068e_8 : decode cJ0_charAt_5068e 8 = .ok (.getfield 9, 3) := by decide +kernel
theorem dJ0_charAt_5068e_11 : decode cJ0_charAt_5068e 11 = .ok (.iload_n 1, 1) := by decide +kernel
theorem dJ0_charAt_5068e_12 : decode cJ0_charAt_5068e 12 = .ok (.invokestatic 495, 3) := by decide +kernel
theorem dJ0_charAt_5068e_15 : decode cJ0_charAt_5068e 15 = .ok (.ireturn, 1) := by decide +kernel
theorem dJ0_charAt_5068e_16 : decode cJ0_charAt_5068e 16 = .ok (.aload_n 0, 1) := by decide +kernel
theorem dJ0_charAt_5068e_17 : decode cJ0_charAt_5068e 17 = .ok (.getfield 9, 3) := by decide +kernel
theorem dJ0_charAt_5068e_20 : decode cJ0_charAt_5068e 20 = .ok (.iload_n 1, 1) := by decide +kernel
theorem dJ0_charAt_5068e_21 : decode cJ0_charAt_5068e 21 = .ok (.invokestatic 498, 3) := by decide +kernel
theorem dJ0_charAt_5068e_24 : decode cJ0_charAt_5068e 24 = .ok (.ireturn, 1) := by decide +kernel
theorem dJ0_coder_7d493_0 : decode cJ0_coder_7d493 0 = .ok (.getstatic 38, 3) := by decide +kernel
theorem dJ0_coder_7d493_3 : decode cJ0_coder_7d493 3 = .ok (.ifCond .eq 10, 3) := by decide +kernel
theorem dJ0_coder_7d493_6 : decode cJ0_coder_7d493 6 = .ok (.aload_n 0, 1) := by decide +kernel
theorem dJ0_coder_7d493_7 : decode cJ0_coder_7d493 7 = .ok (.getfield 15, 3) := by decide +kernel
theorem dJ0_coder_7d493_10 : decode cJ0_coder_7d493 10 = .ok (.goto 4, 3) := by decide +kernel
theorem dJ0_coder_7d493_13 : decode cJ0_coder_7d493 13 = .ok (.iconst 1, 1) := by decide +kernel
theorem dJ0_coder_7d493_14 : decode cJ0_coder_7d493 14 = .ok (.ireturn, 1) := by decide +kernel
theorem dJ0_isLatin1_aae02_0 : decode cJ0_isLatin1_aae02 0 = .ok (.getstatic 38, 3) := by decide +kernel
theorem dJ0_isLatin1_aae02_3 : decode cJ0_isLatin1_aae02 3 = .ok (.ifCond .eq 14, 3) := by decide +kernel
theorem dJ0_isLatin1_aae02_6 : decode cJ0_isLatin1_aae02 6 = .ok (.aload_n 0, 1) := by decide +kernel
theorem dJ0_isLatin1_aae02_7 : decode cJ0_isLatin1_aae02 7 = .ok (.getfield 15, 3) := by decide +kernel
theorem dJ0_isLatin1_aae02_10 : decode cJ0_isLatin1_aae02 10 = .ok (.ifCond .ne 7, 3) := by decide +kernel
theorem dJ0_isLatin1_aae02_13 : decode cJ0_isLatin1_aae02 13 = .ok (.iconst 1, 1) := by decide +kernel
theorem dJ0_isLatin1_aae02_14 : decode cJ0_isLatin1_aae02 14 = .ok (.goto 4, 3) := by decide +kernel
theorem dJ0_isLatin1_aae02_17 : decode cJ0_isLatin1_aae02 17 = .ok (.iconst 0, 1) := by decide +kernel
theorem dJ0_isLatin1_aae02_18 : decode cJ0_isLatin1_aae02 18 = .ok (.ireturn, 1) := by decide +kernel
theorem dJ0_checkIndex_df160_0 : decode cJ0_checkIndex_df160 0 = .ok (.iload_n 0, 1) := by decide +kernel
theorem dJ0_checkIndex_df160_1 : decode cJ0_checkIndex_df160 1 = .ok (.iload_n 1, 1) := by decide +kernel
theorem dJ0_checkIndex_df160_2 : decode cJ0_checkIndex_df160 2 = .ok (.getstatic 1053, 3) := by decide +kernel
theorem dJ0_checkIndex_df160_5 : decode cJ0_checkIndex_df160 5 = .ok (.invokestatic 1059, 3) := by decide +kernel
theorem dJ0_checkIndex_df160_8 : decode cJ0_checkIndex_df160 8 = .ok (.pop, 1) := by decide +kernel
theorem dJ0_checkIndex_df160_9 : decode cJ0_checkIndex_df160 9 = .ok (.return_, 1) := by decide +kernel
theorem dJ1_charAt_3b067_0 : decode cJ1_charAt_3b067 0 = .ok (.iload_n 1, 1) := by decide +kernel
theorem dJ1_charAt_3b067_1 : decode cJ1_charAt_3b067 1 = .ok (.aload_n 0, 1) := by decide +kernel
theorem dJ1_charAt_3b067_2 : decode cJ1_charAt_3b067 2 = .ok (.arraylength, 1) := by decide +kernel
theorem dJ1_charAt_3b067_3 : decode cJ1_charAt_3b067 3 = .ok (.invokestatic 9, 3) := by decide +kernel
theorem dJ1_charAt_3b067_6 : decode cJ1_charAt_3b067 6 = .ok (.aload_n 0, 1) := by decide +kernel
theorem dJ1_charAt_3b067_7 : decode cJ1_charAt_3b067 7 = .ok (.iload_n 1, 1) := by decide +kernel
theorem dJ1_charAt_3b067_8 : decode cJ1_charAt_3b067 8 = .ok (.baload, 1) := by decide +kernel
theorem dJ1_charAt_3b067_9 : decode cJ1_charAt_3b067 9 = .ok (.sipush 255, 3) := by decide +kernel
theorem dJ1_charAt_3b067_12 : decode cJ1_charAt_3b067 12 = .ok (.iand, 1) := by decide +kernel
theorem dJ1_charAt_3b067_13 : decode cJ1_charAt_3b067 13 = .ok (.i2c, 1) := by decide +kernel
theorem dJ1_charAt_3b067_14 : decode cJ1_charAt_3b067 14 = .ok (.ireturn, 1) := by decide +kernel
theorem dJ2_getChar_3b067_0 : decode cJ2_getChar_3b067 0 = .ok (.getstatic 44, 3) := by decide +kernel
theorem dJ2_getChar_3b067_3 : decode cJ2_getChar_3b067 3 = .ok (.ifCond .ne 25, 3) := by decide +kernel
theorem dJ2_getChar_3b067_6 : decode cJ2_getChar_3b067 6 = .ok (.iload_n 1, 1) := by decide +kernel
theorem dJ2_getChar_3b067_7 : decode cJ2_getChar_3b067 7 = .ok (.ifCond .lt 11, 3) := by decide +kernel
theorem dJ2_getChar_3b067_10 : decode cJ2_getChar_3b067 10 = .ok (.iload_n 1, 1) := by decide +kernel
theorem dJ2_getChar_3b067_11 : decode cJ2_getChar_3b067 11 = .ok (.aload_n 0, 1) := by decide +kernel
theorem dJ2_getChar_3b067_12 : decode cJ2_getChar_3b067 12 = .ok (.invokestatic 48, 3) := by decide +kernel
theorem dJ2_getChar_3b067_15 : decode cJ2_getChar_3b067 15 = .ok (.if_icmp .lt 13, 3) := by decide +kernel
theorem dJ2_getChar_3b067_18 : decode cJ2_getChar_3b067 18 = .ok (.new 52, 3) := by decide +kernel
theorem dJ2_getChar_3b067_21 : decode cJ2_getChar_3b067 21 = .ok (.dup, 1) := by decide +kernel
theorem dJ2_getChar_3b067_22 : decode cJ2_getChar_3b067 22 = .ok (.ldc 54, 2) := by decide +kernel
theorem dJ2_getChar_3b067_24 : decode cJ2_getChar_3b067 24 = .ok (.invokespecial 56, 3) := by decide +kernel
theorem dJ2_getChar_3b067_27 : decode cJ2_getChar_3b067 27 = .ok (.athrow, 1) := by decide +kernel
theorem dJ2_getChar_3b067_28 : decode cJ2_getChar_3b067 28 = .ok (.iload_n 1, 1) := by decide +kernel
theorem dJ2_getChar_3b067_29 : decode cJ2_getChar_3b067 29 = .ok (.iconst 1, 1) := by decide +kernel
theorem dJ2_getChar_3b067_30 : decode cJ2_getChar_3b067 30 = .ok (.ishl, 1) := by decide +kernel
theorem dJ2_getChar_3b067_31 : decode cJ2_getChar_3b067 31 = .ok (.istore_n 1, 1) := by decide +kernel
theorem dJ2_getChar_3b067_32 : decode cJ2_getChar_3b067 32 = .ok (.aload_n 0, 1) := by decide +kernel
theorem dJ2_getChar_3b067_33 : decode cJ2_getChar_3b067 33 = .ok (.iload_n 1, 1) := by decide +kernel
theorem dJ2_getChar_3b067_34 : decode cJ2_getChar_3b067 34 = .ok (.iinc 1 1, 3) := by decide +kernel
theorem dJ2_getChar_3b067_37 : decode cJ2_getChar_3b067 37 = .ok (.baload, 1) := by decide +kernel
theorem dJ2_getChar_3b067_38 : decode cJ2_getChar_3b067 38 = .ok (.sipush 255, 3) := by decide +kernel
theorem dJ2_getChar_3b067_41 : decode cJ2_getChar_3b067 41 = .ok (.iand, 1) := by decide +kernel
theorem dJ2_getChar_3b067_42 : decode cJ2_getChar_3b067 42 = .ok (.getstatic 59, 3) := by decide +kernel
theorem dJ2_getChar_3b067_45 : decode cJ2_getChar_3b067 45 = .ok (.ishl, 1) := by decide +kernel
theorem dJ2_getChar_3b067_46 : decode cJ2_getChar_3b067 46 = .ok (.aload_n 0, 1) := by decide +kernel
theorem dJ2_getChar_3b067_47 : decode cJ2_getChar_3b067 47 = .ok (.iload_n 1, 1) := by decide +kernel
theorem dJ2_getChar_3b067_48 : decode cJ2_getChar_3b067 48 = .ok (.baload, 1) := by decide +kernel
theorem dJ2_getChar_3b067_49 : decode cJ2_getChar_3b067 49 = .ok (.sipush 255, 3) := by decide +kernel
theorem dJ2_getChar_3b067_52 : decode cJ2_getChar_3b067 52 = .ok (.iand, 1) := by decide +kernel
theorem dJ2_getChar_3b067_53 : decode cJ2_getChar_3b067 53 = .ok (.getstatic 63, 3) := by decide +kernel
theorem dJ2_getChar_3b067_56 : decode cJ2_getChar_3b067 56 = .ok (.ishl, 1) := by decide +kernel
theorem dJ2_getChar_3b067_57 : decode cJ2_getChar_3b067 57 = .ok (.ior, 1) := by decide +kernel
theorem dJ2_getChar_3b067_58 : decode cJ2_getChar_3b067 58 = .ok (.i2c, 1) := by decide +kernel
theorem dJ2_getChar_3b067_59 : decode cJ2_getChar_3b067 59 = .ok (.ireturn, 1) := by decide +kernel
theorem dJ2_length_9d52b_0 : decode cJ2_length_9d52b 0 = .ok (.aload_n 0, 1) := by decide +kernel
theorem dJ2_length_9d52b_1 : decode cJ2_length_9d52b 1 = .ok (.arraylength, 1) := by decide +kernel
theorem dJ2_length_9d52b_2 : decode cJ2_length_9d52b 2 = .ok (.iconst 1, 1) := by decide +kernel
theorem dJ2_length_9d52b_3 : decode cJ2_length_9d52b 3 = .ok (.ishr, 1) := by decide +kernel
theorem dJ2_length_9d52b_4 : decode cJ2_length_9d52b 4 = .ok (.ireturn, 1) := by decide +kernel
theorem dJ2_charAt_3b067_0 : decode cJ2_charAt_3b067 0 = .ok (.iload_n 1, 1) := by decide +kernel
theorem dJ2_charAt_3b067_1 : decode cJ2_charAt_3b067 1 = .ok (.aload_n 0, 1) := by decide +kernel
theorem dJ2_charAt_3b067_2 : decode cJ2_charAt_3b067 2 = .ok (.invokestatic 67, 3) := by decide +kernel
theorem dJ2_charAt_3b067_5 : decode cJ2_charAt_3b067 5 = .ok (.aload_n 0, 1) := by decide +kernel
theorem dJ2_charAt_3b067_6 : decode cJ2_charAt_3b067 6 = .ok (.iload_n 1, 1) := by decide +kernel
theorem dJ2_charAt_3b067_7 : decode cJ2_charAt_3b067 7 = .ok (.invokestatic 71, 3) := by decide +kernel
theorem dJ2_charAt_3b067_10 : decode cJ2_charAt_3b067 10 = .ok (.ireturn, 1) := by decide +kernel
theorem dJ2_checkIndex_2214a_0 : decode cJ2_checkIndex_2214a 0 = .ok (.iload_n 0, 1) := by decide +kernel
theorem dJ2_checkIndex_2214a_1 : decode cJ2_checkIndex_2214a 1 = .ok (.aload_n 1, 1) := by decide +kernel
theorem dJ2_checkIndex_2214a_2 : decode cJ2_checkIndex_2214a 2 = .ok (.invokestatic 48, 3) := by decide +kernel
theorem dJ2_checkIndex_2214a_5 : decode cJ2_checkIndex_2214a 5 = .ok (.invokestatic 414, 3) := by decide +kernel
theorem dJ2_checkIndex_2214a_8 : decode cJ2_checkIndex_2214a 8 = .ok (.return_, 1) := by decide +kernel
theorem dJ3_checkIndex_8e157_0 : decode cJ3_checkIndex_8e157 0 = .ok (.iload_n 0, 1) := by decide +kernel
theorem dJ3_checkIndex_8e157_1 : decode cJ3_checkIndex_8e157 1 = .ok (.ifCond .lt 8, 3) := by decide +kernel
theorem dJ3_checkIndex_8e157_4 : decode cJ3_checkIndex_8e157 4 = .ok (.iload_n 0, 1) := by decide +kernel
theorem dJ3_checkIndex_8e157_5 : decode cJ3_checkIndex_8e157 5 = .ok (.iload_n 1, 1) := by decide +kernel
theorem dJ3_checkIndex_8e157_6 : decode cJ3_checkIndex_8e157 6 = .ok (.if_icmp .lt 10, 3) := by decide +kernel
theorem dJ3_checkIndex_8e157_9 : decode cJ3_checkIndex_8e157 9 = .ok (.aload_n 2, 1) := by decide +kernel
theorem dJ3_checkIndex_8e157_10 : decode cJ3_checkIndex_8e157 10 = .ok (.iload_n 0, 1) := by decide +kernel
theorem dJ3_checkIndex_8e157_11 : decode cJ3_checkIndex_8e157 11 = .ok (.iload_n 1, 1) := by decide +kernel
theorem dJ3_checkIndex_8e157_12 : decode cJ3_checkIndex_8e157 12 = .ok (.invokestatic 95, 3) := by decide +kernel
theorem dJ3_checkIndex_8e157_15 : decode cJ3_checkIndex_8e157 15 = .ok (.athrow, 1) := by decide +kernel
theorem dJ3_checkIndex_8e157_16 : decode cJ3_checkIndex_8e157 16 = .ok (.iload_n 0, 1) := by decide +kernel
theorem dJ3_checkIndex_8e157_17 : decode cJ3_checkIndex_8e157 17 = .ok (.ireturn, 1) := by decide +kernel
