/-! decode rows -/
theorem dX6_readSign_0 : decode cX6_readSign 0 = .ok (.aload_n 0, 1) := by decide +kernel
theorem dX6_readSign_1 : decode cX6_readSign 1 = .ok (.invokevirtual 29, 3) := by decide +kernel
theorem dX6_readSign_4 : decode cX6_readSign 4 = .ok (.aload_n 0, 1) := by decide +kernel
theorem dX6_readSign_5 : decode cX6_readSign 5 = .ok (.aload_n 0, 1) := by decide +kernel
theorem dX6_readSign_6 : decode cX6_readSign 6 = .ok (.getfield 26, 3) := by decide +kernel
theorem dX6_readSign_9 : decode cX6_readSign 9 = .ok (.invokevirtual 63, 3) := by decide +kernel
theorem dX6_readSign_12 : decode cX6_readSign 12 = .ok (.iload_n 1, 1) := by decide +kernel
theorem dX6_readSign_13 : decode cX6_readSign 13 = .ok (.if_icmp .eq 5, 3) := by decide +kernel
theorem dX6_readSign_16 : decode cX6_readSign 16 = .ok (.iconst 0, 1) := by decide +kernel
theorem dX6_readSign_17 : decode cX6_readSign 17 = .ok (.ireturn, 1) := by decide +kernel
theorem dX6_readSign_18 : decode cX6_readSign 18 = .ok (.aload_n 0, 1) := by decide +kernel
theorem dX6_readSign_19 : decode cX6_readSign 19 = .ok (.dup, 1) := by decide +kernel
theorem dX6_readSign_20 : decode cX6_readSign 20 = .ok (.getfield 26, 3) := by decide +kernel
theorem dX6_readSign_23 : decode cX6_readSign 23 = .ok (.iconst 1, 1) := by decide +kernel
theorem dX6_readSign_24 : decode cX6_readSign 24 = .ok (.iadd, 1) := by decide +kernel
theorem dX6_readSign_25 : decode cX6_readSign 25 = .ok (.putfield 26, 3) := by decide +kernel
theorem dX6_readSign_28 : decode cX6_readSign 28 = .ok (.iconst 1, 1) := by decide +kernel
theorem dX6_readSign_29 : decode cX6_readSign 29 = .ok (.ireturn, 1) := by decide +kernel
theorem dX6_skipBlanks_0 : decode cX6_skipBlanks 0 = .ok (.aload_n 0, 1) := by decide +kernel
theorem dX6_skipBlanks_1 : decode cX6_skipBlanks 1 = .ok (.getfield 26, 3) := by decide +kernel
theorem dX6_skipBlanks_4 : decode cX6_skipBlanks 4 = .ok (.aload_n 0, 1) := by decide +kernel
theorem dX6_skipBlanks_5 : decode cX6_skipBlanks 5 = .ok (.getfield 19, 3) := by decide +kernel
theorem dX6_skipBlanks_8 : decode cX6_skipBlanks 8 = .ok (.if_icmp .ge 29, 3) := by decide +kernel
theorem dX6_skipBlanks_11 : decode cX6_skipBlanks 11 = .ok (.aload_n 0, 1) := by decide +kernel
theorem dX6_skipBlanks_12 : decode cX6_skipBlanks 12 = .ok (.aload_n 0, 1) := by decide +kernel
theorem dX6_skipBlanks_13 : decode cX6_skipBlanks 13 = .ok (.getfield 26, 3) := by decide +kernel
theorem dX6_skipBlanks_16 : decode cX6_skipBlanks 16 = .ok (.invokevirtual 63, 3) := by decide +kernel
theorem dX6_skipBlanks_19 : decode cX6_skipBlanks 19 = .ok (.bipush 32, 2) := by decide +kernel
theorem dX6_skipBlanks_21 : decode cX6_skipBlanks 21 = .ok (.if_icmp .ne 16, 3) := by decide +kernel
theorem dX6_skipBlanks_24 : decode cX6_skipBlanks 24 = .ok (.aload_n 0, 1) := by decide +kernel
theorem dX6_skipBlanks_25 : decode cX6_skipBlanks 25 = .ok (.dup, 1) := by decide +kernel
theorem dX6_skipBlanks_26 : decode cX6_skipBlanks 26 = .ok (.getfield 26, 3) := by decide +kernel
theorem dX6_skipBlanks_29 : decode cX6_skipBlanks 29 = .ok (.iconst 1, 1) := by decide +kernel
theorem dX6_skipBlanks_30 : decode cX6_skipBlanks 30 = .ok (.iadd, 1) := by decide +kernel
theorem dX6_skipBlanks_31 : decode cX6_skipBlanks 31 = .ok (.putfield 26, 3) := by decide +kernel
theorem dX6_skipBlanks_34 : decode cX6_skipBlanks 34 = .ok (.goto (-34), 3) := by decide +kernel
theorem dX6_skipBlanks_37 : decode cX6_skipBlanks 37 = .ok (.return_, 1) := by decide +kernel
theorem dX6_digitAt_0 : decode cX6_digitAt 0 = .ok (.aload_n 0, 1) := by decide +kernel
theorem dX6_digitAt_1 : decode cX6_digitAt 1 = .ok (.iload_n 1, 1) := by decide +kernel
theorem dX6_digitAt_2 : decode cX6_digitAt 2 = .ok (.invokevirtual 63, 3) := by decide +kernel
theorem dX6_digitAt_5 : decode cX6_digitAt 5 = .ok (.istore_n 2, 1) := by decide +kernel
theorem dX6_digitAt_6 : decode cX6_digitAt 6 = .ok (.iload_n 2, 1) := by decide +kernel
theorem dX6_digitAt_7 : decode cX6_digitAt 7 = .ok (.bipush 48, 2) := by decide +kernel
theorem dX6_digitAt_9 : decode cX6_digitAt 9 = .ok (.if_icmp .lt 16, 3) := by decide +kernel
theorem dX6_digitAt_12 : decode cX6_digitAt 12 = .ok (.iload_n 2, 1) := by decide +kernel
theorem dX6_digitAt_13 : decode cX6_digitAt 13 = .ok (.bipush 57, 2) := by decide +kernel
theorem dX6_digitAt_15 : decode cX6_digitAt 15 = .ok (.if_icmp .gt 10, 3) := by decide +kernel
theorem dX6_digitAt_18 : decode cX6_digitAt 18 = .ok (.iload_n 2, 1) := by decide +kernel
theorem dX6_digitAt_19 : decode cX6_digitAt 19 = .ok (.bipush 48, 2) := by decide +kernel
theorem dX6_digitAt_21 : decode cX6_digitAt 21 = .ok (.isub, 1) := by decide +kernel
theorem dX6_digitAt_22 : decode cX6_digitAt 22 = .ok (.goto 4, 3) := by decide +kernel
theorem dX6_digitAt_25 : decode cX6_digitAt 25 = .ok (.iconst (-1), 1) := by decide +kernel
theorem dX6_digitAt_26 : decode cX6_digitAt 26 = .ok (.ireturn, 1) := by decide +kernel
theorem dX7_init_0 : decode cX7_init 0 = .ok (.aload_n 0, 1) := by decide +kernel
theorem dX7_init_1 : decode cX7_init 1 = .ok (.invokespecial 3, 3) := by decide +kernel
theorem dX7_init_4 : decode cX7_init 4 = .ok (.aload_n 0, 1) := by decide +kernel
theorem dX7_init_5 : decode cX7_init 5 = .ok (.bipush 16, 2) := by decide +kernel
theorem dX7_init_7 : decode cX7_init 7 = .ok (.newarray .int, 2) := by decide +kernel
theorem dX7_init_9 : decode cX7_init 9 = .ok (.putfield 9, 3) := by decide +kernel
theorem dX7_init_12 : decode cX7_init 12 = .ok (.aload_n 0, 1) := by decide +kernel
theorem dX7_init_13 : decode cX7_init 13 = .ok (.bipush 8, 2) := by decide +kernel
theorem dX7_init_15 : decode cX7_init 15 = .ok (.newarray .int, 2) := by decide +kernel
theorem dX7_init_17 : decode cX7_init 17 = .ok (.putfield 15, 3) := by decide +kernel
theorem dX7_init_20 : decode cX7_init 20 = .ok (.aload_n 0, 1) := by decide +kernel
theorem dX7_init_21 : decode cX7_init 21 = .ok (.iconst 0, 1) := by decide +kernel
theorem dX7_init_22 : decode cX7_init 22 = .ok (.putfield 18, 3) := by decide +kernel
theorem dX7_init_25 : decode cX7_init 25 = .ok (.aload_n 0, 1) := by decide +kernel
theorem dX7_init_26 : decode cX7_init 26 = .ok (.bipush 100, 2) := by decide +kernel
theorem dX7_init_28 : decode cX7_init 28 = .ok (.newarray .int, 2) := by decide +kernel
theorem dX7_init_30 : decode cX7_init 30 = .ok (.putfield 22, 3) := by decide +kernel
theorem dX7_init_33 : decode cX7_init 33 = .ok (.aload_n 0, 1) := by decide +kernel
theorem dX7_init_34 : decode cX7_init 34 = .ok (.iconst 0, 1) := by decide +kernel
theorem dX7_init_35 : decode cX7_init 35 = .ok (.putfield 25, 3) := by decide +kernel
theorem dX7_init_38 : decode cX7_init 38 = .ok (.aload_n 0, 1) := by decide +kernel
theorem dX7_init_39 : decode cX7_init 39 = .ok (.iconst 0, 1) := by decide +kernel
theorem dX7_init_40 : decode cX7_init 40 = .ok (.putfield 28, 3) := by decide +kernel
theorem dX7_init_43 : decode cX7_init 43 = .ok (.aload_n 0, 1) := by decide +kernel
theorem dX7_init_44 : decode cX7_init 44 = .ok (.iconst 0, 1) := by decide +kernel
theorem dX7_init_45 : decode cX7_init 45 = .ok (.putfield 31, 3) := by decide +kernel
theorem dX7_init_48 : decode cX7_init 48 = .ok (.aload_n 0, 1) := by decide +kernel
theorem dX7_init_49 : decode cX7_init 49 = .ok (.iconst 0, 1) := by decide +kernel
theorem dX7_init_50 : decode cX7_init 50 = .ok (.putfield 34, 3) := by decide +kernel
theorem dX7_init_53 : decode cX7_init 53 = .ok (.aload_n 0, 1) := by decide +kernel
theorem dX7_init_54 : decode cX7_init 54 = .ok (.iconst 0, 1) := by decide +kernel
theorem dX7_init_55 : decode cX7_init 55 = .ok (.putfield 37, 3) := by decide +kernel
theorem dX7_init_58 : decode cX7_init 58 = .ok (.aload_n 0, 1) := by decide +kernel
theorem dX7_init_59 : decode cX7_init 59 = .ok (.iconst 0, 1) := by decide +kernel
theorem dX7_init_60 : decode cX7_init 60 = .ok (.putfield 40, 3) := by decide +kernel
theorem dX7_init_63 : decode cX7_init 63 = .ok (.aload_n 0, 1) := by decide +kernel
theorem dX7_init_64 : decode cX7_init 64 = .ok (.aload_n 1, 1) := by decide +kernel
theorem dX7_init_65 : decode cX7_init 65 = .ok (.putfield 44, 3) := by decide +kernel
theorem dX7_init_68 : decode cX7_init 68 = .ok (.return_, 1) := by decide +kernel
theorem dX7_findFirst_0 : decode cX7_findFirst 0 = .ok (.aload_n 0, 1) := by decide +kernel
theorem dX7_findFirst_1 : decode cX7_findFirst 1 = .ok (.iconst 1, 1) := by decide +kernel
theorem dX7_findFirst_2 : decode cX7_findFirst 2 = .ok (.putfield 40, 3) := by decide +kernel
theorem dX7_findFirst_5 : decode cX7_findFirst 5 = .ok (.aload_n 0, 1) := by decide +kernel
theorem dX7_findFirst_6 : decode cX7_findFirst 6 = .ok (.iload_n 1, 1) := by decide +kernel
theorem dX7_findFirst_7 : decode cX7_findFirst 7 = .ok (.iload_n 2, 1) := by decide +kernel
theorem dX7_findFirst_8 : decode cX7_findFirst 8 = .ok (.iload_n 3, 1) := by decide +kernel
theorem dX7_findFirst_9 : decode cX7_findFirst 9 = .ok (.iconst 0, 1) := by decide +kernel
theorem dX7_findFirst_10 : decode cX7_findFirst 10 = .ok (.invokevirtual 48, 3) := by decide +kernel
theorem dX7_findFirst_13 : decode cX7_findFirst 13 = .ok (.ifCond .le 7, 3) := by decide +kernel
theorem dX7_findFirst_16 : decode cX7_findFirst 16 = .ok (.iconst 1, 1) := by decide +kernel
theorem dX7_findFirst_17 : decode cX7_findFirst 17 = .ok (.goto 4, 3) := by decide +kernel
theorem dX7_findFirst_20 : decode cX7_findFirst 20 = .ok (.iconst 0, 1) := by decide +kernel
theorem dX7_findFirst_21 : decode cX7_findFirst 21 = .ok (.ireturn, 1) := by decide +kernel
theorem dX7_trailEdge_0 : decode cX7_trailEdge 0 = .ok (.iload_n 1, 1) := by decide +kernel
theorem dX7_trailEdge_1 : decode cX7_trailEdge 1 = .ok (.ifCond .lt 26, 3) := by decide +kernel
theorem dX7_trailEdge_4 : decode cX7_trailEdge 4 = .ok (.iload_n 1, 1) := by decide +kernel
theorem dX7_trailEdge_5 : decode cX7_trailEdge 5 = .ok (.aload_n 0, 1) := by decide +kernel
theorem dX7_trailEdge_6 : decode cX7_trailEdge 6 = .ok (.getfield 18, 3) := by decide +kernel
theorem dX7_trailEdge_9 : decode cX7_trailEdge 9 = .ok (.if_icmp .ge 18, 3) := by decide +kernel
theorem dX7_trailEdge_12 : decode cX7_trailEdge 12 = .ok (.iload_n 1, 1) := by decide +kernel
theorem dX7_trailEdge_13 : decode cX7_trailEdge 13 = .ok (.bipush 8, 2) := by decide +kernel
theorem dX7_trailEdge_15 : decode cX7_trailEdge 15 = .ok (.if_icmp .ge 12, 3) := by decide +kernel
theorem dX7_trailEdge_18 : decode cX7_trailEdge 18 = .ok (.aload_n 0, 1) := by decide +kernel
theorem dX7_trailEdge_19 : decode cX7_trailEdge 19 = .ok (.getfield 15, 3) := by decide +kernel
theorem dX7_trailEdge_22 : decode cX7_trailEdge 22 = .ok (.iload_n 1, 1) := by decide +kernel
theorem dX7_trailEdge_23 : decode cX7_trailEdge 23 = .ok (.iaload, 1) := by decide +kernel
theorem dX7_trailEdge_24 : decode cX7_trailEdge 24 = .ok (.goto 4, 3) := by decide +kernel
theorem dX7_trailEdge_27 : decode cX7_trailEdge 27 = .ok (.iconst (-1), 1) := by decide +kernel
theorem dX7_trailEdge_28 : decode cX7_trailEdge 28 = .ok (.ireturn, 1) := by decide +kernel
theorem dX7_countUpTo_0 : decode cX7_countUpTo 0 = .ok (.aload_n 0, 1) := by decide +kernel
theorem dX7_countUpTo_1 : decode cX7_countUpTo 1 = .ok (.iconst 0, 1) := by decide +kernel
theorem dX7_countUpTo_2 : decode cX7_countUpTo 2 = .ok (.putfield 40, 3) := by decide +kernel
theorem dX7_countUpTo_5 : decode cX7_countUpTo 5 = .ok (.aload_n 0, 1) := by decide +kernel
theorem dX7_countUpTo_6 : decode cX7_countUpTo 6 = .ok (.iload_n 1, 1) := by decide +kernel
theorem dX7_countUpTo_7 : decode cX7_countUpTo 7 = .ok (.iload_n 2, 1) := by decide +kernel
theorem dX7_countUpTo_8 : decode cX7_countUpTo 8 = .ok (.iload_n 3, 1) := by decide +kernel
theorem dX7_countUpTo_9 : decode cX7_countUpTo 9 = .ok (.iconst 0, 1) := by decide +kernel
theorem dX7_countUpTo_10 : decode cX7_countUpTo 10 = .ok (.invokevirtual 48, 3) := by decide +kernel
theorem dX7_countUpTo_13 : decode cX7_countUpTo 13 = .ok (.ireturn, 1) := by decide +kernel
theorem dX7_rankedLength_0 : decode cX7_rankedLength 0 = .ok (.iload_n 3, 1) := by decide +kernel
theorem dX7_rankedLength_1 : decode cX7_rankedLength 1 = .ok (.ifCond .lt 9, 3) := by decide +kernel
theorem dX7_rankedLength_4 : decode cX7_rankedLength 4 = .ok (.iload_n 3, 1) := by decide +kernel
theorem dX7_rankedLength_5 : decode cX7_rankedLength 5 = .ok (.bipush 100, 2) := by decide +kernel
theorem dX7_rankedLength_7 : decode cX7_rankedLength 7 = .ok (.if_icmp .lt 5, 3) := by decide +kernel
theorem dX7_rankedLength_10 : decode cX7_rankedLength 10 = .ok (.iconst (-1), 1) := by decide +kernel
theorem dX7_rankedLength_11 : decode cX7_rankedLength 11 = .ok (.ireturn, 1) := by decide +kernel
theorem dX7_rankedLength_12 : decode cX7_rankedLength 12 = .ok (.aload_n 0, 1) := by decide +kernel
theorem dX7_rankedLength_13 : decode cX7_rankedLength 13 = .ok (.iconst 0, 1) := by decide +kernel
theorem dX7_rankedLength_14 : decode cX7_rankedLength 14 = .ok (.putfield 40, 3) := by decide +kernel
theorem dX7_rankedLength_17 : decode cX7_rankedLength 17 = .ok (.aload_n 0, 1) := by decide +kernel
theorem dX7_rankedLength_18 : decode cX7_rankedLength 18 = .ok (.iload_n 1, 1) := by decide +kernel
theorem dX7_rankedLength_19 : decode cX7_rankedLength 19 = .ok (.iload_n 2, 1) := by decide +kernel
theorem dX7_rankedLength_20 : decode cX7_rankedLength 20 = .ok (.sipush 9999, 3) := by decide +kernel
theorem dX7_rankedLength_23 : decode cX7_rankedLength 23 = .ok (.iload_n 3, 1) := by decide +kernel
theorem dX7_rankedLength_24 : decode cX7_rankedLength 24 = .ok (.iconst 1, 1) := by decide +kernel
theorem dX7_rankedLength_25 : decode cX7_rankedLength 25 = .ok (.iadd, 1) := by decide +kernel
theorem dX7_rankedLength_26 : decode cX7_rankedLength 26 = .ok (.invokevirtual 48, 3) := by decide +kernel
theorem dX7_rankedLength_29 : decode cX7_rankedLength 29 = .ok (.pop, 1) := by decide +kernel
theorem dX7_rankedLength_30 : decode cX7_rankedLength 30 = .ok (.iload_n 3, 1) := by decide +kernel
theorem dX7_rankedLength_31 : decode cX7_rankedLength 31 = .ok (.aload_n 0, 1) := by decide +kernel
theorem dX7_rankedLength_32 : decode cX7_rankedLength 32 = .ok (.getfield 25, 3) := by decide +kernel
theorem dX7_rankedLength_35 : decode cX7_rankedLength 35 = .ok (.if_icmp .ge 12, 3) := by decide +kernel
theorem dX7_rankedLength_38 : decode cX7_rankedLength 38 = .ok (.aload_n 0, 1) := by decide +kernel
theorem dX7_rankedLength_39 : decode cX7_rankedLength 39 = .ok (.getfield 22, 3) := by decide +kernel
theorem dX7_rankedLength_42 : decode cX7_rankedLength 42 = .ok (.iload_n 3, 1) := by decide +kernel
theorem dX7_rankedLength_43 : decode cX7_rankedLength 43 = .ok (.iaload, 1) := by decide +kernel
theorem dX7_rankedLength_44 : decode cX7_rankedLength 44 = .ok (.goto 4, 3) := by decide +kernel
theorem dX7_rankedLength_47 : decode cX7_rankedLength 47 = .ok (.iconst (-1), 1) := by decide +kernel
theorem dX7_rankedLength_48 : decode cX7_rankedLength 48 = .ok (.ireturn, 1) := by decide +kernel
theorem dX7_begin_0 : decode cX7_begin 0 = .ok (.aload_n 0, 1) := by decide +kernel
theorem dX7_begin_1 : decode cX7_begin 1 = .ok (.iload_n 2, 1) := by decide +kernel
theorem dX7_begin_2 : decode cX7_begin 2 = .ok (.putfield 31, 3) := by decide +kernel
theorem dX7_begin_5 : decode cX7_begin 5 = .ok (.aload_n 0, 1) := by decide +kernel
theorem dX7_begin_6 : decode cX7_begin 6 = .ok (.iload_n 3, 1) := by decide +kernel
theorem dX7_begin_7 : decode cX7_begin 7 = .ok (.sipush 9998, 3) := by decide +kernel
theorem dX7_begin_10 : decode cX7_begin 10 = .ok (.invokestatic 52, 3) := by decide +kernel
theorem dX7_begin_13 : decode cX7_begin 13 = .ok (.putfield 34, 3) := by decide +kernel
theorem dX7_begin_16 : decode cX7_begin 16 = .ok (.aload_n 0, 1) := by decide +kernel
theorem dX7_begin_17 : decode cX7_begin 17 = .ok (.iload 4, 2) := by decide +kernel
theorem dX7_begin_19 : decode cX7_begin 19 = .ok (.putfield 28, 3) := by decide +kernel
theorem dX7_begin_22 : decode cX7_begin 22 = .ok (.aload_n 0, 1) := by decide +kernel
theorem dX7_begin_23 : decode cX7_begin 23 = .ok (.iconst 0, 1) := by decide +kernel
theorem dX7_begin_24 : decode cX7_begin 24 = .ok (.putfield 25, 3) := by decide +kernel
theorem dX7_begin_27 : decode cX7_begin 27 = .ok (.aload_n 0, 1) := by decide +kernel
theorem dX7_begin_28 : decode cX7_begin 28 = .ok (.iconst 0, 1) := by decide +kernel
theorem dX7_begin_29 : decode cX7_begin 29 = .ok (.putfield 37, 3) := by decide +kernel
theorem dX7_begin_32 : decode cX7_begin 32 = .ok (.aload_n 0, 1) := by decide +kernel
theorem dX7_begin_33 : decode cX7_begin 33 = .ok (.iconst 0, 1) := by decide +kernel
theorem dX7_begin_34 : decode cX7_begin 34 = .ok (.putfield 18, 3) := by decide +kernel
theorem dX7_begin_37 : decode cX7_begin 37 = .ok (.aload_n 0, 1) := by decide +kernel
theorem dX7_begin_38 : decode cX7_begin 38 = .ok (.getfield 44, 3) := by decide +kernel
theorem dX7_begin_41 : decode cX7_begin 41 = .ok (.aload_n 0, 1) := by decide +kernel
theorem dX7_begin_42 : decode cX7_begin 42 = .ok (.getfield 44, 3) := by decide +kernel
theorem dX7_begin_45 : decode cX7_begin 45 = .ok (.getfield 58, 3) := by decide +kernel
theorem dX7_begin_48 : decode cX7_begin 48 = .ok (.aload_n 0, 1) := by decide +kernel
theorem dX7_begin_49 : decode cX7_begin 49 = .ok (.getfield 9, 3) := by decide +kernel
theorem dX7_begin_52 : decode cX7_begin 52 = .ok (.invokevirtual 63, 3) := by decide +kernel
theorem dX7_begin_55 : decode cX7_begin 55 = .ok (.aload_n 0, 1) := by decide +kernel
theorem dX7_begin_56 : decode cX7_begin 56 = .ok (.iload_n 1, 1) := by decide +kernel
theorem dX7_begin_57 : decode cX7_begin 57 = .ok (.iconst 1, 1) := by decide +kernel
theorem dX7_begin_58 : decode cX7_begin 58 = .ok (.iload_n 1, 1) := by decide +kernel
theorem dX7_begin_59 : decode cX7_begin 59 = .ok (.ishl, 1) := by decide +kernel
theorem dX7_begin_60 : decode cX7_begin 60 = .ok (.iconst 0, 1) := by decide +kernel
theorem dX7_begin_61 : decode cX7_begin 61 = .ok (.iconst 0, 1) := by decide +kernel
theorem dX7_begin_62 : decode cX7_begin 62 = .ok (.invokevirtual 67, 3) := by decide +kernel
theorem dX7_begin_65 : decode cX7_begin 65 = .ok (.pop, 1) := by decide +kernel
theorem dX7_begin_66 : decode cX7_begin 66 = .ok (.aload_n 0, 1) := by decide +kernel
theorem dX7_begin_67 : decode cX7_begin 67 = .ok (.getfield 37, 3) := by decide +kernel
theorem dX7_begin_70 : decode cX7_begin 70 = .ok (.ireturn, 1) := by decide +kernel
theorem dX7_walk_0 : decode cX7_walk 0 = .ok (.iload_n 1, 1) := by decide +kernel
theorem dX7_walk_1 : decode cX7_walk 1 = .ok (.aload_n 0, 1) := by decide +kernel
theorem dX7_walk_2 : decode cX7_walk 2 = .ok (.getfield 31, 3) := by decide +kernel
theorem dX7_walk_5 : decode cX7_walk 5 = .ok (.if_icmp .ne 11, 3) := by decide +kernel
theorem dX7_walk_8 : decode cX7_walk 8 = .ok (.aload_n 0, 1) := by decide +kernel
theorem dX7_walk_9 : decode cX7_walk 9 = .ok (.iload_n 3, 1) := by decide +kernel
theorem dX7_walk_10 : decode cX7_walk 10 = .ok (.iload 4, 2) := by decide +kernel
theorem dX7_walk_12 : decode cX7_walk 12 = .ok (.invokevirtual 71, 3) := by decide +kernel
theorem dX7_walk_15 : decode cX7_walk 15 = .ok (.ireturn, 1) := by decide +kernel
theorem dX7_walk_16 : decode cX7_walk 16 = .ok (.iload 4, 2) := by decide +kernel
theorem dX7_walk_18 : decode cX7_walk 18 = .ok (.bipush 8, 2) := by decide +kernel
theorem dX7_walk_20 : decode cX7_walk 20 = .ok (.if_icmp .lt 5, 3) := by decide +kernel
theorem dX7_walk_23 : decode cX7_walk 23 = .ok (.iconst 0, 1) := by decide +kernel
theorem dX7_walk_24 : decode cX7_walk 24 = .ok (.ireturn, 1) := by decide +kernel
theorem dX7_walk_25 : decode cX7_walk 25 = .ok (.iconst 0, 1) := by decide +kernel
theorem dX7_walk_26 : decode cX7_walk 26 = .ok (.istore 5, 2) := by decide +kernel
theorem dX7_walk_28 : decode cX7_walk 28 = .ok (.iload 5, 2) := by decide +kernel
theorem dX7_walk_30 : decode cX7_walk 30 = .ok (.aload_n 0, 1) := by decide +kernel
theorem dX7_walk_31 : decode cX7_walk 31 = .ok (.getfield 44, 3) := by decide +kernel
theorem dX7_walk_34 : decode cX7_walk 34 = .ok (.getfield 75, 3) := by decide +kernel
theorem dX7_walk_37 : decode cX7_walk 37 = .ok (.if_icmp .ge 97, 3) := by decide +kernel
theorem dX7_walk_40 : decode cX7_walk 40 = .ok (.aload_n 0, 1) := by decide +kernel
theorem dX7_walk_41 : decode cX7_walk 41 = .ok (.getfield 44, 3) := by decide +kernel
theorem dX7_walk_44 : decode cX7_walk 44 = .ok (.iload 5, 2) := by decide +kernel
theorem dX7_walk_46 : decode cX7_walk 46 = .ok (.invokevirtual 78, 3) := by decide +kernel
theorem dX7_walk_49 : decode cX7_walk 49 = .ok (.istore 6, 2) := by decide +kernel
theorem dX7_walk_51 : decode cX7_walk 51 = .ok (.aload_n 0, 1) := by decide +kernel
theorem dX7_walk_52 : decode cX7_walk 52 = .ok (.getfield 44, 3) := by decide +kernel
theorem dX7_walk_55 : decode cX7_walk 55 = .ok (.iload 5, 2) := by decide +kernel
theorem dX7_walk_57 : decode cX7_walk 57 = .ok (.invokevirtual 82, 3) := by decide +kernel
theorem dX7_walk_60 : decode cX7_walk 60 = .ok (.iload_n 1, 1) := by decide +kernel
theorem dX7_walk_61 : decode cX7_walk 61 = .ok (.if_icmp .ne 67, 3) := by decide +kernel
theorem dX7_walk_64 : decode cX7_walk 64 = .ok (.iload_n 2, 1) := by decide +kernel
theorem dX7_walk_65 : decode cX7_walk 65 = .ok (.iload 6, 2) := by decide +kernel
theorem dX7_walk_67 : decode cX7_walk 67 = .ok (.ishr, 1) := by decide +kernel
theorem dX7_walk_68 : decode cX7_walk 68 = .ok (.iconst 1, 1) := by decide +kernel
theorem dX7_walk_69 : decode cX7_walk 69 = .ok (.iand, 1) := by decide +kernel
theorem dX7_walk_70 : decode cX7_walk 70 = .ok (.ifCond .ne 58, 3) := by decide +kernel
theorem dX7_walk_73 : decode cX7_walk 73 = .ok (.aload_n 0, 1) := by decide +kernel
theorem dX7_walk_74 : decode cX7_walk 74 = .ok (.getfield 9, 3) := by decide +kernel
theorem dX7_walk_77 : decode cX7_walk 77 = .ok (.iload 5, 2) := by decide +kernel
theorem dX7_walk_79 : decode cX7_walk 79 = .ok (.iaload, 1) := by decide +kernel
theorem dX7_walk_80 : decode cX7_walk 80 = .ok (.aload_n 0, 1) := by decide +kernel
theorem dX7_walk_81 : decode cX7_walk 81 = .ok (.getfield 34, 3) := by decide +kernel
theorem dX7_walk_84 : decode cX7_walk 84 = .ok (.iload_n 3, 1) := by decide +kernel
theorem dX7_walk_85 : decode cX7_walk 85 = .ok (.isub, 1) := by decide +kernel
theorem dX7_walk_86 : decode cX7_walk 86 = .ok (.if_icmp .gt 42, 3) := by decide +kernel
theorem dX7_walk_89 : decode cX7_walk 89 = .ok (.aload_n 0, 1) := by decide +kernel
theorem dX7_walk_90 : decode cX7_walk 90 = .ok (.getfield 15, 3) := by decide +kernel
theorem dX7_walk_93 : decode cX7_walk 93 = .ok (.iload 4, 2) := by decide +kernel
theorem dX7_walk_95 : decode cX7_walk 95 = .ok (.iload 5, 2) := by decide +kernel
theorem dX7_walk_97 : decode cX7_walk 97 = .ok (.iastore, 1) := by decide +kernel
theorem dX7_walk_98 : decode cX7_walk 98 = .ok (.aload_n 0, 1) := by decide +kernel
theorem dX7_walk_99 : decode cX7_walk 99 = .ok (.iload 6, 2) := by decide +kernel
theorem dX7_walk_101 : decode cX7_walk 101 = .ok (.iload_n 2, 1) := by decide +kernel
theorem dX7_walk_102 : decode cX7_walk 102 = .ok (.iconst 1, 1) := by decide +kernel
theorem dX7_walk_103 : decode cX7_walk 103 = .ok (.iload 6, 2) := by decide +kernel
theorem dX7_walk_105 : decode cX7_walk 105 = .ok (.ishl, 1) := by decide +kernel
theorem dX7_walk_106 : decode cX7_walk 106 = .ok (.ior, 1) := by decide +kernel
theorem dX7_walk_107 : decode cX7_walk 107 = .ok (.iload_n 3, 1) := by decide +kernel
theorem dX7_walk_108 : decode cX7_walk 108 = .ok (.aload_n 0, 1) := by decide +kernel
theorem dX7_walk_109 : decode cX7_walk 109 = .ok (.getfield 9, 3) := by decide +kernel
theorem dX7_walk_112 : decode cX7_walk 112 = .ok (.iload 5, 2) := by decide +kernel
theorem dX7_walk_114 : decode cX7_walk 114 = .ok (.iaload, 1) := by decide +kernel
theorem dX7_walk_115 : decode cX7_walk 115 = .ok (.iadd, 1) := by decide +kernel
theorem dX7_walk_116 : decode cX7_walk 116 = .ok (.iload 4, 2) := by decide +kernel
theorem dX7_walk_118 : decode cX7_walk 118 = .ok (.iconst 1, 1) := by decide +kernel
theorem dX7_walk_119 : decode cX7_walk 119 = .ok (.iadd, 1) := by decide +kernel
theorem dX7_walk_120 : decode cX7_walk 120 = .ok (.invokevirtual 67, 3) := by decide +kernel
theorem dX7_walk_123 : decode cX7_walk 123 = .ok (.ifCond .eq 5, 3) := by decide +kernel
theorem dX7_walk_126 : decode cX7_walk 126 = .ok (.iconst 1, 1) := by decide +kernel
theorem dX7_walk_127 : decode cX7_walk 127 = .ok (.ireturn, 1) := by decide +kernel
theorem dX7_walk_128 : decode cX7_walk 128 = .ok (.iinc 5 1, 3) := by decide +kernel
theorem dX7_walk_131 : decode cX7_walk 131 = .ok (.goto (-103), 3) := by decide +kernel
theorem dX7_walk_134 : decode cX7_walk 134 = .ok (.iconst 0, 1) := by decide +kernel
theorem dX7_walk_135 : decode cX7_walk 135 = .ok (.ireturn, 1) := by decide +kernel
theorem dX7_arrive_0 : decode cX7_arrive 0 = .ok (.aload_n 0, 1) := by decide +kernel
theorem dX7_arrive_1 : decode cX7_arrive 1 = .ok (.dup, 1) := by decide +kernel
theorem dX7_arrive_2 : decode cX7_arrive 2 = .ok (.getfield 37, 3) := by decide +kernel
theorem dX7_arrive_5 : decode cX7_arrive 5 = .ok (.iconst 1, 1) := by decide +kernel
theorem dX7_arrive_6 : decode cX7_arrive 6 = .ok (.iadd, 1) := by decide +kernel
theorem dX7_arrive_7 : decode cX7_arrive 7 = .ok (.putfield 37, 3) := by decide +kernel
theorem dX7_arrive_10 : decode cX7_arrive 10 = .ok (.aload_n 0, 1) := by decide +kernel
theorem dX7_arrive_11 : decode cX7_arrive 11 = .ok (.iload_n 2, 1) := by decide +kernel
theorem dX7_arrive_12 : decode cX7_arrive 12 = .ok (.putfield 18, 3) := by decide +kernel
theorem dX7_arrive_15 : decode cX7_arrive 15 = .ok (.aload_n 0, 1) := by decide +kernel
theorem dX7_arrive_16 : decode cX7_arrive 16 = .ok (.getfield 28, 3) := by decide +kernel
theorem dX7_arrive_19 : decode cX7_arrive 19 = .ok (.ifCond .le 8, 3) := by decide +kernel
theorem dX7_arrive_22 : decode cX7_arrive 22 = .ok (.aload_n 0, 1) := by decide +kernel
theorem dX7_arrive_23 : decode cX7_arrive 23 = .ok (.iload_n 1, 1) := by decide +kernel
theorem dX7_arrive_24 : decode cX7_arrive 24 = .ok (.invokevirtual 85, 3) := by decide +kernel
theorem dX7_arrive_27 : decode cX7_arrive 27 = .ok (.aload_n 0, 1) := by decide +kernel
theorem dX7_arrive_28 : decode cX7_arrive 28 = .ok (.getfield 40, 3) := by decide +kernel
theorem dX7_arrive_31 : decode cX7_arrive 31 = .ok (.ireturn, 1) := by decide +kernel
theorem dX7_rank_0 : decode cX7_rank 0 = .ok (.aload_n 0, 1) := by decide +kernel
theorem dX7_rank_1 : decode cX7_rank 1 = .ok (.getfield 25, 3) := by decide +kernel
theorem dX7_rank_4 : decode cX7_rank 4 = .ok (.aload_n 0, 1) := by decide +kernel
theorem dX7_rank_5 : decode cX7_rank 5 = .ok (.getfield 28, 3) := by decide +kernel
theorem dX7_rank_8 : decode cX7_rank 8 = .ok (.iconst 1, 1) := by decide +kernel
theorem dX7_rank_9 : decode cX7_rank 9 = .ok (.isub, 1) := by decide +kernel
theorem dX7_rank_10 : decode cX7_rank 10 = .ok (.invokestatic 52, 3) := by decide +kernel
theorem dX7_rank_13 : decode cX7_rank 13 = .ok (.istore_n 2, 1) := by decide +kernel
theorem dX7_rank_14 : decode cX7_rank 14 = .ok (.aload_n 0, 1) := by decide +kernel
theorem dX7_rank_15 : decode cX7_rank 15 = .ok (.getfield 25, 3) := by decide +kernel
theorem dX7_rank_18 : decode cX7_rank 18 = .ok (.aload_n 0, 1) := by decide +kernel
theorem dX7_rank_19 : decode cX7_rank 19 = .ok (.getfield 28, 3) := by decide +kernel
theorem dX7_rank_22 : decode cX7_rank 22 = .ok (.if_icmp .ne 14, 3) := by decide +kernel
theorem dX7_rank_25 : decode cX7_rank 25 = .ok (.aload_n 0, 1) := by decide +kernel
theorem dX7_rank_26 : decode cX7_rank 26 = .ok (.getfield 22, 3) := by decide +kernel
theorem dX7_rank_29 : decode cX7_rank 29 = .ok (.iload_n 2, 1) := by decide +kernel
theorem dX7_rank_30 : decode cX7_rank 30 = .ok (.iaload, 1) := by decide +kernel
theorem dX7_rank_31 : decode cX7_rank 31 = .ok (.iload_n 1, 1) := by decide +kernel
theorem dX7_rank_32 : decode cX7_rank 32 = .ok (.if_icmp .gt 4, 3) := by decide +kernel
theorem dX7_rank_35 : decode cX7_rank 35 = .ok (.return_, 1) := by decide +kernel
theorem dX7_rank_36 : decode cX7_rank 36 = .ok (.iload_n 2, 1) := by decide +kernel
theorem dX7_rank_37 : decode cX7_rank 37 = .ok (.ifCond .le 35, 3) := by decide +kernel
theorem dX7_rank_40 : decode cX7_rank 40 = .ok (.aload_n 0, 1) := by decide +kernel
theorem dX7_rank_41 : decode cX7_rank 41 = .ok (.getfield 22, 3) := by decide +kernel
theorem dX7_rank_44 : decode cX7_rank 44 = .ok (.iload_n 2, 1) := by decide +kernel
theorem dX7_rank_45 : decode cX7_rank 45 = .ok (.iconst 1, 1) := by decide +kernel
theorem dX7_rank_46 : decode cX7_rank 46 = .ok (.isub, 1) := by decide +kernel
theorem dX7_rank_47 : decode cX7_rank 47 = .ok (.iaload, 1) := by decide +kernel
theorem dX7_rank_48 : decode cX7_rank 48 = .ok (.iload_n 1, 1) := by decide +kernel
theorem dX7_rank_49 : decode cX7_rank 49 = .ok (.if_icmp .le 23, 3) := by decide +kernel
theorem dX7_rank_52 : decode cX7_rank 52 = .ok (.aload_n 0, 1) := by decide +kernel
theorem dX7_rank_53 : decode cX7_rank 53 = .ok (.getfield 22, 3) := by decide +kernel
theorem dX7_rank_56 : decode cX7_rank 56 = .ok (.iload_n 2, 1) := by decide +kernel
theorem dX7_rank_57 : decode cX7_rank 57 = .ok (.aload_n 0, 1) := by decide +kernel
theorem dX7_rank_58 : decode cX7_rank 58 = .ok (.getfield 22, 3) := by decide +kernel
theorem dX7_rank_61 : decode cX7_rank 61 = .ok (.iload_n 2, 1) := by decide +kernel
theorem dX7_rank_62 : decode cX7_rank 62 = .ok (.iconst 1, 1) := by decide +kernel
theorem dX7_rank_63 : decode cX7_rank 63 = .ok (.isub, 1) := by decide +kernel
theorem dX7_rank_64 : decode cX7_rank 64 = .ok (.iaload, 1) := by decide +kernel
theorem dX7_rank_65 : decode cX7_rank 65 = .ok (.iastore, 1) := by decide +kernel
theorem dX7_rank_66 : decode cX7_rank 66 = .ok (.iinc 2 (-1), 3) := by decide +kernel
theorem dX7_rank_69 : decode cX7_rank 69 = .ok (.goto (-33), 3) := by decide +kernel
theorem dX7_rank_72 : decode cX7_rank 72 = .ok (.aload_n 0, 1) := by decide +kernel
theorem dX7_rank_73 : decode cX7_rank 73 = .ok (.getfield 22, 3) := by decide +kernel
theorem dX7_rank_76 : decode cX7_rank 76 = .ok (.iload_n 2, 1) := by decide +kernel
theorem dX7_rank_77 : decode cX7_rank 77 = .ok (.iload_n 1, 1) := by decide +kernel
theorem dX7_rank_78 : decode cX7_rank 78 = .ok (.iastore, 1) := by decide +kernel
theorem dX7_rank_79 : decode cX7_rank 79 = .ok (.aload_n 0, 1) := by decide +kernel
theorem dX7_rank_80 : decode cX7_rank 80 = .ok (.getfield 25, 3) := by decide +kernel
theorem dX7_rank_83 : decode cX7_rank 83 = .ok (.aload_n 0, 1) := by decide +kernel
theorem dX7_rank_84 : decode cX7_rank 84 = .ok (.getfield 28, 3) := by decide +kernel
theorem dX7_rank_87 : decode cX7_rank 87 = .ok (.if_icmp .ge 13, 3) := by decide +kernel
theorem dX7_rank_90 : decode cX7_rank 90 = .ok (.aload_n 0, 1) := by decide +kernel
theorem dX7_rank_91 : decode cX7_rank 91 = .ok (.dup, 1) := by decide +kernel
theorem dX7_rank_92 : decode cX7_rank 92 = .ok (.getfield 25, 3) := by decide +kernel
theorem dX7_rank_95 : decode cX7_rank 95 = .ok (.iconst 1, 1) := by decide +kernel
theorem dX7_rank_96 : decode cX7_rank 96 = .ok (.iadd, 1) := by decide +kernel
theorem dX7_rank_97 : decode cX7_rank 97 = .ok (.putfield 25, 3) := by decide +kernel
theorem dX7_rank_100 : decode cX7_rank 100 = .ok (.return_, 1) := by decide +kernel
theorem dX8_init_0 : decode cX8_init 0 = .ok (.aload_n 0, 1) := by decide +kernel
theorem dX8_init_1 : decode cX8_init 1 = .ok (.invokespecial 1, 3) := by decide +kernel
theorem dX8_init_4 : decode cX8_init 4 = .ok (.aload_n 0, 1) := by decide +kernel
theorem dX8_init_5 : decode cX8_init 5 = .ok (.new 7, 3) := by decide +kernel
theorem dX8_init_8 : decode cX8_init 8 = .ok (.dup, 1) := by decide +kernel
theorem dX8_init_9 : decode cX8_init 9 = .ok (.invokespecial 9, 3) := by decide +kernel
theorem dX8_init_12 : decode cX8_init 12 = .ok (.putfield 10, 3) := by decide +kernel
theorem dX8_init_15 : decode cX8_init 15 = .ok (.aload_n 0, 1) := by decide +kernel
theorem dX8_init_16 : decode cX8_init 16 = .ok (.new 16, 3) := by decide +kernel
theorem dX8_init_19 : decode cX8_init 19 = .ok (.dup, 1) := by decide +kernel
theorem dX8_init_20 : decode cX8_init 20 = .ok (.invokespecial 18, 3) := by decide +kernel
theorem dX8_init_23 : decode cX8_init 23 = .ok (.putfield 19, 3) := by decide +kernel
theorem dX8_init_26 : decode cX8_init 26 = .ok (.aload_n 0, 1) := by decide +kernel
theorem dX8_init_27 : decode cX8_init 27 = .ok (.new 23, 3) := by decide +kernel
theorem dX8_init_30 : decode cX8_init 30 = .ok (.dup, 1) := by decide +kernel
theorem dX8_init_31 : decode cX8_init 31 = .ok (.invokespecial 25, 3) := by decide +kernel
theorem dX8_init_34 : decode cX8_init 34 = .ok (.putfield 26, 3) := by decide +kernel
theorem dX8_init_37 : decode cX8_init 37 = .ok (.aload_n 0, 1) := by decide +kernel
theorem dX8_init_38 : decode cX8_init 38 = .ok (.new 30, 3) := by decide +kernel
theorem dX8_init_41 : decode cX8_init 41 = .ok (.dup, 1) := by decide +kernel
theorem dX8_init_42 : decode cX8_init 42 = .ok (.aload_n 0, 1) := by decide +kernel
theorem dX8_init_43 : decode cX8_init 43 = .ok (.getfield 10, 3) := by decide +kernel
theorem dX8_init_46 : decode cX8_init 46 = .ok (.invokespecial 32, 3) := by decide +kernel
theorem dX8_init_49 : decode cX8_init 49 = .ok (.putfield 35, 3) := by decide +kernel
theorem dX8_init_52 : decode cX8_init 52 = .ok (.aload_n 0, 1) := by decide +kernel
theorem dX8_init_53 : decode cX8_init 53 = .ok (.new 39, 3) := by decide +kernel
theorem dX8_init_56 : decode cX8_init 56 = .ok (.dup, 1) := by decide +kernel
theorem dX8_init_57 : decode cX8_init 57 = .ok (.aload_n 0, 1) := by decide +kernel
theorem dX8_init_58 : decode cX8_init 58 = .ok (.getfield 10, 3) := by decide +kernel
theorem dX8_init_61 : decode cX8_init 61 = .ok (.invokespecial 41, 3) := by decide +kernel
theorem dX8_init_64 : decode cX8_init 64 = .ok (.putfield 42, 3) := by decide +kernel
theorem dX8_init_67 : decode cX8_init 67 = .ok (.aload_n 0, 1) := by decide +kernel
theorem dX8_init_68 : decode cX8_init 68 = .ok (.new 46, 3) := by decide +kernel
theorem dX8_init_71 : decode cX8_init 71 = .ok (.dup, 1) := by decide +kernel
theorem dX8_init_72 : decode cX8_init 72 = .ok (.aload_n 0, 1) := by decide +kernel
theorem dX8_init_73 : decode cX8_init 73 = .ok (.getfield 10, 3) := by decide +kernel
theorem dX8_init_76 : decode cX8_init 76 = .ok (.aload_n 0, 1) := by decide +kernel
theorem dX8_init_77 : decode cX8_init 77 = .ok (.getfield 35, 3) := by decide +kernel
theorem dX8_init_80 : decode cX8_init 80 = .ok (.invokespecial 48, 3) := by decide +kernel
theorem dX8_init_83 : decode cX8_init 83 = .ok (.putfield 51, 3) := by decide +kernel
theorem dX8_init_86 : decode cX8_init 86 = .ok (.aload_n 0, 1) := by decide +kernel
theorem dX8_init_87 : decode cX8_init 87 = .ok (.new 55, 3) := by decide +kernel
theorem dX8_init_90 : decode cX8_init 90 = .ok (.dup, 1) := by decide +kernel
theorem dX8_init_91 : decode cX8_init 91 = .ok (.aload_n 0, 1) := by decide +kernel
theorem dX8_init_92 : decode cX8_init 92 = .ok (.getfield 10, 3) := by decide +kernel
theorem dX8_init_95 : decode cX8_init 95 = .ok (.aload_n 0, 1) := by decide +kernel
theorem dX8_init_96 : decode cX8_init 96 = .ok (.getfield 35, 3) := by decide +kernel
theorem dX8_init_99 : decode cX8_init 99 = .ok (.invokespecial 57, 3) := by decide +kernel
theorem dX8_init_102 : decode cX8_init 102 = .ok (.putfield 58, 3) := by decide +kernel
theorem dX8_init_105 : decode cX8_init 105 = .ok (.aload_n 0, 1) := by decide +kernel
theorem dX8_init_106 : decode cX8_init 106 = .ok (.new 62, 3) := by decide +kernel
theorem dX8_init_109 : decode cX8_init 109 = .ok (.dup, 1) := by decide +kernel
theorem dX8_init_110 : decode cX8_init 110 = .ok (.aload_n 0, 1) := by decide +kernel
theorem dX8_init_111 : decode cX8_init 111 = .ok (.getfield 10, 3) := by decide +kernel
theorem dX8_init_114 : decode cX8_init 114 = .ok (.aload_n 0, 1) := by decide +kernel
theorem dX8_init_115 : decode cX8_init 115 = .ok (.getfield 51, 3) := by decide +kernel
theorem dX8_init_118 : decode cX8_init 118 = .ok (.invokespecial 64, 3) := by decide +kernel
theorem dX8_init_121 : decode cX8_init 121 = .ok (.putfield 67, 3) := by decide +kernel
theorem dX8_init_124 : decode cX8_init 124 = .ok (.aload_n 0, 1) := by decide +kernel
theorem dX8_init_125 : decode cX8_init 125 = .ok (.iconst (-1), 1) := by decide +kernel
theorem dX8_init_126 : decode cX8_init 126 = .ok (.putfield 71, 3) := by decide +kernel
theorem dX8_init_129 : decode cX8_init 129 = .ok (.return_, 1) := by decide +kernel
theorem dX8_addEdge_0 : decode cX8_addEdge 0 = .ok (.iload_n 1, 1) := by decide +kernel
theorem dX8_addEdge_1 : decode cX8_addEdge 1 = .ok (.iload_n 2, 1) := by decide +kernel
theorem dX8_addEdge_2 : decode cX8_addEdge 2 = .ok (.invokestatic 75, 3) := by decide +kernel
theorem dX8_addEdge_5 : decode cX8_addEdge 5 = .ok (.ifCond .eq 8, 3) := by decide +kernel
theorem dX8_addEdge_8 : decode cX8_addEdge 8 = .ok (.iload_n 1, 1) := by decide +kernel
theorem dX8_addEdge_9 : decode cX8_addEdge 9 = .ok (.iload_n 2, 1) := by decide +kernel
theorem dX8_addEdge_10 : decode cX8_addEdge 10 = .ok (.if_icmp .ne 6, 3) := by decide +kernel
theorem dX8_addEdge_13 : decode cX8_addEdge 13 = .ok (.bipush (-2), 2) := by decide +kernel
theorem dX8_addEdge_15 : decode cX8_addEdge 15 = .ok (.ireturn, 1) := by decide +kernel
theorem dX8_addEdge_16 : decode cX8_addEdge 16 = .ok (.iconst 2, 1) := by decide +kernel
theorem dX8_addEdge_17 : decode cX8_addEdge 17 = .ok (.iload_n 3, 1) := by decide +kernel
theorem dX8_addEdge_18 : decode cX8_addEdge 18 = .ok (.invokestatic 79, 3) := by decide +kernel
theorem dX8_addEdge_21 : decode cX8_addEdge 21 = .ok (.ifCond .eq 21, 3) := by decide +kernel
theorem dX8_addEdge_24 : decode cX8_addEdge 24 = .ok (.iconst 3, 1) := by decide +kernel
theorem dX8_addEdge_25 : decode cX8_addEdge 25 = .ok (.iload 4, 2) := by decide +kernel
theorem dX8_addEdge_27 : decode cX8_addEdge 27 = .ok (.invokestatic 79, 3) := by decide +kernel
theorem dX8_addEdge_30 : decode cX8_addEdge 30 = .ok (.ifCond .eq 12, 3) := by decide +kernel
theorem dX8_addEdge_33 : decode cX8_addEdge 33 = .ok (.iconst 4, 1) := by decide +kernel
theorem dX8_addEdge_34 : decode cX8_addEdge 34 = .ok (.iload 5, 2) := by decide +kernel
theorem dX8_addEdge_36 : decode cX8_addEdge 36 = .ok (.invokestatic 79, 3) := by decide +kernel
theorem dX8_addEdge_39 : decode cX8_addEdge 39 = .ok (.ifCond .ne 6, 3) := by decide +kernel
theorem dX8_addEdge_42 : decode cX8_addEdge 42 = .ok (.bipush (-2), 2) := by decide +kernel
theorem dX8_addEdge_44 : decode cX8_addEdge 44 = .ok (.ireturn, 1) := by decide +kernel
theorem dX8_addEdge_45 : decode cX8_addEdge 45 = .ok (.aload_n 0, 1) := by decide +kernel
theorem dX8_addEdge_46 : decode cX8_addEdge 46 = .ok (.getfield 10, 3) := by decide +kernel
theorem dX8_addEdge_49 : decode cX8_addEdge 49 = .ok (.getfield 82, 3) := by decide +kernel
theorem dX8_addEdge_52 : decode cX8_addEdge 52 = .ok (.bipush 16, 2) := by decide +kernel
theorem dX8_addEdge_54 : decode cX8_addEdge 54 = .ok (.if_icmp .lt 6, 3) := by decide +kernel
theorem dX8_addEdge_57 : decode cX8_addEdge 57 = .ok (.bipush (-4), 2) := by decide +kernel
theorem dX8_addEdge_59 : decode cX8_addEdge 59 = .ok (.ireturn, 1) := by decide +kernel
theorem dX8_addEdge_60 : decode cX8_addEdge 60 = .ok (.aload_n 0, 1) := by decide +kernel
theorem dX8_addEdge_61 : decode cX8_addEdge 61 = .ok (.getfield 19, 3) := by decide +kernel
theorem dX8_addEdge_64 : decode cX8_addEdge 64 = .ok (.aload_n 0, 1) := by decide +kernel
theorem dX8_addEdge_65 : decode cX8_addEdge 65 = .ok (.getfield 10, 3) := by decide +kernel
theorem dX8_addEdge_68 : decode cX8_addEdge 68 = .ok (.invokevirtual 85, 3) := by decide +kernel
theorem dX8_addEdge_71 : decode cX8_addEdge 71 = .ok (.aload_n 0, 1) := by decide +kernel
theorem dX8_addEdge_72 : decode cX8_addEdge 72 = .ok (.getfield 10, 3) := by decide +kernel
theorem dX8_addEdge_75 : decode cX8_addEdge 75 = .ok (.iload_n 1, 1) := by decide +kernel
theorem dX8_addEdge_76 : decode cX8_addEdge 76 = .ok (.iload_n 2, 1) := by decide +kernel
theorem dX8_addEdge_77 : decode cX8_addEdge 77 = .ok (.iload_n 3, 1) := by decide +kernel
theorem dX8_addEdge_78 : decode cX8_addEdge 78 = .ok (.iload 4, 2) := by decide +kernel
theorem dX8_addEdge_80 : decode cX8_addEdge 80 = .ok (.iload 5, 2) := by decide +kernel
theorem dX8_addEdge_82 : decode cX8_addEdge 82 = .ok (.invokestatic 88, 3) := by decide +kernel
theorem dX8_addEdge_85 : decode cX8_addEdge 85 = .ok (.invokevirtual 92, 3) := by decide +kernel
theorem dX8_addEdge_88 : decode cX8_addEdge 88 = .ok (.aload_n 0, 1) := by decide +kernel
theorem dX8_addEdge_89 : decode cX8_addEdge 89 = .ok (.getfield 10, 3) := by decide +kernel
theorem dX8_addEdge_92 : decode cX8_addEdge 92 = .ok (.getfield 82, 3) := by decide +kernel
theorem dX8_addEdge_95 : decode cX8_addEdge 95 = .ok (.iconst 1, 1) := by decide +kernel
theorem dX8_addEdge_96 : decode cX8_addEdge 96 = .ok (.isub, 1) := by decide +kernel
theorem dX8_addEdge_97 : decode cX8_addEdge 97 = .ok (.ireturn, 1) := by decide +kernel
theorem dX8_removeEdge_0 : decode cX8_removeEdge 0 = .ok (.aload_n 0, 1) := by decide +kernel
theorem dX8_removeEdge_1 : decode cX8_removeEdge 1 = .ok (.getfield 10, 3) := by decide +kernel
theorem dX8_removeEdge_4 : decode cX8_removeEdge 4 = .ok (.iload_n 1, 1) := by decide +kernel
theorem dX8_removeEdge_5 : decode cX8_removeEdge 5 = .ok (.invokevirtual 96, 3) := by decide +kernel
theorem dX8_removeEdge_8 : decode cX8_removeEdge 8 = .ok (.ifCond .ne 6, 3) := by decide +kernel
theorem dX8_removeEdge_11 : decode cX8_removeEdge 11 = .ok (.bipush (-2), 2) := by decide +kernel
theorem dX8_removeEdge_13 : decode cX8_removeEdge 13 = .ok (.ireturn, 1) := by decide +kernel
theorem dX8_removeEdge_14 : decode cX8_removeEdge 14 = .ok (.aload_n 0, 1) := by decide +kernel
theorem dX8_removeEdge_15 : decode cX8_removeEdge 15 = .ok (.getfield 19, 3) := by decide +kernel
theorem dX8_removeEdge_18 : decode cX8_removeEdge 18 = .ok (.aload_n 0, 1) := by decide +kernel
theorem dX8_removeEdge_19 : decode cX8_removeEdge 19 = .ok (.getfield 10, 3) := by decide +kernel
theorem dX8_removeEdge_22 : decode cX8_removeEdge 22 = .ok (.invokevirtual 85, 3) := by decide +kernel
theorem dX8_removeEdge_25 : decode cX8_removeEdge 25 = .ok (.aload_n 0, 1) := by decide +kernel
theorem dX8_removeEdge_26 : decode cX8_removeEdge 26 = .ok (.getfield 10, 3) := by decide +kernel
theorem dX8_removeEdge_29 : decode cX8_removeEdge 29 = .ok (.iload_n 1, 1) := by decide +kernel
theorem dX8_removeEdge_30 : decode cX8_removeEdge 30 = .ok (.invokevirtual 100, 3) := by decide +kernel
theorem dX8_removeEdge_33 : decode cX8_removeEdge 33 = .ok (.aload_n 0, 1) := by decide +kernel
theorem dX8_removeEdge_34 : decode cX8_removeEdge 34 = .ok (.getfield 10, 3) := by decide +kernel
theorem dX8_removeEdge_37 : decode cX8_removeEdge 37 = .ok (.getfield 82, 3) := by decide +kernel
theorem dX8_removeEdge_40 : decode cX8_removeEdge 40 = .ok (.ireturn, 1) := by decide +kernel
theorem dX8_setEdge_0 : decode cX8_setEdge 0 = .ok (.aload_n 0, 1) := by decide +kernel
theorem dX8_setEdge_1 : decode cX8_setEdge 1 = .ok (.getfield 10, 3) := by decide +kernel
theorem dX8_setEdge_4 : decode cX8_setEdge 4 = .ok (.iload_n 1, 1) := by decide +kernel
theorem dX8_setEdge_5 : decode cX8_setEdge 5 = .ok (.invokevirtual 96, 3) := by decide +kernel
theorem dX8_setEdge_8 : decode cX8_setEdge 8 = .ok (.ifCond .eq 11, 3) := by decide +kernel
theorem dX8_setEdge_11 : decode cX8_setEdge 11 = .ok (.iload_n 2, 1) := by decide +kernel
theorem dX8_setEdge_12 : decode cX8_setEdge 12 = .ok (.iload_n 3, 1) := by decide +kernel
theorem dX8_setEdge_13 : decode cX8_setEdge 13 = .ok (.invokestatic 79, 3) := by decide +kernel
theorem dX8_setEdge_16 : decode cX8_setEdge 16 = .ok (.ifCond .ne 6, 3) := by decide +kernel
theorem dX8_setEdge_19 : decode cX8_setEdge 19 = .ok (.bipush (-2), 2) := by decide +kernel
theorem dX8_setEdge_21 : decode cX8_setEdge 21 = .ok (.ireturn, 1) := by decide +kernel
theorem dX8_setEdge_22 : decode cX8_setEdge 22 = .ok (.aload_n 0, 1) := by decide +kernel
theorem dX8_setEdge_23 : decode cX8_setEdge 23 = .ok (.getfield 19, 3) := by decide +kernel
theorem dX8_setEdge_26 : decode cX8_setEdge 26 = .ok (.aload_n 0, 1) := by decide +kernel
theorem dX8_setEdge_27 : decode cX8_setEdge 27 = .ok (.getfield 10, 3) := by decide +kernel
theorem dX8_setEdge_30 : decode cX8_setEdge 30 = .ok (.invokevirtual 85, 3) := by decide +kernel
theorem dX8_setEdge_33 : decode cX8_setEdge 33 = .ok (.aload_n 0, 1) := by decide +kernel
theorem dX8_setEdge_34 : decode cX8_setEdge 34 = .ok (.getfield 10, 3) := by decide +kernel
theorem dX8_setEdge_37 : decode cX8_setEdge 37 = .ok (.iload_n 1, 1) := by decide +kernel
theorem dX8_setEdge_38 : decode cX8_setEdge 38 = .ok (.iload_n 2, 1) := by decide +kernel
theorem dX8_setEdge_39 : decode cX8_setEdge 39 = .ok (.invokevirtual 103, 3) := by decide +kernel
theorem dX8_setEdge_42 : decode cX8_setEdge 42 = .ok (.istore 4, 2) := by decide +kernel
theorem dX8_setEdge_44 : decode cX8_setEdge 44 = .ok (.aload_n 0, 1) := by decide +kernel
theorem dX8_setEdge_45 : decode cX8_setEdge 45 = .ok (.getfield 10, 3) := by decide +kernel
theorem dX8_setEdge_48 : decode cX8_setEdge 48 = .ok (.iload_n 1, 1) := by decide +kernel
theorem dX8_setEdge_49 : decode cX8_setEdge 49 = .ok (.iload_n 2, 1) := by decide +kernel
theorem dX8_setEdge_50 : decode cX8_setEdge 50 = .ok (.iload_n 3, 1) := by decide +kernel
theorem dX8_setEdge_51 : decode cX8_setEdge 51 = .ok (.invokevirtual 107, 3) := by decide +kernel
theorem dX8_setEdge_54 : decode cX8_setEdge 54 = .ok (.iload 4, 2) := by decide +kernel
theorem dX8_setEdge_56 : decode cX8_setEdge 56 = .ok (.ireturn, 1) := by decide +kernel
theorem dX8_edge_0 : decode cX8_edge 0 = .ok (.aload_n 0, 1) := by decide +kernel
theorem dX8_edge_1 : decode cX8_edge 1 = .ok (.getfield 10, 3) := by decide +kernel
theorem dX8_edge_4 : decode cX8_edge 4 = .ok (.iload_n 1, 1) := by decide +kernel
theorem dX8_edge_5 : decode cX8_edge 5 = .ok (.invokevirtual 96, 3) := by decide +kernel
theorem dX8_edge_8 : decode cX8_edge 8 = .ok (.ifCond .eq 12, 3) := by decide +kernel
theorem dX8_edge_11 : decode cX8_edge 11 = .ok (.iload_n 2, 1) := by decide +kernel
theorem dX8_edge_12 : decode cX8_edge 12 = .ok (.ifCond .lt 8, 3) := by decide +kernel
theorem dX8_edge_15 : decode cX8_edge 15 = .ok (.iload_n 2, 1) := by decide +kernel
theorem dX8_edge_16 : decode cX8_edge 16 = .ok (.iconst 5, 1) := by decide +kernel
theorem dX8_edge_17 : decode cX8_edge 17 = .ok (.if_icmp .le 6, 3) := by decide +kernel
theorem dX8_edge_20 : decode cX8_edge 20 = .ok (.bipush (-2), 2) := by decide +kernel
theorem dX8_edge_22 : decode cX8_edge 22 = .ok (.ireturn, 1) := by decide +kernel
theorem dX8_edge_23 : decode cX8_edge 23 = .ok (.iload_n 2, 1) := by decide +kernel
theorem dX8_edge_24 : decode cX8_edge 24 = .ok (.iconst 5, 1) := by decide +kernel
theorem dX8_edge_25 : decode cX8_edge 25 = .ok (.if_icmp .ne 17, 3) := by decide +kernel
theorem dX8_edge_28 : decode cX8_edge 28 = .ok (.aload_n 0, 1) := by decide +kernel
theorem dX8_edge_29 : decode cX8_edge 29 = .ok (.getfield 10, 3) := by decide +kernel
theorem dX8_edge_32 : decode cX8_edge 32 = .ok (.getfield 111, 3) := by decide +kernel
theorem dX8_edge_35 : decode cX8_edge 35 = .ok (.iload_n 1, 1) := by decide +kernel
theorem dX8_edge_36 : decode cX8_edge 36 = .ok (.ishr, 1) := by decide +kernel
theorem dX8_edge_37 : decode cX8_edge 37 = .ok (.iconst 1, 1) := by decide +kernel
theorem dX8_edge_38 : decode cX8_edge 38 = .ok (.iand, 1) := by decide +kernel
theorem dX8_edge_39 : decode cX8_edge 39 = .ok (.goto 12, 3) := by decide +kernel
theorem dX8_edge_42 : decode cX8_edge 42 = .ok (.aload_n 0, 1) := by decide +kernel
theorem dX8_edge_43 : decode cX8_edge 43 = .ok (.getfield 10, 3) := by decide +kernel
theorem dX8_edge_46 : decode cX8_edge 46 = .ok (.iload_n 1, 1) := by decide +kernel
theorem dX8_edge_47 : decode cX8_edge 47 = .ok (.iload_n 2, 1) := by decide +kernel
theorem dX8_edge_48 : decode cX8_edge 48 = .ok (.invokevirtual 103, 3) := by decide +kernel
theorem dX8_edge_51 : decode cX8_edge 51 = .ok (.ireturn, 1) := by decide +kernel
theorem dX8_clear_0 : decode cX8_clear 0 = .ok (.aload_n 0, 1) := by decide +kernel
theorem dX8_clear_1 : decode cX8_clear 1 = .ok (.getfield 19, 3) := by decide +kernel
theorem dX8_clear_4 : decode cX8_clear 4 = .ok (.aload_n 0, 1) := by decide +kernel
theorem dX8_clear_5 : decode cX8_clear 5 = .ok (.getfield 10, 3) := by decide +kernel
theorem dX8_clear_8 : decode cX8_clear 8 = .ok (.invokevirtual 85, 3) := by decide +kernel
theorem dX8_clear_11 : decode cX8_clear 11 = .ok (.aload_n 0, 1) := by decide +kernel
theorem dX8_clear_12 : decode cX8_clear 12 = .ok (.getfield 10, 3) := by decide +kernel
theorem dX8_clear_15 : decode cX8_clear 15 = .ok (.getfield 82, 3) := by decide +kernel
theorem dX8_clear_18 : decode cX8_clear 18 = .ok (.istore_n 1, 1) := by decide +kernel
theorem dX8_clear_19 : decode cX8_clear 19 = .ok (.aload_n 0, 1) := by decide +kernel
theorem dX8_clear_20 : decode cX8_clear 20 = .ok (.getfield 10, 3) := by decide +kernel
theorem dX8_clear_23 : decode cX8_clear 23 = .ok (.invokevirtual 114, 3) := by decide +kernel
theorem dX8_clear_26 : decode cX8_clear 26 = .ok (.iload_n 1, 1) := by decide +kernel
theorem dX8_clear_27 : decode cX8_clear 27 = .ok (.ireturn, 1) := by decide +kernel
theorem dX8_type_0 : decode cX8_type 0 = .ok (.iload_n 1, 1) := by decide +kernel
theorem dX8_type_1 : decode cX8_type 1 = .ok (.ifCond .lt 9, 3) := by decide +kernel
theorem dX8_type_4 : decode cX8_type 4 = .ok (.iload_n 1, 1) := by decide +kernel
theorem dX8_type_5 : decode cX8_type 5 = .ok (.bipush 127, 2) := by decide +kernel
theorem dX8_type_7 : decode cX8_type 7 = .ok (.if_icmp .le 6, 3) := by decide +kernel
theorem dX8_type_10 : decode cX8_type 10 = .ok (.bipush (-2), 2) := by decide +kernel
theorem dX8_type_12 : decode cX8_type 12 = .ok (.ireturn, 1) := by decide +kernel
theorem dX8_type_13 : decode cX8_type 13 = .ok (.aload_n 0, 1) := by decide +kernel
theorem dX8_type_14 : decode cX8_type 14 = .ok (.getfield 26, 3) := by decide +kernel
theorem dX8_type_17 : decode cX8_type 17 = .ok (.iload_n 1, 1) := by decide +kernel
theorem dX8_type_18 : decode cX8_type 18 = .ok (.invokevirtual 117, 3) := by decide +kernel
theorem dX8_type_21 : decode cX8_type 21 = .ok (.ifCond .eq 13, 3) := by decide +kernel
theorem dX8_type_24 : decode cX8_type 24 = .ok (.aload_n 0, 1) := by decide +kernel
theorem dX8_type_25 : decode cX8_type 25 = .ok (.getfield 26, 3) := by decide +kernel
theorem dX8_type_28 : decode cX8_type 28 = .ok (.getfield 119, 3) := by decide +kernel
theorem dX8_type_31 : decode cX8_type 31 = .ok (.goto 5, 3) := by decide +kernel
theorem dX8_type_34 : decode cX8_type 34 = .ok (.bipush (-4), 2) := by decide +kernel
theorem dX8_type_36 : decode cX8_type 36 = .ok (.ireturn, 1) := by decide +kernel
theorem dX8_clearText_0 : decode cX8_clearText 0 = .ok (.aload_n 0, 1) := by decide +kernel
theorem dX8_clearText_1 : decode cX8_clearText 1 = .ok (.getfield 26, 3) := by decide +kernel
theorem dX8_clearText_4 : decode cX8_clearText 4 = .ok (.getfield 119, 3) := by decide +kernel
theorem dX8_clearText_7 : decode cX8_clearText 7 = .ok (.istore_n 1, 1) := by decide +kernel
theorem dX8_clearText_8 : decode cX8_clearText 8 = .ok (.aload_n 0, 1) := by decide +kernel
theorem dX8_clearText_9 : decode cX8_clearText 9 = .ok (.getfield 26, 3) := by decide +kernel
theorem dX8_clearText_12 : decode cX8_clearText 12 = .ok (.iconst 0, 1) := by decide +kernel
theorem dX8_clearText_13 : decode cX8_clearText 13 = .ok (.putfield 119, 3) := by decide +kernel
theorem dX8_clearText_16 : decode cX8_clearText 16 = .ok (.iload_n 1, 1) := by decide +kernel
theorem dX8_clearText_17 : decode cX8_clearText 17 = .ok (.ireturn, 1) := by decide +kernel
theorem dX8_fault_0 : decode cX8_fault 0 = .ok (.aload_n 0, 1) := by decide +kernel
theorem dX8_fault_1 : decode cX8_fault 1 = .ok (.getfield 26, 3) := by decide +kernel
theorem dX8_fault_4 : decode cX8_fault 4 = .ok (.invokevirtual 120, 3) := by decide +kernel
theorem dX8_fault_7 : decode cX8_fault 7 = .ok (.ireturn, 1) := by decide +kernel
theorem dX8_load_0 : decode cX8_load 0 = .ok (.aload_n 0, 1) := by decide +kernel
theorem dX8_load_1 : decode cX8_load 1 = .ok (.getfield 26, 3) := by decide +kernel
theorem dX8_load_4 : decode cX8_load 4 = .ok (.invokevirtual 120, 3) := by decide +kernel
theorem dX8_load_7 : decode cX8_load 7 = .ok (.iconst (-1), 1) := by decide +kernel
theorem dX8_load_8 : decode cX8_load 8 = .ok (.if_icmp .eq 6, 3) := by decide +kernel
theorem dX8_load_11 : decode cX8_load 11 = .ok (.bipush (-3), 2) := by decide +kernel
theorem dX8_load_13 : decode cX8_load 13 = .ok (.ireturn, 1) := by decide +kernel
theorem dX8_load_14 : decode cX8_load 14 = .ok (.aload_n 0, 1) := by decide +kernel
theorem dX8_load_15 : decode cX8_load 15 = .ok (.getfield 19, 3) := by decide +kernel
theorem dX8_load_18 : decode cX8_load 18 = .ok (.aload_n 0, 1) := by decide +kernel
theorem dX8_load_19 : decode cX8_load 19 = .ok (.getfield 10, 3) := by decide +kernel
theorem dX8_load_22 : decode cX8_load 22 = .ok (.invokevirtual 85, 3) := by decide +kernel
theorem dX8_load_25 : decode cX8_load 25 = .ok (.aload_n 0, 1) := by decide +kernel
theorem dX8_load_26 : decode cX8_load 26 = .ok (.getfield 10, 3) := by decide +kernel
theorem dX8_load_29 : decode cX8_load 29 = .ok (.invokevirtual 114, 3) := by decide +kernel
theorem dX8_load_32 : decode cX8_load 32 = .ok (.iconst 0, 1) := by decide +kernel
theorem dX8_load_33 : decode cX8_load 33 = .ok (.istore_n 1, 1) := by decide +kernel
theorem dX8_load_34 : decode cX8_load 34 = .ok (.iload_n 1, 1) := by decide +kernel
theorem dX8_load_35 : decode cX8_load 35 = .ok (.aload_n 0, 1) := by decide +kernel
theorem dX8_load_36 : decode cX8_load 36 = .ok (.getfield 26, 3) := by decide +kernel
theorem dX8_load_39 : decode cX8_load 39 = .ok (.getfield 124, 3) := by decide +kernel
theorem dX8_load_42 : decode cX8_load 42 = .ok (.if_icmp .ge 24, 3) := by decide +kernel
theorem dX8_load_45 : decode cX8_load 45 = .ok (.aload_n 0, 1) := by decide +kernel
theorem dX8_load_46 : decode cX8_load 46 = .ok (.getfield 10, 3) := by decide +kernel
theorem dX8_load_49 : decode cX8_load 49 = .ok (.aload_n 0, 1) := by decide +kernel
theorem dX8_load_50 : decode cX8_load 50 = .ok (.getfield 26, 3) := by decide +kernel
theorem dX8_load_53 : decode cX8_load 53 = .ok (.iload_n 1, 1) := by decide +kernel
theorem dX8_load_54 : decode cX8_load 54 = .ok (.invokevirtual 127, 3) := by decide +kernel
theorem dX8_load_57 : decode cX8_load 57 = .ok (.invokevirtual 92, 3) := by decide +kernel
theorem dX8_load_60 : decode cX8_load 60 = .ok (.iinc 1 1, 3) := by decide +kernel
theorem dX8_load_63 : decode cX8_load 63 = .ok (.goto (-29), 3) := by decide +kernel
theorem dX8_load_66 : decode cX8_load 66 = .ok (.aload_n 0, 1) := by decide +kernel
theorem dX8_load_67 : decode cX8_load 67 = .ok (.getfield 26, 3) := by decide +kernel
theorem dX8_load_70 : decode cX8_load 70 = .ok (.iconst 0, 1) := by decide +kernel
theorem dX8_load_71 : decode cX8_load 71 = .ok (.putfield 119, 3) := by decide +kernel
theorem dX8_load_74 : decode cX8_load 74 = .ok (.aload_n 0, 1) := by decide +kernel
theorem dX8_load_75 : decode cX8_load 75 = .ok (.getfield 10, 3) := by decide +kernel
theorem dX8_load_78 : decode cX8_load 78 = .ok (.getfield 82, 3) := by decide +kernel
theorem dX8_load_81 : decode cX8_load 81 = .ok (.ireturn, 1) := by decide +kernel
theorem dX8_attack_0 : decode cX8_attack 0 = .ok (.aload_n 0, 1) := by decide +kernel
theorem dX8_attack_1 : decode cX8_attack 1 = .ok (.getfield 10, 3) := by decide +kernel
theorem dX8_attack_4 : decode cX8_attack 4 = .ok (.iload_n 1, 1) := by decide +kernel
theorem dX8_attack_5 : decode cX8_attack 5 = .ok (.invokevirtual 96, 3) := by decide +kernel
theorem dX8_attack_8 : decode cX8_attack 8 = .ok (.ifCond .ne 6, 3) := by decide +kernel
theorem dX8_attack_11 : decode cX8_attack 11 = .ok (.bipush (-2), 2) := by decide +kernel
theorem dX8_attack_13 : decode cX8_attack 13 = .ok (.ireturn, 1) := by decide +kernel
theorem dX8_attack_14 : decode cX8_attack 14 = .ok (.aload_n 0, 1) := by decide +kernel
theorem dX8_attack_15 : decode cX8_attack 15 = .ok (.getfield 10, 3) := by decide +kernel
theorem dX8_attack_18 : decode cX8_attack 18 = .ok (.getfield 111, 3) := by decide +kernel
theorem dX8_attack_21 : decode cX8_attack 21 = .ok (.iload_n 1, 1) := by decide +kernel
theorem dX8_attack_22 : decode cX8_attack 22 = .ok (.ishr, 1) := by decide +kernel
theorem dX8_attack_23 : decode cX8_attack 23 = .ok (.iconst 1, 1) := by decide +kernel
theorem dX8_attack_24 : decode cX8_attack 24 = .ok (.iand, 1) := by decide +kernel
theorem dX8_attack_25 : decode cX8_attack 25 = .ok (.ifCond .eq 7, 3) := by decide +kernel
theorem dX8_attack_28 : decode cX8_attack 28 = .ok (.iconst 1, 1) := by decide +kernel
theorem dX8_attack_29 : decode cX8_attack 29 = .ok (.goto 4, 3) := by decide +kernel
theorem dX8_attack_32 : decode cX8_attack 32 = .ok (.iconst 0, 1) := by decide +kernel
theorem dX8_attack_33 : decode cX8_attack 33 = .ok (.istore_n 3, 1) := by decide +kernel
theorem dX8_attack_34 : decode cX8_attack 34 = .ok (.iload_n 3, 1) := by decide +kernel
theorem dX8_attack_35 : decode cX8_attack 35 = .ok (.iload_n 2, 1) := by decide +kernel
theorem dX8_attack_36 : decode cX8_attack 36 = .ok (.if_icmp .ne 6, 3) := by decide +kernel
theorem dX8_attack_39 : decode cX8_attack 39 = .ok (.bipush (-3), 2) := by decide +kernel
theorem dX8_attack_41 : decode cX8_attack 41 = .ok (.ireturn, 1) := by decide +kernel
theorem dX8_attack_42 : decode cX8_attack 42 = .ok (.aload_n 0, 1) := by decide +kernel
theorem dX8_attack_43 : decode cX8_attack 43 = .ok (.getfield 19, 3) := by decide +kernel
theorem dX8_attack_46 : decode cX8_attack 46 = .ok (.aload_n 0, 1) := by decide +kernel
theorem dX8_attack_47 : decode cX8_attack 47 = .ok (.getfield 10, 3) := by decide +kernel
theorem dX8_attack_50 : decode cX8_attack 50 = .ok (.invokevirtual 85, 3) := by decide +kernel
theorem dX8_attack_53 : decode cX8_attack 53 = .ok (.aload_n 0, 1) := by decide +kernel
theorem dX8_attack_54 : decode cX8_attack 54 = .ok (.getfield 10, 3) := by decide +kernel
theorem dX8_attack_57 : decode cX8_attack 57 = .ok (.dup, 1) := by decide +kernel
theorem dX8_attack_58 : decode cX8_attack 58 = .ok (.getfield 111, 3) := by decide +kernel
theorem dX8_attack_61 : decode cX8_attack 61 = .ok (.iconst 1, 1) := by decide +kernel
theorem dX8_attack_62 : decode cX8_attack 62 = .ok (.iload_n 1, 1) := by decide +kernel
theorem dX8_attack_63 : decode cX8_attack 63 = .ok (.ishl, 1) := by decide +kernel
theorem dX8_attack_64 : decode cX8_attack 64 = .ok (.ixor, 1) := by decide +kernel
theorem dX8_attack_65 : decode cX8_attack 65 = .ok (.putfield 111, 3) := by decide +kernel
theorem dX8_attack_68 : decode cX8_attack 68 = .ok (.aload_n 0, 1) := by decide +kernel
theorem dX8_attack_69 : decode cX8_attack 69 = .ok (.getfield 10, 3) := by decide +kernel
theorem dX8_attack_72 : decode cX8_attack 72 = .ok (.aload_n 0, 1) := by decide +kernel
theorem dX8_attack_73 : decode cX8_attack 73 = .ok (.getfield 10, 3) := by decide +kernel
theorem dX8_attack_76 : decode cX8_attack 76 = .ok (.getfield 111, 3) := by decide +kernel
theorem dX8_attack_79 : decode cX8_attack 79 = .ok (.invokevirtual 131, 3) := by decide +kernel
theorem dX8_attack_82 : decode cX8_attack 82 = .ok (.ireturn, 1) := by decide +kernel
theorem dX8_setAttack_0 : decode cX8_setAttack 0 = .ok (.aload_n 0, 1) := by decide +kernel
theorem dX8_setAttack_1 : decode cX8_setAttack 1 = .ok (.getfield 10, 3) := by decide +kernel
theorem dX8_setAttack_4 : decode cX8_setAttack 4 = .ok (.iload_n 1, 1) := by decide +kernel
theorem dX8_setAttack_5 : decode cX8_setAttack 5 = .ok (.invokevirtual 134, 3) := by decide +kernel
theorem dX8_setAttack_8 : decode cX8_setAttack 8 = .ok (.ifCond .ne 6, 3) := by decide +kernel
theorem dX8_setAttack_11 : decode cX8_setAttack 11 = .ok (.bipush (-2), 2) := by decide +kernel
theorem dX8_setAttack_13 : decode cX8_setAttack 13 = .ok (.ireturn, 1) := by decide +kernel
theorem dX8_setAttack_14 : decode cX8_setAttack 14 = .ok (.aload_n 0, 1) := by decide +kernel
theorem dX8_setAttack_15 : decode cX8_setAttack 15 = .ok (.getfield 19, 3) := by decide +kernel
theorem dX8_setAttack_18 : decode cX8_setAttack 18 = .ok (.aload_n 0, 1) := by decide +kernel
theorem dX8_setAttack_19 : decode cX8_setAttack 19 = .ok (.getfield 10, 3) := by decide +kernel
theorem dX8_setAttack_22 : decode cX8_setAttack 22 = .ok (.invokevirtual 85, 3) := by decide +kernel
theorem dX8_setAttack_25 : decode cX8_setAttack 25 = .ok (.aload_n 0, 1) := by decide +kernel
theorem dX8_setAttack_26 : decode cX8_setAttack 26 = .ok (.getfield 10, 3) := by decide +kernel
theorem dX8_setAttack_29 : decode cX8_setAttack 29 = .ok (.iload_n 1, 1) := by decide +kernel
theorem dX8_setAttack_30 : decode cX8_setAttack 30 = .ok (.putfield 111, 3) := by decide +kernel
theorem dX8_setAttack_33 : decode cX8_setAttack 33 = .ok (.aload_n 0, 1) := by decide +kernel
theorem dX8_setAttack_34 : decode cX8_setAttack 34 = .ok (.getfield 10, 3) := by decide +kernel
theorem dX8_setAttack_37 : decode cX8_setAttack 37 = .ok (.iload_n 1, 1) := by decide +kernel
theorem dX8_setAttack_38 : decode cX8_setAttack 38 = .ok (.invokevirtual 131, 3) := by decide +kernel
theorem dX8_setAttack_41 : decode cX8_setAttack 41 = .ok (.ireturn, 1) := by decide +kernel
theorem dX8_distance_0 : decode cX8_distance 0 = .ok (.iload_n 1, 1) := by decide +kernel
theorem dX8_distance_1 : decode cX8_distance 1 = .ok (.iload_n 2, 1) := by decide +kernel
theorem dX8_distance_2 : decode cX8_distance 2 = .ok (.invokestatic 75, 3) := by decide +kernel
theorem dX8_distance_5 : decode cX8_distance 5 = .ok (.ifCond .ne 6, 3) := by decide +kernel
theorem dX8_distance_8 : decode cX8_distance 8 = .ok (.bipush (-2), 2) := by decide +kernel
theorem dX8_distance_10 : decode cX8_distance 10 = .ok (.ireturn, 1) := by decide +kernel
theorem dX8_distance_11 : decode cX8_distance 11 = .ok (.aload_n 0, 1) := by decide +kernel
theorem dX8_distance_12 : decode cX8_distance 12 = .ok (.getfield 35, 3) := by decide +kernel
theorem dX8_distance_15 : decode cX8_distance 15 = .ok (.iload_n 1, 1) := by decide +kernel
theorem dX8_distance_16 : decode cX8_distance 16 = .ok (.iload_n 2, 1) := by decide +kernel
theorem dX8_distance_17 : decode cX8_distance 17 = .ok (.aload_n 0, 1) := by decide +kernel
theorem dX8_distance_18 : decode cX8_distance 18 = .ok (.getfield 10, 3) := by decide +kernel
theorem dX8_distance_21 : decode cX8_distance 21 = .ok (.getfield 111, 3) := by decide +kernel
theorem dX8_distance_24 : decode cX8_distance 24 = .ok (.iconst 0, 1) := by decide +kernel
theorem dX8_distance_25 : decode cX8_distance 25 = .ok (.invokevirtual 137, 3) := by decide +kernel
theorem dX8_distance_28 : decode cX8_distance 28 = .ok (.ireturn, 1) := by decide +kernel
theorem dX8_first_0 : decode cX8_first 0 = .ok (.iload_n 1, 1) := by decide +kernel
theorem dX8_first_1 : decode cX8_first 1 = .ok (.iload_n 2, 1) := by decide +kernel
theorem dX8_first_2 : decode cX8_first 2 = .ok (.invokestatic 75, 3) := by decide +kernel
theorem dX8_first_5 : decode cX8_first 5 = .ok (.ifCond .eq 8, 3) := by decide +kernel
theorem dX8_first_8 : decode cX8_first 8 = .ok (.iload_n 3, 1) := by decide +kernel
theorem dX8_first_9 : decode cX8_first 9 = .ok (.iconst (-1), 1) := by decide +kernel
theorem dX8_first_10 : decode cX8_first 10 = .ok (.if_icmp .ge 6, 3) := by decide +kernel
theorem dX8_first_13 : decode cX8_first 13 = .ok (.bipush (-2), 2) := by decide +kernel
theorem dX8_first_15 : decode cX8_first 15 = .ok (.ireturn, 1) := by decide +kernel
theorem dX8_first_16 : decode cX8_first 16 = .ok (.aload_n 0, 1) := by decide +kernel
theorem dX8_first_17 : decode cX8_first 17 = .ok (.getfield 35, 3) := by decide +kernel
theorem dX8_first_20 : decode cX8_first 20 = .ok (.iload_n 1, 1) := by decide +kernel
theorem dX8_first_21 : decode cX8_first 21 = .ok (.iload_n 2, 1) := by decide +kernel
theorem dX8_first_22 : decode cX8_first 22 = .ok (.aload_n 0, 1) := by decide +kernel
theorem dX8_first_23 : decode cX8_first 23 = .ok (.getfield 10, 3) := by decide +kernel
theorem dX8_first_26 : decode cX8_first 26 = .ok (.getfield 111, 3) := by decide +kernel
theorem dX8_first_29 : decode cX8_first 29 = .ok (.iconst 0, 1) := by decide +kernel
theorem dX8_first_30 : decode cX8_first 30 = .ok (.invokevirtual 137, 3) := by decide +kernel
theorem dX8_first_33 : decode cX8_first 33 = .ok (.istore 4, 2) := by decide +kernel
theorem dX8_first_35 : decode cX8_first 35 = .ok (.iload 4, 2) := by decide +kernel
theorem dX8_first_37 : decode cX8_first 37 = .ok (.sipush 9999, 3) := by decide +kernel
theorem dX8_first_40 : decode cX8_first 40 = .ok (.if_icmp .eq 17, 3) := by decide +kernel
theorem dX8_first_43 : decode cX8_first 43 = .ok (.aload_n 0, 1) := by decide +kernel
theorem dX8_first_44 : decode cX8_first 44 = .ok (.getfield 42, 3) := by decide +kernel
theorem dX8_first_47 : decode cX8_first 47 = .ok (.iload_n 1, 1) := by decide +kernel
theorem dX8_first_48 : decode cX8_first 48 = .ok (.iload_n 2, 1) := by decide +kernel
theorem dX8_first_49 : decode cX8_first 49 = .ok (.iload 4, 2) := by decide +kernel
theorem dX8_first_51 : decode cX8_first 51 = .ok (.invokevirtual 141, 3) := by decide +kernel
theorem dX8_first_54 : decode cX8_first 54 = .ok (.ifCond .ne 5, 3) := by decide +kernel
theorem dX8_first_57 : decode cX8_first 57 = .ok (.iconst (-1), 1) := by decide +kernel
theorem dX8_first_58 : decode cX8_first 58 = .ok (.ireturn, 1) := by decide +kernel
theorem dX8_first_59 : decode cX8_first 59 = .ok (.iload_n 3, 1) := by decide +kernel
theorem dX8_first_60 : decode cX8_first 60 = .ok (.iconst (-1), 1) := by decide +kernel
theorem dX8_first_61 : decode cX8_first 61 = .ok (.if_icmp .ne 13, 3) := by decide +kernel
theorem dX8_first_64 : decode cX8_first 64 = .ok (.aload_n 0, 1) := by decide +kernel
theorem dX8_first_65 : decode cX8_first 65 = .ok (.getfield 42, 3) := by decide +kernel
theorem dX8_first_68 : decode cX8_first 68 = .ok (.getfield 145, 3) := by decide +kernel
theorem dX8_first_71 : decode cX8_first 71 = .ok (.goto 11, 3) := by decide +kernel
theorem dX8_first_74 : decode cX8_first 74 = .ok (.aload_n 0, 1) := by decide +kernel
theorem dX8_first_75 : decode cX8_first 75 = .ok (.getfield 42, 3) := by decide +kernel
theorem dX8_first_78 : decode cX8_first 78 = .ok (.iload_n 3, 1) := by decide +kernel
theorem dX8_first_79 : decode cX8_first 79 = .ok (.invokevirtual 148, 3) := by decide +kernel
theorem dX8_first_82 : decode cX8_first 82 = .ok (.ireturn, 1) := by decide +kernel
theorem dX8_paths_0 : decode cX8_paths 0 = .ok (.iload_n 1, 1) := by decide +kernel
theorem dX8_paths_1 : decode cX8_paths 1 = .ok (.iload_n 2, 1) := by decide +kernel
theorem dX8_paths_2 : decode cX8_paths 2 = .ok (.invokestatic 75, 3) := by decide +kernel
theorem dX8_paths_5 : decode cX8_paths 5 = .ok (.ifCond .eq 7, 3) := by decide +kernel
theorem dX8_paths_8 : decode cX8_paths 8 = .ok (.iload_n 3, 1) := by decide +kernel
theorem dX8_paths_9 : decode cX8_paths 9 = .ok (.ifCond .ge 6, 3) := by decide +kernel
theorem dX8_paths_12 : decode cX8_paths 12 = .ok (.bipush (-2), 2) := by decide +kernel
theorem dX8_paths_14 : decode cX8_paths 14 = .ok (.ireturn, 1) := by decide +kernel
theorem dX8_paths_15 : decode cX8_paths 15 = .ok (.aload_n 0, 1) := by decide +kernel
theorem dX8_paths_16 : decode cX8_paths 16 = .ok (.getfield 42, 3) := by decide +kernel
theorem dX8_paths_19 : decode cX8_paths 19 = .ok (.iload_n 1, 1) := by decide +kernel
theorem dX8_paths_20 : decode cX8_paths 20 = .ok (.iload_n 2, 1) := by decide +kernel
theorem dX8_paths_21 : decode cX8_paths 21 = .ok (.iload_n 3, 1) := by decide +kernel
theorem dX8_paths_22 : decode cX8_paths 22 = .ok (.invokevirtual 151, 3) := by decide +kernel
theorem dX8_paths_25 : decode cX8_paths 25 = .ok (.ireturn, 1) := by decide +kernel
theorem dX8_pathLength_0 : decode cX8_pathLength 0 = .ok (.iload_n 1, 1) := by decide +kernel
theorem dX8_pathLength_1 : decode cX8_pathLength 1 = .ok (.iload_n 2, 1) := by decide +kernel
theorem dX8_pathLength_2 : decode cX8_pathLength 2 = .ok (.invokestatic 75, 3) := by decide +kernel
theorem dX8_pathLength_5 : decode cX8_pathLength 5 = .ok (.ifCond .eq 13, 3) := by decide +kernel
theorem dX8_pathLength_8 : decode cX8_pathLength 8 = .ok (.iload_n 3, 1) := by decide +kernel
theorem dX8_pathLength_9 : decode cX8_pathLength 9 = .ok (.ifCond .lt 9, 3) := by decide +kernel
theorem dX8_pathLength_12 : decode cX8_pathLength 12 = .ok (.iload_n 3, 1) := by decide +kernel
theorem dX8_pathLength_13 : decode cX8_pathLength 13 = .ok (.bipush 100, 2) := by decide +kernel
theorem dX8_pathLength_15 : decode cX8_pathLength 15 = .ok (.if_icmp .lt 6, 3) := by decide +kernel
theorem dX8_pathLength_18 : decode cX8_pathLength 18 = .ok (.bipush (-2), 2) := by decide +kernel
theorem dX8_pathLength_20 : decode cX8_pathLength 20 = .ok (.ireturn, 1) := by decide +kernel
theorem dX8_pathLength_21 : decode cX8_pathLength 21 = .ok (.aload_n 0, 1) := by decide +kernel
theorem dX8_pathLength_22 : decode cX8_pathLength 22 = .ok (.getfield 42, 3) := by decide +kernel
theorem dX8_pathLength_25 : decode cX8_pathLength 25 = .ok (.iload_n 1, 1) := by decide +kernel
theorem dX8_pathLength_26 : decode cX8_pathLength 26 = .ok (.iload_n 2, 1) := by decide +kernel
theorem dX8_pathLength_27 : decode cX8_pathLength 27 = .ok (.iload_n 3, 1) := by decide +kernel
theorem dX8_pathLength_28 : decode cX8_pathLength 28 = .ok (.invokevirtual 155, 3) := by decide +kernel
theorem dX8_pathLength_31 : decode cX8_pathLength 31 = .ok (.ireturn, 1) := by decide +kernel
theorem dX8_tight_0 : decode cX8_tight 0 = .ok (.iload_n 1, 1) := by decide +kernel
theorem dX8_tight_1 : decode cX8_tight 1 = .ok (.iload_n 2, 1) := by decide +kernel
theorem dX8_tight_2 : decode cX8_tight 2 = .ok (.invokestatic 75, 3) := by decide +kernel
theorem dX8_tight_5 : decode cX8_tight 5 = .ok (.ifCond .ne 6, 3) := by decide +kernel
theorem dX8_tight_8 : decode cX8_tight 8 = .ok (.bipush (-2), 2) := by decide +kernel
theorem dX8_tight_10 : decode cX8_tight 10 = .ok (.ireturn, 1) := by decide +kernel
theorem dX8_tight_11 : decode cX8_tight 11 = .ok (.iload_n 1, 1) := by decide +kernel
theorem dX8_tight_12 : decode cX8_tight 12 = .ok (.iload_n 2, 1) := by decide +kernel
theorem dX8_tight_13 : decode cX8_tight 13 = .ok (.if_icmp .ne 7, 3) := by decide +kernel
theorem dX8_tight_16 : decode cX8_tight 16 = .ok (.iconst 0, 1) := by decide +kernel
theorem dX8_tight_17 : decode cX8_tight 17 = .ok (.goto 19, 3) := by decide +kernel
theorem dX8_tight_20 : decode cX8_tight 20 = .ok (.aload_n 0, 1) := by decide +kernel
theorem dX8_tight_21 : decode cX8_tight 21 = .ok (.getfield 35, 3) := by decide +kernel
theorem dX8_tight_24 : decode cX8_tight 24 = .ok (.iload_n 1, 1) := by decide +kernel
theorem dX8_tight_25 : decode cX8_tight 25 = .ok (.iload_n 2, 1) := by decide +kernel
theorem dX8_tight_26 : decode cX8_tight 26 = .ok (.aload_n 0, 1) := by decide +kernel
theorem dX8_tight_27 : decode cX8_tight 27 = .ok (.getfield 10, 3) := by decide +kernel
theorem dX8_tight_30 : decode cX8_tight 30 = .ok (.getfield 111, 3) := by decide +kernel
theorem dX8_tight_33 : decode cX8_tight 33 = .ok (.invokevirtual 158, 3) := by decide +kernel
theorem dX8_tight_36 : decode cX8_tight 36 = .ok (.ireturn, 1) := by decide +kernel
theorem dX8_interdict_0 : decode cX8_interdict 0 = .ok (.aload_n 0, 1) := by decide +kernel
theorem dX8_interdict_1 : decode cX8_interdict 1 = .ok (.iload_n 1, 1) := by decide +kernel
theorem dX8_interdict_2 : decode cX8_interdict 2 = .ok (.iload_n 2, 1) := by decide +kernel
theorem dX8_interdict_3 : decode cX8_interdict 3 = .ok (.iload_n 3, 1) := by decide +kernel
theorem dX8_interdict_4 : decode cX8_interdict 4 = .ok (.iconst 0, 1) := by decide +kernel
theorem dX8_interdict_5 : decode cX8_interdict 5 = .ok (.invokevirtual 161, 3) := by decide +kernel
theorem dX8_interdict_8 : decode cX8_interdict 8 = .ok (.ireturn, 1) := by decide +kernel
theorem dX8_greedy_0 : decode cX8_greedy 0 = .ok (.iload_n 1, 1) := by decide +kernel
theorem dX8_greedy_1 : decode cX8_greedy 1 = .ok (.iload_n 2, 1) := by decide +kernel
theorem dX8_greedy_2 : decode cX8_greedy 2 = .ok (.invokestatic 75, 3) := by decide +kernel
theorem dX8_greedy_5 : decode cX8_greedy 5 = .ok (.ifCond .eq 12, 3) := by decide +kernel
theorem dX8_greedy_8 : decode cX8_greedy 8 = .ok (.iload_n 3, 1) := by decide +kernel
theorem dX8_greedy_9 : decode cX8_greedy 9 = .ok (.bipush 20, 2) := by decide +kernel
theorem dX8_greedy_11 : decode cX8_greedy 11 = .ok (.invokestatic 164, 3) := by decide +kernel
theorem dX8_greedy_14 : decode cX8_greedy 14 = .ok (.ifCond .ne 6, 3) := by decide +kernel
theorem dX8_greedy_17 : decode cX8_greedy 17 = .ok (.bipush (-2), 2) := by decide +kernel
theorem dX8_greedy_19 : decode cX8_greedy 19 = .ok (.ireturn, 1) := by decide +kernel
theorem dX8_greedy_20 : decode cX8_greedy 20 = .ok (.aload_n 0, 1) := by decide +kernel
theorem dX8_greedy_21 : decode cX8_greedy 21 = .ok (.getfield 58, 3) := by decide +kernel
theorem dX8_greedy_24 : decode cX8_greedy 24 = .ok (.iload_n 1, 1) := by decide +kernel
theorem dX8_greedy_25 : decode cX8_greedy 25 = .ok (.iload_n 2, 1) := by decide +kernel
theorem dX8_greedy_26 : decode cX8_greedy 26 = .ok (.iload_n 3, 1) := by decide +kernel
theorem dX8_greedy_27 : decode cX8_greedy 27 = .ok (.invokevirtual 167, 3) := by decide +kernel
theorem dX8_greedy_30 : decode cX8_greedy 30 = .ok (.istore 4, 2) := by decide +kernel
theorem dX8_greedy_32 : decode cX8_greedy 32 = .ok (.aload_n 0, 1) := by decide +kernel
theorem dX8_greedy_33 : decode cX8_greedy 33 = .ok (.aload_n 0, 1) := by decide +kernel
theorem dX8_greedy_34 : decode cX8_greedy 34 = .ok (.getfield 58, 3) := by decide +kernel
theorem dX8_greedy_37 : decode cX8_greedy 37 = .ok (.getfield 170, 3) := by decide +kernel
theorem dX8_greedy_40 : decode cX8_greedy 40 = .ok (.putfield 71, 3) := by decide +kernel
theorem dX8_greedy_43 : decode cX8_greedy 43 = .ok (.iload 4, 2) := by decide +kernel
theorem dX8_greedy_45 : decode cX8_greedy 45 = .ok (.ireturn, 1) := by decide +kernel
theorem dX8_budgetFor_0 : decode cX8_budgetFor 0 = .ok (.iload_n 1, 1) := by decide +kernel
theorem dX8_budgetFor_1 : decode cX8_budgetFor 1 = .ok (.iload_n 2, 1) := by decide +kernel
theorem dX8_budgetFor_2 : decode cX8_budgetFor 2 = .ok (.invokestatic 75, 3) := by decide +kernel
theorem dX8_budgetFor_5 : decode cX8_budgetFor 5 = .ok (.ifCond .eq 13, 3) := by decide +kernel
theorem dX8_budgetFor_8 : decode cX8_budgetFor 8 = .ok (.iload_n 3, 1) := by decide +kernel
theorem dX8_budgetFor_9 : decode cX8_budgetFor 9 = .ok (.sipush 9999, 3) := by decide +kernel
theorem dX8_budgetFor_12 : decode cX8_budgetFor 12 = .ok (.invokestatic 164, 3) := by decide +kernel
theorem dX8_budgetFor_15 : decode cX8_budgetFor 15 = .ok (.ifCond .ne 6, 3) := by decide +kernel
theorem dX8_budgetFor_18 : decode cX8_budgetFor 18 = .ok (.bipush (-2), 2) := by decide +kernel
theorem dX8_budgetFor_20 : decode cX8_budgetFor 20 = .ok (.ireturn, 1) := by decide +kernel
theorem dX8_budgetFor_21 : decode cX8_budgetFor 21 = .ok (.aload_n 0, 1) := by decide +kernel
theorem dX8_budgetFor_22 : decode cX8_budgetFor 22 = .ok (.getfield 51, 3) := by decide +kernel
theorem dX8_budgetFor_25 : decode cX8_budgetFor 25 = .ok (.iload_n 1, 1) := by decide +kernel
theorem dX8_budgetFor_26 : decode cX8_budgetFor 26 = .ok (.iload_n 2, 1) := by decide +kernel
theorem dX8_budgetFor_27 : decode cX8_budgetFor 27 = .ok (.iconst 5, 1) := by decide +kernel
theorem dX8_budgetFor_28 : decode cX8_budgetFor 28 = .ok (.iconst 0, 1) := by decide +kernel
theorem dX8_budgetFor_29 : decode cX8_budgetFor 29 = .ok (.iload_n 3, 1) := by decide +kernel
theorem dX8_budgetFor_30 : decode cX8_budgetFor 30 = .ok (.iconst 0, 1) := by decide +kernel
theorem dX8_budgetFor_31 : decode cX8_budgetFor 31 = .ok (.invokevirtual 173, 3) := by decide +kernel
theorem dX8_budgetFor_34 : decode cX8_budgetFor 34 = .ok (.aload_n 0, 1) := by decide +kernel
theorem dX8_budgetFor_35 : decode cX8_budgetFor 35 = .ok (.getfield 51, 3) := by decide +kernel
theorem dX8_budgetFor_38 : decode cX8_budgetFor 38 = .ok (.getfield 177, 3) := by decide +kernel
theorem dX8_budgetFor_41 : decode cX8_budgetFor 41 = .ok (.iload_n 3, 1) := by decide +kernel
theorem dX8_budgetFor_42 : decode cX8_budgetFor 42 = .ok (.if_icmp .ge 5, 3) := by decide +kernel
theorem dX8_budgetFor_45 : decode cX8_budgetFor 45 = .ok (.iconst (-1), 1) := by decide +kernel
theorem dX8_budgetFor_46 : decode cX8_budgetFor 46 = .ok (.ireturn, 1) := by decide +kernel
theorem dX8_budgetFor_47 : decode cX8_budgetFor 47 = .ok (.aload_n 0, 1) := by decide +kernel
theorem dX8_budgetFor_48 : decode cX8_budgetFor 48 = .ok (.aload_n 0, 1) := by decide +kernel
theorem dX8_budgetFor_49 : decode cX8_budgetFor 49 = .ok (.getfield 51, 3) := by decide +kernel
theorem dX8_budgetFor_52 : decode cX8_budgetFor 52 = .ok (.getfield 180, 3) := by decide +kernel
theorem dX8_budgetFor_55 : decode cX8_budgetFor 55 = .ok (.putfield 71, 3) := by decide +kernel
theorem dX8_budgetFor_58 : decode cX8_budgetFor 58 = .ok (.aload_n 0, 1) := by decide +kernel
theorem dX8_budgetFor_59 : decode cX8_budgetFor 59 = .ok (.getfield 51, 3) := by decide +kernel
theorem dX8_budgetFor_62 : decode cX8_budgetFor 62 = .ok (.getfield 181, 3) := by decide +kernel
theorem dX8_budgetFor_65 : decode cX8_budgetFor 65 = .ok (.ireturn, 1) := by decide +kernel
