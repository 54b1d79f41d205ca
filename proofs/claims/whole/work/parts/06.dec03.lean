/-! decode rows -/
theorem dX8_blockade_0 : decode cX8_blockade 0 = .ok (.iload_n 1, 1) := by decide +kernel
theorem dX8_blockade_1 : decode cX8_blockade 1 = .ok (.iload_n 2, 1) := by decide +kernel
theorem dX8_blockade_2 : decode cX8_blockade 2 = .ok (.invokestatic 75, 3) := by decide +kernel
theorem dX8_blockade_5 : decode cX8_blockade 5 = .ok (.ifCond .ne 6, 3) := by decide +kernel
theorem dX8_blockade_8 : decode cX8_blockade 8 = .ok (.bipush (-2), 2) := by decide +kernel
theorem dX8_blockade_10 : decode cX8_blockade 10 = .ok (.ireturn, 1) := by decide +kernel
theorem dX8_blockade_11 : decode cX8_blockade 11 = .ok (.iconst (-1), 1) := by decide +kernel
theorem dX8_blockade_12 : decode cX8_blockade 12 = .ok (.istore_n 3, 1) := by decide +kernel
theorem dX8_blockade_13 : decode cX8_blockade 13 = .ok (.iconst 0, 1) := by decide +kernel
theorem dX8_blockade_14 : decode cX8_blockade 14 = .ok (.istore 4, 2) := by decide +kernel
theorem dX8_blockade_16 : decode cX8_blockade 16 = .ok (.iload 4, 2) := by decide +kernel
theorem dX8_blockade_18 : decode cX8_blockade 18 = .ok (.sipush 256, 3) := by decide +kernel
theorem dX8_blockade_21 : decode cX8_blockade 21 = .ok (.if_icmp .ge 58, 3) := by decide +kernel
theorem dX8_blockade_24 : decode cX8_blockade 24 = .ok (.iload 4, 2) := by decide +kernel
theorem dX8_blockade_26 : decode cX8_blockade 26 = .ok (.iload_n 1, 1) := by decide +kernel
theorem dX8_blockade_27 : decode cX8_blockade 27 = .ok (.ishr, 1) := by decide +kernel
theorem dX8_blockade_28 : decode cX8_blockade 28 = .ok (.iconst 1, 1) := by decide +kernel
theorem dX8_blockade_29 : decode cX8_blockade 29 = .ok (.iand, 1) := by decide +kernel
theorem dX8_blockade_30 : decode cX8_blockade 30 = .ok (.ifCond .eq 43, 3) := by decide +kernel
theorem dX8_blockade_33 : decode cX8_blockade 33 = .ok (.iload 4, 2) := by decide +kernel
theorem dX8_blockade_35 : decode cX8_blockade 35 = .ok (.iload_n 2, 1) := by decide +kernel
theorem dX8_blockade_36 : decode cX8_blockade 36 = .ok (.ishr, 1) := by decide +kernel
theorem dX8_blockade_37 : decode cX8_blockade 37 = .ok (.iconst 1, 1) := by decide +kernel
theorem dX8_blockade_38 : decode cX8_blockade 38 = .ok (.iand, 1) := by decide +kernel
theorem dX8_blockade_39 : decode cX8_blockade 39 = .ok (.ifCond .ne 34, 3) := by decide +kernel
theorem dX8_blockade_42 : decode cX8_blockade 42 = .ok (.aload_n 0, 1) := by decide +kernel
theorem dX8_blockade_43 : decode cX8_blockade 43 = .ok (.getfield 10, 3) := by decide +kernel
theorem dX8_blockade_46 : decode cX8_blockade 46 = .ok (.iload 4, 2) := by decide +kernel
theorem dX8_blockade_48 : decode cX8_blockade 48 = .ok (.invokevirtual 184, 3) := by decide +kernel
theorem dX8_blockade_51 : decode cX8_blockade 51 = .ok (.istore 5, 2) := by decide +kernel
theorem dX8_blockade_53 : decode cX8_blockade 53 = .ok (.iload 5, 2) := by decide +kernel
theorem dX8_blockade_55 : decode cX8_blockade 55 = .ok (.iconst (-1), 1) := by decide +kernel
theorem dX8_blockade_56 : decode cX8_blockade 56 = .ok (.if_icmp .eq 17, 3) := by decide +kernel
theorem dX8_blockade_59 : decode cX8_blockade 59 = .ok (.iload_n 3, 1) := by decide +kernel
theorem dX8_blockade_60 : decode cX8_blockade 60 = .ok (.iconst (-1), 1) := by decide +kernel
theorem dX8_blockade_61 : decode cX8_blockade 61 = .ok (.if_icmp .eq 9, 3) := by decide +kernel
theorem dX8_blockade_64 : decode cX8_blockade 64 = .ok (.iload 5, 2) := by decide +kernel
theorem dX8_blockade_66 : decode cX8_blockade 66 = .ok (.iload_n 3, 1) := by decide +kernel
theorem dX8_blockade_67 : decode cX8_blockade 67 = .ok (.if_icmp .ge 6, 3) := by decide +kernel
theorem dX8_blockade_70 : decode cX8_blockade 70 = .ok (.iload 5, 2) := by decide +kernel
theorem dX8_blockade_72 : decode cX8_blockade 72 = .ok (.istore_n 3, 1) := by decide +kernel
theorem dX8_blockade_73 : decode cX8_blockade 73 = .ok (.iinc 4 1, 3) := by decide +kernel
theorem dX8_blockade_76 : decode cX8_blockade 76 = .ok (.goto (-60), 3) := by decide +kernel
theorem dX8_blockade_79 : decode cX8_blockade 79 = .ok (.iload_n 3, 1) := by decide +kernel
theorem dX8_blockade_80 : decode cX8_blockade 80 = .ok (.ireturn, 1) := by decide +kernel
theorem dX8_respond_0 : decode cX8_respond 0 = .ok (.iload_n 1, 1) := by decide +kernel
theorem dX8_respond_1 : decode cX8_respond 1 = .ok (.iload_n 2, 1) := by decide +kernel
theorem dX8_respond_2 : decode cX8_respond 2 = .ok (.invokestatic 75, 3) := by decide +kernel
theorem dX8_respond_5 : decode cX8_respond 5 = .ok (.ifCond .eq 23, 3) := by decide +kernel
theorem dX8_respond_8 : decode cX8_respond 8 = .ok (.aload_n 0, 1) := by decide +kernel
theorem dX8_respond_9 : decode cX8_respond 9 = .ok (.getfield 10, 3) := by decide +kernel
theorem dX8_respond_12 : decode cX8_respond 12 = .ok (.iload_n 3, 1) := by decide +kernel
theorem dX8_respond_13 : decode cX8_respond 13 = .ok (.invokevirtual 134, 3) := by decide +kernel
theorem dX8_respond_16 : decode cX8_respond 16 = .ok (.ifCond .eq 12, 3) := by decide +kernel
theorem dX8_respond_19 : decode cX8_respond 19 = .ok (.iload 4, 2) := by decide +kernel
theorem dX8_respond_21 : decode cX8_respond 21 = .ok (.iconst 3, 1) := by decide +kernel
theorem dX8_respond_22 : decode cX8_respond 22 = .ok (.invokestatic 164, 3) := by decide +kernel
theorem dX8_respond_25 : decode cX8_respond 25 = .ok (.ifCond .ne 6, 3) := by decide +kernel
theorem dX8_respond_28 : decode cX8_respond 28 = .ok (.bipush (-2), 2) := by decide +kernel
theorem dX8_respond_30 : decode cX8_respond 30 = .ok (.ireturn, 1) := by decide +kernel
theorem dX8_respond_31 : decode cX8_respond 31 = .ok (.aload_n 0, 1) := by decide +kernel
theorem dX8_respond_32 : decode cX8_respond 32 = .ok (.getfield 35, 3) := by decide +kernel
theorem dX8_respond_35 : decode cX8_respond 35 = .ok (.iload_n 1, 1) := by decide +kernel
theorem dX8_respond_36 : decode cX8_respond 36 = .ok (.iload_n 2, 1) := by decide +kernel
theorem dX8_respond_37 : decode cX8_respond 37 = .ok (.iload_n 3, 1) := by decide +kernel
theorem dX8_respond_38 : decode cX8_respond 38 = .ok (.iload 4, 2) := by decide +kernel
theorem dX8_respond_40 : decode cX8_respond 40 = .ok (.invokevirtual 137, 3) := by decide +kernel
theorem dX8_respond_43 : decode cX8_respond 43 = .ok (.ireturn, 1) := by decide +kernel
theorem dX8_interdictResponse_0 : decode cX8_interdictResponse 0 = .ok (.iload_n 1, 1) := by decide +kernel
theorem dX8_interdictResponse_1 : decode cX8_interdictResponse 1 = .ok (.iload_n 2, 1) := by decide +kernel
theorem dX8_interdictResponse_2 : decode cX8_interdictResponse 2 = .ok (.invokestatic 75, 3) := by decide +kernel
theorem dX8_interdictResponse_5 : decode cX8_interdictResponse 5 = .ok (.ifCond .eq 20, 3) := by decide +kernel
theorem dX8_interdictResponse_8 : decode cX8_interdictResponse 8 = .ok (.iload_n 3, 1) := by decide +kernel
theorem dX8_interdictResponse_9 : decode cX8_interdictResponse 9 = .ok (.iconst 5, 1) := by decide +kernel
theorem dX8_interdictResponse_10 : decode cX8_interdictResponse 10 = .ok (.invokestatic 164, 3) := by decide +kernel
theorem dX8_interdictResponse_13 : decode cX8_interdictResponse 13 = .ok (.ifCond .eq 12, 3) := by decide +kernel
theorem dX8_interdictResponse_16 : decode cX8_interdictResponse 16 = .ok (.iload 4, 2) := by decide +kernel
theorem dX8_interdictResponse_18 : decode cX8_interdictResponse 18 = .ok (.iconst 3, 1) := by decide +kernel
theorem dX8_interdictResponse_19 : decode cX8_interdictResponse 19 = .ok (.invokestatic 164, 3) := by decide +kernel
theorem dX8_interdictResponse_22 : decode cX8_interdictResponse 22 = .ok (.ifCond .ne 6, 3) := by decide +kernel
theorem dX8_interdictResponse_25 : decode cX8_interdictResponse 25 = .ok (.bipush (-2), 2) := by decide +kernel
theorem dX8_interdictResponse_27 : decode cX8_interdictResponse 27 = .ok (.ireturn, 1) := by decide +kernel
theorem dX8_interdictResponse_28 : decode cX8_interdictResponse 28 = .ok (.aload_n 0, 1) := by decide +kernel
theorem dX8_interdictResponse_29 : decode cX8_interdictResponse 29 = .ok (.getfield 51, 3) := by decide +kernel
theorem dX8_interdictResponse_32 : decode cX8_interdictResponse 32 = .ok (.iload_n 1, 1) := by decide +kernel
theorem dX8_interdictResponse_33 : decode cX8_interdictResponse 33 = .ok (.iload_n 2, 1) := by decide +kernel
theorem dX8_interdictResponse_34 : decode cX8_interdictResponse 34 = .ok (.iload_n 3, 1) := by decide +kernel
theorem dX8_interdictResponse_35 : decode cX8_interdictResponse 35 = .ok (.iload 4, 2) := by decide +kernel
theorem dX8_interdictResponse_37 : decode cX8_interdictResponse 37 = .ok (.sipush 9999, 3) := by decide +kernel
theorem dX8_interdictResponse_40 : decode cX8_interdictResponse 40 = .ok (.iconst 0, 1) := by decide +kernel
theorem dX8_interdictResponse_41 : decode cX8_interdictResponse 41 = .ok (.invokevirtual 173, 3) := by decide +kernel
theorem dX8_interdictResponse_44 : decode cX8_interdictResponse 44 = .ok (.aload_n 0, 1) := by decide +kernel
theorem dX8_interdictResponse_45 : decode cX8_interdictResponse 45 = .ok (.aload_n 0, 1) := by decide +kernel
theorem dX8_interdictResponse_46 : decode cX8_interdictResponse 46 = .ok (.getfield 51, 3) := by decide +kernel
theorem dX8_interdictResponse_49 : decode cX8_interdictResponse 49 = .ok (.getfield 180, 3) := by decide +kernel
theorem dX8_interdictResponse_52 : decode cX8_interdictResponse 52 = .ok (.putfield 71, 3) := by decide +kernel
theorem dX8_interdictResponse_55 : decode cX8_interdictResponse 55 = .ok (.aload_n 0, 1) := by decide +kernel
theorem dX8_interdictResponse_56 : decode cX8_interdictResponse 56 = .ok (.getfield 51, 3) := by decide +kernel
theorem dX8_interdictResponse_59 : decode cX8_interdictResponse 59 = .ok (.getfield 177, 3) := by decide +kernel
theorem dX8_interdictResponse_62 : decode cX8_interdictResponse 62 = .ok (.ireturn, 1) := by decide +kernel
theorem dX8_fortify_0 : decode cX8_fortify 0 = .ok (.iload_n 1, 1) := by decide +kernel
theorem dX8_fortify_1 : decode cX8_fortify 1 = .ok (.iload_n 2, 1) := by decide +kernel
theorem dX8_fortify_2 : decode cX8_fortify 2 = .ok (.invokestatic 75, 3) := by decide +kernel
theorem dX8_fortify_5 : decode cX8_fortify 5 = .ok (.ifCond .eq 20, 3) := by decide +kernel
theorem dX8_fortify_8 : decode cX8_fortify 8 = .ok (.iload_n 3, 1) := by decide +kernel
theorem dX8_fortify_9 : decode cX8_fortify 9 = .ok (.iconst 3, 1) := by decide +kernel
theorem dX8_fortify_10 : decode cX8_fortify 10 = .ok (.invokestatic 164, 3) := by decide +kernel
theorem dX8_fortify_13 : decode cX8_fortify 13 = .ok (.ifCond .eq 12, 3) := by decide +kernel
theorem dX8_fortify_16 : decode cX8_fortify 16 = .ok (.iload 4, 2) := by decide +kernel
theorem dX8_fortify_18 : decode cX8_fortify 18 = .ok (.iconst 2, 1) := by decide +kernel
theorem dX8_fortify_19 : decode cX8_fortify 19 = .ok (.invokestatic 164, 3) := by decide +kernel
theorem dX8_fortify_22 : decode cX8_fortify 22 = .ok (.ifCond .ne 6, 3) := by decide +kernel
theorem dX8_fortify_25 : decode cX8_fortify 25 = .ok (.bipush (-2), 2) := by decide +kernel
theorem dX8_fortify_27 : decode cX8_fortify 27 = .ok (.ireturn, 1) := by decide +kernel
theorem dX8_fortify_28 : decode cX8_fortify 28 = .ok (.aload_n 0, 1) := by decide +kernel
theorem dX8_fortify_29 : decode cX8_fortify 29 = .ok (.getfield 67, 3) := by decide +kernel
theorem dX8_fortify_32 : decode cX8_fortify 32 = .ok (.iload_n 1, 1) := by decide +kernel
theorem dX8_fortify_33 : decode cX8_fortify 33 = .ok (.iload_n 2, 1) := by decide +kernel
theorem dX8_fortify_34 : decode cX8_fortify 34 = .ok (.iload_n 3, 1) := by decide +kernel
theorem dX8_fortify_35 : decode cX8_fortify 35 = .ok (.iload 4, 2) := by decide +kernel
theorem dX8_fortify_37 : decode cX8_fortify 37 = .ok (.invokevirtual 187, 3) := by decide +kernel
theorem dX8_fortify_40 : decode cX8_fortify 40 = .ok (.istore 5, 2) := by decide +kernel
theorem dX8_fortify_42 : decode cX8_fortify 42 = .ok (.aload_n 0, 1) := by decide +kernel
theorem dX8_fortify_43 : decode cX8_fortify 43 = .ok (.aload_n 0, 1) := by decide +kernel
theorem dX8_fortify_44 : decode cX8_fortify 44 = .ok (.getfield 67, 3) := by decide +kernel
theorem dX8_fortify_47 : decode cX8_fortify 47 = .ok (.getfield 189, 3) := by decide +kernel
theorem dX8_fortify_50 : decode cX8_fortify 50 = .ok (.putfield 71, 3) := by decide +kernel
theorem dX8_fortify_53 : decode cX8_fortify 53 = .ok (.iload 5, 2) := by decide +kernel
theorem dX8_fortify_55 : decode cX8_fortify 55 = .ok (.ireturn, 1) := by decide +kernel
theorem dX8_finding_0 : decode cX8_finding 0 = .ok (.aload_n 0, 1) := by decide +kernel
theorem dX8_finding_1 : decode cX8_finding 1 = .ok (.getfield 71, 3) := by decide +kernel
theorem dX8_finding_4 : decode cX8_finding 4 = .ok (.ireturn, 1) := by decide +kernel
theorem dX8_worth_0 : decode cX8_worth 0 = .ok (.iload_n 1, 1) := by decide +kernel
theorem dX8_worth_1 : decode cX8_worth 1 = .ok (.iload_n 2, 1) := by decide +kernel
theorem dX8_worth_2 : decode cX8_worth 2 = .ok (.invokestatic 75, 3) := by decide +kernel
theorem dX8_worth_5 : decode cX8_worth 5 = .ok (.ifCond .eq 14, 3) := by decide +kernel
theorem dX8_worth_8 : decode cX8_worth 8 = .ok (.aload_n 0, 1) := by decide +kernel
theorem dX8_worth_9 : decode cX8_worth 9 = .ok (.getfield 10, 3) := by decide +kernel
theorem dX8_worth_12 : decode cX8_worth 12 = .ok (.iload_n 3, 1) := by decide +kernel
theorem dX8_worth_13 : decode cX8_worth 13 = .ok (.invokevirtual 96, 3) := by decide +kernel
theorem dX8_worth_16 : decode cX8_worth 16 = .ok (.ifCond .ne 6, 3) := by decide +kernel
theorem dX8_worth_19 : decode cX8_worth 19 = .ok (.bipush (-2), 2) := by decide +kernel
theorem dX8_worth_21 : decode cX8_worth 21 = .ok (.ireturn, 1) := by decide +kernel
theorem dX8_worth_22 : decode cX8_worth 22 = .ok (.aload_n 0, 1) := by decide +kernel
theorem dX8_worth_23 : decode cX8_worth 23 = .ok (.getfield 10, 3) := by decide +kernel
theorem dX8_worth_26 : decode cX8_worth 26 = .ok (.getfield 111, 3) := by decide +kernel
theorem dX8_worth_29 : decode cX8_worth 29 = .ok (.iconst 1, 1) := by decide +kernel
theorem dX8_worth_30 : decode cX8_worth 30 = .ok (.iload_n 3, 1) := by decide +kernel
theorem dX8_worth_31 : decode cX8_worth 31 = .ok (.ishl, 1) := by decide +kernel
theorem dX8_worth_32 : decode cX8_worth 32 = .ok (.ior, 1) := by decide +kernel
theorem dX8_worth_33 : decode cX8_worth 33 = .ok (.istore 4, 2) := by decide +kernel
theorem dX8_worth_35 : decode cX8_worth 35 = .ok (.aload_n 0, 1) := by decide +kernel
theorem dX8_worth_36 : decode cX8_worth 36 = .ok (.getfield 10, 3) := by decide +kernel
theorem dX8_worth_39 : decode cX8_worth 39 = .ok (.getfield 111, 3) := by decide +kernel
theorem dX8_worth_42 : decode cX8_worth 42 = .ok (.iconst 1, 1) := by decide +kernel
theorem dX8_worth_43 : decode cX8_worth 43 = .ok (.iload_n 3, 1) := by decide +kernel
theorem dX8_worth_44 : decode cX8_worth 44 = .ok (.ishl, 1) := by decide +kernel
theorem dX8_worth_45 : decode cX8_worth 45 = .ok (.iconst (-1), 1) := by decide +kernel
theorem dX8_worth_46 : decode cX8_worth 46 = .ok (.ixor, 1) := by decide +kernel
theorem dX8_worth_47 : decode cX8_worth 47 = .ok (.iand, 1) := by decide +kernel
theorem dX8_worth_48 : decode cX8_worth 48 = .ok (.istore 5, 2) := by decide +kernel
theorem dX8_worth_50 : decode cX8_worth 50 = .ok (.aload_n 0, 1) := by decide +kernel
theorem dX8_worth_51 : decode cX8_worth 51 = .ok (.getfield 35, 3) := by decide +kernel
theorem dX8_worth_54 : decode cX8_worth 54 = .ok (.iload_n 1, 1) := by decide +kernel
theorem dX8_worth_55 : decode cX8_worth 55 = .ok (.iload_n 2, 1) := by decide +kernel
theorem dX8_worth_56 : decode cX8_worth 56 = .ok (.iload 4, 2) := by decide +kernel
theorem dX8_worth_58 : decode cX8_worth 58 = .ok (.iconst 0, 1) := by decide +kernel
theorem dX8_worth_59 : decode cX8_worth 59 = .ok (.invokevirtual 137, 3) := by decide +kernel
theorem dX8_worth_62 : decode cX8_worth 62 = .ok (.aload_n 0, 1) := by decide +kernel
theorem dX8_worth_63 : decode cX8_worth 63 = .ok (.getfield 35, 3) := by decide +kernel
theorem dX8_worth_66 : decode cX8_worth 66 = .ok (.iload_n 1, 1) := by decide +kernel
theorem dX8_worth_67 : decode cX8_worth 67 = .ok (.iload_n 2, 1) := by decide +kernel
theorem dX8_worth_68 : decode cX8_worth 68 = .ok (.iload 5, 2) := by decide +kernel
theorem dX8_worth_70 : decode cX8_worth 70 = .ok (.iconst 0, 1) := by decide +kernel
theorem dX8_worth_71 : decode cX8_worth 71 = .ok (.invokevirtual 137, 3) := by decide +kernel
theorem dX8_worth_74 : decode cX8_worth 74 = .ok (.isub, 1) := by decide +kernel
theorem dX8_worth_75 : decode cX8_worth 75 = .ok (.ireturn, 1) := by decide +kernel
theorem dX8_neverHelps_0 : decode cX8_neverHelps 0 = .ok (.iload_n 1, 1) := by decide +kernel
theorem dX8_neverHelps_1 : decode cX8_neverHelps 1 = .ok (.iload_n 2, 1) := by decide +kernel
theorem dX8_neverHelps_2 : decode cX8_neverHelps 2 = .ok (.invokestatic 75, 3) := by decide +kernel
theorem dX8_neverHelps_5 : decode cX8_neverHelps 5 = .ok (.ifCond .eq 11, 3) := by decide +kernel
theorem dX8_neverHelps_8 : decode cX8_neverHelps 8 = .ok (.iload_n 3, 1) := by decide +kernel
theorem dX8_neverHelps_9 : decode cX8_neverHelps 9 = .ok (.iconst 5, 1) := by decide +kernel
theorem dX8_neverHelps_10 : decode cX8_neverHelps 10 = .ok (.invokestatic 164, 3) := by decide +kernel
theorem dX8_neverHelps_13 : decode cX8_neverHelps 13 = .ok (.ifCond .ne 6, 3) := by decide +kernel
theorem dX8_neverHelps_16 : decode cX8_neverHelps 16 = .ok (.bipush (-2), 2) := by decide +kernel
theorem dX8_neverHelps_18 : decode cX8_neverHelps 18 = .ok (.ireturn, 1) := by decide +kernel
theorem dX8_neverHelps_19 : decode cX8_neverHelps 19 = .ok (.aload_n 0, 1) := by decide +kernel
theorem dX8_neverHelps_20 : decode cX8_neverHelps 20 = .ok (.getfield 51, 3) := by decide +kernel
theorem dX8_neverHelps_23 : decode cX8_neverHelps 23 = .ok (.iload_n 1, 1) := by decide +kernel
theorem dX8_neverHelps_24 : decode cX8_neverHelps 24 = .ok (.iload_n 2, 1) := by decide +kernel
theorem dX8_neverHelps_25 : decode cX8_neverHelps 25 = .ok (.iload_n 3, 1) := by decide +kernel
theorem dX8_neverHelps_26 : decode cX8_neverHelps 26 = .ok (.invokevirtual 190, 3) := by decide +kernel
theorem dX8_neverHelps_29 : decode cX8_neverHelps 29 = .ok (.aload_n 0, 1) := by decide +kernel
theorem dX8_neverHelps_30 : decode cX8_neverHelps 30 = .ok (.getfield 10, 3) := by decide +kernel
theorem dX8_neverHelps_33 : decode cX8_neverHelps 33 = .ok (.invokevirtual 193, 3) := by decide +kernel
theorem dX8_neverHelps_36 : decode cX8_neverHelps 36 = .ok (.aload_n 0, 1) := by decide +kernel
theorem dX8_neverHelps_37 : decode cX8_neverHelps 37 = .ok (.getfield 51, 3) := by decide +kernel
theorem dX8_neverHelps_40 : decode cX8_neverHelps 40 = .ok (.getfield 196, 3) := by decide +kernel
theorem dX8_neverHelps_43 : decode cX8_neverHelps 43 = .ok (.iconst (-1), 1) := by decide +kernel
theorem dX8_neverHelps_44 : decode cX8_neverHelps 44 = .ok (.ixor, 1) := by decide +kernel
theorem dX8_neverHelps_45 : decode cX8_neverHelps 45 = .ok (.iand, 1) := by decide +kernel
theorem dX8_neverHelps_46 : decode cX8_neverHelps 46 = .ok (.ireturn, 1) := by decide +kernel
theorem dX8_expected_0 : decode cX8_expected 0 = .ok (.aload_n 0, 1) := by decide +kernel
theorem dX8_expected_1 : decode cX8_expected 1 = .ok (.iload_n 1, 1) := by decide +kernel
theorem dX8_expected_2 : decode cX8_expected 2 = .ok (.iload_n 2, 1) := by decide +kernel
theorem dX8_expected_3 : decode cX8_expected 3 = .ok (.iload_n 3, 1) := by decide +kernel
theorem dX8_expected_4 : decode cX8_expected 4 = .ok (.iload 4, 2) := by decide +kernel
theorem dX8_expected_6 : decode cX8_expected 6 = .ok (.invokevirtual 199, 3) := by decide +kernel
theorem dX8_expected_9 : decode cX8_expected 9 = .ok (.ifCond .ne 7, 3) := by decide +kernel
theorem dX8_expected_12 : decode cX8_expected 12 = .ok (.ldc2_w 203, 3) := by decide +kernel
theorem dX8_expected_15 : decode cX8_expected 15 = .ok (.lreturn, 1) := by decide +kernel
theorem dX8_expected_16 : decode cX8_expected 16 = .ok (.aload_n 0, 1) := by decide +kernel
theorem dX8_expected_17 : decode cX8_expected 17 = .ok (.iload_n 1, 1) := by decide +kernel
theorem dX8_expected_18 : decode cX8_expected 18 = .ok (.iload_n 2, 1) := by decide +kernel
theorem dX8_expected_19 : decode cX8_expected 19 = .ok (.iload_n 3, 1) := by decide +kernel
theorem dX8_expected_20 : decode cX8_expected 20 = .ok (.iload 4, 2) := by decide +kernel
theorem dX8_expected_22 : decode cX8_expected 22 = .ok (.iconst 0, 1) := by decide +kernel
theorem dX8_expected_23 : decode cX8_expected 23 = .ok (.invokevirtual 205, 3) := by decide +kernel
theorem dX8_expected_26 : decode cX8_expected 26 = .ok (.lreturn, 1) := by decide +kernel
theorem dX8_lost_0 : decode cX8_lost 0 = .ok (.aload_n 0, 1) := by decide +kernel
theorem dX8_lost_1 : decode cX8_lost 1 = .ok (.iload_n 1, 1) := by decide +kernel
theorem dX8_lost_2 : decode cX8_lost 2 = .ok (.iload_n 2, 1) := by decide +kernel
theorem dX8_lost_3 : decode cX8_lost 3 = .ok (.iload_n 3, 1) := by decide +kernel
theorem dX8_lost_4 : decode cX8_lost 4 = .ok (.iload 4, 2) := by decide +kernel
theorem dX8_lost_6 : decode cX8_lost 6 = .ok (.invokevirtual 199, 3) := by decide +kernel
theorem dX8_lost_9 : decode cX8_lost 9 = .ok (.ifCond .ne 7, 3) := by decide +kernel
theorem dX8_lost_12 : decode cX8_lost 12 = .ok (.ldc2_w 203, 3) := by decide +kernel
theorem dX8_lost_15 : decode cX8_lost 15 = .ok (.lreturn, 1) := by decide +kernel
theorem dX8_lost_16 : decode cX8_lost 16 = .ok (.aload_n 0, 1) := by decide +kernel
theorem dX8_lost_17 : decode cX8_lost 17 = .ok (.iload_n 1, 1) := by decide +kernel
theorem dX8_lost_18 : decode cX8_lost 18 = .ok (.iload_n 2, 1) := by decide +kernel
theorem dX8_lost_19 : decode cX8_lost 19 = .ok (.iload_n 3, 1) := by decide +kernel
theorem dX8_lost_20 : decode cX8_lost 20 = .ok (.iload 4, 2) := by decide +kernel
theorem dX8_lost_22 : decode cX8_lost 22 = .ok (.iconst 1, 1) := by decide +kernel
theorem dX8_lost_23 : decode cX8_lost 23 = .ok (.invokevirtual 205, 3) := by decide +kernel
theorem dX8_lost_26 : decode cX8_lost 26 = .ok (.lreturn, 1) := by decide +kernel
theorem dX8_undo_0 : decode cX8_undo 0 = .ok (.aload_n 0, 1) := by decide +kernel
theorem dX8_undo_1 : decode cX8_undo 1 = .ok (.getfield 19, 3) := by decide +kernel
theorem dX8_undo_4 : decode cX8_undo 4 = .ok (.aload_n 0, 1) := by decide +kernel
theorem dX8_undo_5 : decode cX8_undo 5 = .ok (.getfield 10, 3) := by decide +kernel
theorem dX8_undo_8 : decode cX8_undo 8 = .ok (.invokevirtual 209, 3) := by decide +kernel
theorem dX8_undo_11 : decode cX8_undo 11 = .ok (.ifCond .eq 13, 3) := by decide +kernel
theorem dX8_undo_14 : decode cX8_undo 14 = .ok (.aload_n 0, 1) := by decide +kernel
theorem dX8_undo_15 : decode cX8_undo 15 = .ok (.getfield 19, 3) := by decide +kernel
theorem dX8_undo_18 : decode cX8_undo 18 = .ok (.getfield 213, 3) := by decide +kernel
theorem dX8_undo_21 : decode cX8_undo 21 = .ok (.goto 5, 3) := by decide +kernel
theorem dX8_undo_24 : decode cX8_undo 24 = .ok (.bipush (-3), 2) := by decide +kernel
theorem dX8_undo_26 : decode cX8_undo 26 = .ok (.ireturn, 1) := by decide +kernel
theorem dX8_count_0 : decode cX8_count 0 = .ok (.iload_n 1, 1) := by decide +kernel
theorem dX8_count_1 : decode cX8_count 1 = .ok (.tableswitch 116 0 6 #[43, 51, 62, 77, 85, 93, 101], 43) := by decide +kernel
theorem dX8_count_44 : decode cX8_count 44 = .ok (.aload_n 0, 1) := by decide +kernel
theorem dX8_count_45 : decode cX8_count 45 = .ok (.getfield 10, 3) := by decide +kernel
theorem dX8_count_48 : decode cX8_count 48 = .ok (.getfield 82, 3) := by decide +kernel
theorem dX8_count_51 : decode cX8_count 51 = .ok (.ireturn, 1) := by decide +kernel
theorem dX8_count_52 : decode cX8_count 52 = .ok (.aload_n 0, 1) := by decide +kernel
theorem dX8_count_53 : decode cX8_count 53 = .ok (.getfield 10, 3) := by decide +kernel
theorem dX8_count_56 : decode cX8_count 56 = .ok (.getfield 111, 3) := by decide +kernel
theorem dX8_count_59 : decode cX8_count 59 = .ok (.invokestatic 216, 3) := by decide +kernel
theorem dX8_count_62 : decode cX8_count 62 = .ok (.ireturn, 1) := by decide +kernel
theorem dX8_count_63 : decode cX8_count 63 = .ok (.aload_n 0, 1) := by decide +kernel
theorem dX8_count_64 : decode cX8_count 64 = .ok (.getfield 10, 3) := by decide +kernel
theorem dX8_count_67 : decode cX8_count 67 = .ok (.aload_n 0, 1) := by decide +kernel
theorem dX8_count_68 : decode cX8_count 68 = .ok (.getfield 10, 3) := by decide +kernel
theorem dX8_count_71 : decode cX8_count 71 = .ok (.getfield 111, 3) := by decide +kernel
theorem dX8_count_74 : decode cX8_count 74 = .ok (.invokevirtual 131, 3) := by decide +kernel
theorem dX8_count_77 : decode cX8_count 77 = .ok (.ireturn, 1) := by decide +kernel
theorem dX8_count_78 : decode cX8_count 78 = .ok (.aload_n 0, 1) := by decide +kernel
theorem dX8_count_79 : decode cX8_count 79 = .ok (.getfield 19, 3) := by decide +kernel
theorem dX8_count_82 : decode cX8_count 82 = .ok (.getfield 213, 3) := by decide +kernel
theorem dX8_count_85 : decode cX8_count 85 = .ok (.ireturn, 1) := by decide +kernel
theorem dX8_count_86 : decode cX8_count 86 = .ok (.aload_n 0, 1) := by decide +kernel
theorem dX8_count_87 : decode cX8_count 87 = .ok (.getfield 26, 3) := by decide +kernel
theorem dX8_count_90 : decode cX8_count 90 = .ok (.getfield 119, 3) := by decide +kernel
theorem dX8_count_93 : decode cX8_count 93 = .ok (.ireturn, 1) := by decide +kernel
theorem dX8_count_94 : decode cX8_count 94 = .ok (.aload_n 0, 1) := by decide +kernel
theorem dX8_count_95 : decode cX8_count 95 = .ok (.getfield 10, 3) := by decide +kernel
theorem dX8_count_98 : decode cX8_count 98 = .ok (.invokevirtual 221, 3) := by decide +kernel
theorem dX8_count_101 : decode cX8_count 101 = .ok (.ireturn, 1) := by decide +kernel
theorem dX8_count_102 : decode cX8_count 102 = .ok (.aload_n 0, 1) := by decide +kernel
theorem dX8_count_103 : decode cX8_count 103 = .ok (.getfield 35, 3) := by decide +kernel
theorem dX8_count_106 : decode cX8_count 106 = .ok (.aload_n 0, 1) := by decide +kernel
theorem dX8_count_107 : decode cX8_count 107 = .ok (.getfield 10, 3) := by decide +kernel
theorem dX8_count_110 : decode cX8_count 110 = .ok (.getfield 111, 3) := by decide +kernel
theorem dX8_count_113 : decode cX8_count 113 = .ok (.invokevirtual 224, 3) := by decide +kernel
theorem dX8_count_116 : decode cX8_count 116 = .ok (.ireturn, 1) := by decide +kernel
theorem dX8_count_117 : decode cX8_count 117 = .ok (.bipush (-2), 2) := by decide +kernel
theorem dX8_count_119 : decode cX8_count 119 = .ok (.ireturn, 1) := by decide +kernel
theorem dX8_digest_0 : decode cX8_digest 0 = .ok (.ldc2_w 227, 3) := by decide +kernel
theorem dX8_digest_3 : decode cX8_digest 3 = .ok (.lstore_n 1, 1) := by decide +kernel
theorem dX8_digest_4 : decode cX8_digest 4 = .ok (.iconst 0, 1) := by decide +kernel
theorem dX8_digest_5 : decode cX8_digest 5 = .ok (.istore_n 3, 1) := by decide +kernel
theorem dX8_digest_6 : decode cX8_digest 6 = .ok (.iload_n 3, 1) := by decide +kernel
theorem dX8_digest_7 : decode cX8_digest 7 = .ok (.bipush 7, 2) := by decide +kernel
theorem dX8_digest_9 : decode cX8_digest 9 = .ok (.if_icmp .ge 22, 3) := by decide +kernel
theorem dX8_digest_12 : decode cX8_digest 12 = .ok (.ldc2_w 229, 3) := by decide +kernel
theorem dX8_digest_15 : decode cX8_digest 15 = .ok (.lload_n 1, 1) := by decide +kernel
theorem dX8_digest_16 : decode cX8_digest 16 = .ok (.lmul, 1) := by decide +kernel
theorem dX8_digest_17 : decode cX8_digest 17 = .ok (.aload_n 0, 1) := by decide +kernel
theorem dX8_digest_18 : decode cX8_digest 18 = .ok (.iload_n 3, 1) := by decide +kernel
theorem dX8_digest_19 : decode cX8_digest 19 = .ok (.invokevirtual 231, 3) := by decide +kernel
theorem dX8_digest_22 : decode cX8_digest 22 = .ok (.i2l, 1) := by decide +kernel
theorem dX8_digest_23 : decode cX8_digest 23 = .ok (.ladd, 1) := by decide +kernel
theorem dX8_digest_24 : decode cX8_digest 24 = .ok (.lstore_n 1, 1) := by decide +kernel
theorem dX8_digest_25 : decode cX8_digest 25 = .ok (.iinc 3 1, 3) := by decide +kernel
theorem dX8_digest_28 : decode cX8_digest 28 = .ok (.goto (-22), 3) := by decide +kernel
theorem dX8_digest_31 : decode cX8_digest 31 = .ok (.iconst 0, 1) := by decide +kernel
theorem dX8_digest_32 : decode cX8_digest 32 = .ok (.istore_n 3, 1) := by decide +kernel
theorem dX8_digest_33 : decode cX8_digest 33 = .ok (.iload_n 3, 1) := by decide +kernel
theorem dX8_digest_34 : decode cX8_digest 34 = .ok (.aload_n 0, 1) := by decide +kernel
theorem dX8_digest_35 : decode cX8_digest 35 = .ok (.getfield 10, 3) := by decide +kernel
theorem dX8_digest_38 : decode cX8_digest 38 = .ok (.getfield 82, 3) := by decide +kernel
theorem dX8_digest_41 : decode cX8_digest 41 = .ok (.if_icmp .ge 39, 3) := by decide +kernel
theorem dX8_digest_44 : decode cX8_digest 44 = .ok (.iconst 0, 1) := by decide +kernel
theorem dX8_digest_45 : decode cX8_digest 45 = .ok (.istore 4, 2) := by decide +kernel
theorem dX8_digest_47 : decode cX8_digest 47 = .ok (.iload 4, 2) := by decide +kernel
theorem dX8_digest_49 : decode cX8_digest 49 = .ok (.iconst 5, 1) := by decide +kernel
theorem dX8_digest_50 : decode cX8_digest 50 = .ok (.if_icmp .gt 24, 3) := by decide +kernel
theorem dX8_digest_53 : decode cX8_digest 53 = .ok (.ldc2_w 229, 3) := by decide +kernel
theorem dX8_digest_56 : decode cX8_digest 56 = .ok (.lload_n 1, 1) := by decide +kernel
theorem dX8_digest_57 : decode cX8_digest 57 = .ok (.lmul, 1) := by decide +kernel
theorem dX8_digest_58 : decode cX8_digest 58 = .ok (.aload_n 0, 1) := by decide +kernel
theorem dX8_digest_59 : decode cX8_digest 59 = .ok (.iload_n 3, 1) := by decide +kernel
theorem dX8_digest_60 : decode cX8_digest 60 = .ok (.iload 4, 2) := by decide +kernel
theorem dX8_digest_62 : decode cX8_digest 62 = .ok (.invokevirtual 234, 3) := by decide +kernel
theorem dX8_digest_65 : decode cX8_digest 65 = .ok (.i2l, 1) := by decide +kernel
theorem dX8_digest_66 : decode cX8_digest 66 = .ok (.ladd, 1) := by decide +kernel
theorem dX8_digest_67 : decode cX8_digest 67 = .ok (.lstore_n 1, 1) := by decide +kernel
theorem dX8_digest_68 : decode cX8_digest 68 = .ok (.iinc 4 1, 3) := by decide +kernel
theorem dX8_digest_71 : decode cX8_digest 71 = .ok (.goto (-24), 3) := by decide +kernel
theorem dX8_digest_74 : decode cX8_digest 74 = .ok (.iinc 3 1, 3) := by decide +kernel
theorem dX8_digest_77 : decode cX8_digest 77 = .ok (.goto (-44), 3) := by decide +kernel
theorem dX8_digest_80 : decode cX8_digest 80 = .ok (.iconst 0, 1) := by decide +kernel
theorem dX8_digest_81 : decode cX8_digest 81 = .ok (.istore_n 3, 1) := by decide +kernel
theorem dX8_digest_82 : decode cX8_digest 82 = .ok (.iload_n 3, 1) := by decide +kernel
theorem dX8_digest_83 : decode cX8_digest 83 = .ok (.bipush 8, 2) := by decide +kernel
theorem dX8_digest_85 : decode cX8_digest 85 = .ok (.if_icmp .ge 58, 3) := by decide +kernel
theorem dX8_digest_88 : decode cX8_digest 88 = .ok (.aload_n 0, 1) := by decide +kernel
theorem dX8_digest_89 : decode cX8_digest 89 = .ok (.getfield 35, 3) := by decide +kernel
theorem dX8_digest_92 : decode cX8_digest 92 = .ok (.iload_n 3, 1) := by decide +kernel
theorem dX8_digest_93 : decode cX8_digest 93 = .ok (.aload_n 0, 1) := by decide +kernel
theorem dX8_digest_94 : decode cX8_digest 94 = .ok (.getfield 10, 3) := by decide +kernel
theorem dX8_digest_97 : decode cX8_digest 97 = .ok (.getfield 111, 3) := by decide +kernel
theorem dX8_digest_100 : decode cX8_digest 100 = .ok (.iconst 0, 1) := by decide +kernel
theorem dX8_digest_101 : decode cX8_digest 101 = .ok (.invokevirtual 237, 3) := by decide +kernel
theorem dX8_digest_104 : decode cX8_digest 104 = .ok (.iconst 0, 1) := by decide +kernel
theorem dX8_digest_105 : decode cX8_digest 105 = .ok (.istore 4, 2) := by decide +kernel
theorem dX8_digest_107 : decode cX8_digest 107 = .ok (.iload 4, 2) := by decide +kernel
theorem dX8_digest_109 : decode cX8_digest 109 = .ok (.bipush 8, 2) := by decide +kernel
theorem dX8_digest_111 : decode cX8_digest 111 = .ok (.if_icmp .ge 26, 3) := by decide +kernel
theorem dX8_digest_114 : decode cX8_digest 114 = .ok (.ldc2_w 229, 3) := by decide +kernel
theorem dX8_digest_117 : decode cX8_digest 117 = .ok (.lload_n 1, 1) := by decide +kernel
theorem dX8_digest_118 : decode cX8_digest 118 = .ok (.lmul, 1) := by decide +kernel
theorem dX8_digest_119 : decode cX8_digest 119 = .ok (.aload_n 0, 1) := by decide +kernel
theorem dX8_digest_120 : decode cX8_digest 120 = .ok (.getfield 35, 3) := by decide +kernel
theorem dX8_digest_123 : decode cX8_digest 123 = .ok (.iload 4, 2) := by decide +kernel
theorem dX8_digest_125 : decode cX8_digest 125 = .ok (.invokevirtual 240, 3) := by decide +kernel
theorem dX8_digest_128 : decode cX8_digest 128 = .ok (.i2l, 1) := by decide +kernel
theorem dX8_digest_129 : decode cX8_digest 129 = .ok (.ladd, 1) := by decide +kernel
theorem dX8_digest_130 : decode cX8_digest 130 = .ok (.lstore_n 1, 1) := by decide +kernel
theorem dX8_digest_131 : decode cX8_digest 131 = .ok (.iinc 4 1, 3) := by decide +kernel
theorem dX8_digest_134 : decode cX8_digest 134 = .ok (.goto (-27), 3) := by decide +kernel
theorem dX8_digest_137 : decode cX8_digest 137 = .ok (.iinc 3 1, 3) := by decide +kernel
theorem dX8_digest_140 : decode cX8_digest 140 = .ok (.goto (-58), 3) := by decide +kernel
theorem dX8_digest_143 : decode cX8_digest 143 = .ok (.ldc2_w 229, 3) := by decide +kernel
theorem dX8_digest_146 : decode cX8_digest 146 = .ok (.lload_n 1, 1) := by decide +kernel
theorem dX8_digest_147 : decode cX8_digest 147 = .ok (.lmul, 1) := by decide +kernel
theorem dX8_digest_148 : decode cX8_digest 148 = .ok (.aload_n 0, 1) := by decide +kernel
theorem dX8_digest_149 : decode cX8_digest 149 = .ok (.getfield 71, 3) := by decide +kernel
theorem dX8_digest_152 : decode cX8_digest 152 = .ok (.i2l, 1) := by decide +kernel
theorem dX8_digest_153 : decode cX8_digest 153 = .ok (.ladd, 1) := by decide +kernel
theorem dX8_digest_154 : decode cX8_digest 154 = .ok (.lstore_n 1, 1) := by decide +kernel
theorem dX8_digest_155 : decode cX8_digest 155 = .ok (.iconst 0, 1) := by decide +kernel
theorem dX8_digest_156 : decode cX8_digest 156 = .ok (.istore_n 3, 1) := by decide +kernel
theorem dX8_digest_157 : decode cX8_digest 157 = .ok (.iload_n 3, 1) := by decide +kernel
theorem dX8_digest_158 : decode cX8_digest 158 = .ok (.aload_n 0, 1) := by decide +kernel
theorem dX8_digest_159 : decode cX8_digest 159 = .ok (.getfield 26, 3) := by decide +kernel
theorem dX8_digest_162 : decode cX8_digest 162 = .ok (.getfield 119, 3) := by decide +kernel
theorem dX8_digest_165 : decode cX8_digest 165 = .ok (.if_icmp .ge 25, 3) := by decide +kernel
theorem dX8_digest_168 : decode cX8_digest 168 = .ok (.ldc2_w 229, 3) := by decide +kernel
theorem dX8_digest_171 : decode cX8_digest 171 = .ok (.lload_n 1, 1) := by decide +kernel
theorem dX8_digest_172 : decode cX8_digest 172 = .ok (.lmul, 1) := by decide +kernel
theorem dX8_digest_173 : decode cX8_digest 173 = .ok (.aload_n 0, 1) := by decide +kernel
theorem dX8_digest_174 : decode cX8_digest 174 = .ok (.getfield 26, 3) := by decide +kernel
theorem dX8_digest_177 : decode cX8_digest 177 = .ok (.iload_n 3, 1) := by decide +kernel
theorem dX8_digest_178 : decode cX8_digest 178 = .ok (.invokevirtual 243, 3) := by decide +kernel
theorem dX8_digest_181 : decode cX8_digest 181 = .ok (.i2l, 1) := by decide +kernel
theorem dX8_digest_182 : decode cX8_digest 182 = .ok (.ladd, 1) := by decide +kernel
theorem dX8_digest_183 : decode cX8_digest 183 = .ok (.lstore_n 1, 1) := by decide +kernel
theorem dX8_digest_184 : decode cX8_digest 184 = .ok (.iinc 3 1, 3) := by decide +kernel
theorem dX8_digest_187 : decode cX8_digest 187 = .ok (.goto (-30), 3) := by decide +kernel
theorem dX8_digest_190 : decode cX8_digest 190 = .ok (.lload_n 1, 1) := by decide +kernel
theorem dX8_digest_191 : decode cX8_digest 191 = .ok (.lreturn, 1) := by decide +kernel
theorem dX8_areNodes_0 : decode cX8_areNodes 0 = .ok (.iload_n 0, 1) := by decide +kernel
theorem dX8_areNodes_1 : decode cX8_areNodes 1 = .ok (.bipush 7, 2) := by decide +kernel
theorem dX8_areNodes_3 : decode cX8_areNodes 3 = .ok (.invokestatic 164, 3) := by decide +kernel
theorem dX8_areNodes_6 : decode cX8_areNodes 6 = .ok (.ifCond .eq 16, 3) := by decide +kernel
theorem dX8_areNodes_9 : decode cX8_areNodes 9 = .ok (.iload_n 1, 1) := by decide +kernel
theorem dX8_areNodes_10 : decode cX8_areNodes 10 = .ok (.bipush 7, 2) := by decide +kernel
theorem dX8_areNodes_12 : decode cX8_areNodes 12 = .ok (.invokestatic 164, 3) := by decide +kernel
theorem dX8_areNodes_15 : decode cX8_areNodes 15 = .ok (.ifCond .eq 7, 3) := by decide +kernel
theorem dX8_areNodes_18 : decode cX8_areNodes 18 = .ok (.iconst 1, 1) := by decide +kernel
theorem dX8_areNodes_19 : decode cX8_areNodes 19 = .ok (.goto 4, 3) := by decide +kernel
theorem dX8_areNodes_22 : decode cX8_areNodes 22 = .ok (.iconst 0, 1) := by decide +kernel
theorem dX8_areNodes_23 : decode cX8_areNodes 23 = .ok (.ireturn, 1) := by decide +kernel
theorem dX8_isWithin_0 : decode cX8_isWithin 0 = .ok (.iload_n 0, 1) := by decide +kernel
theorem dX8_isWithin_1 : decode cX8_isWithin 1 = .ok (.ifCond .lt 12, 3) := by decide +kernel
theorem dX8_isWithin_4 : decode cX8_isWithin 4 = .ok (.iload_n 0, 1) := by decide +kernel
theorem dX8_isWithin_5 : decode cX8_isWithin 5 = .ok (.iload_n 1, 1) := by decide +kernel
theorem dX8_isWithin_6 : decode cX8_isWithin 6 = .ok (.if_icmp .gt 7, 3) := by decide +kernel
theorem dX8_isWithin_9 : decode cX8_isWithin 9 = .ok (.iconst 1, 1) := by decide +kernel
theorem dX8_isWithin_10 : decode cX8_isWithin 10 = .ok (.goto 4, 3) := by decide +kernel
theorem dX8_isWithin_13 : decode cX8_isWithin 13 = .ok (.iconst 0, 1) := by decide +kernel
theorem dX8_isWithin_14 : decode cX8_isWithin 14 = .ok (.ireturn, 1) := by decide +kernel
theorem dX8_isChance_0 : decode cX8_isChance 0 = .ok (.iload_n 1, 1) := by decide +kernel
theorem dX8_isChance_1 : decode cX8_isChance 1 = .ok (.iload_n 2, 1) := by decide +kernel
theorem dX8_isChance_2 : decode cX8_isChance 2 = .ok (.invokestatic 75, 3) := by decide +kernel
theorem dX8_isChance_5 : decode cX8_isChance 5 = .ok (.ifCond .eq 37, 3) := by decide +kernel
theorem dX8_isChance_8 : decode cX8_isChance 8 = .ok (.aload_n 0, 1) := by decide +kernel
theorem dX8_isChance_9 : decode cX8_isChance 9 = .ok (.getfield 10, 3) := by decide +kernel
theorem dX8_isChance_12 : decode cX8_isChance 12 = .ok (.iload_n 3, 1) := by decide +kernel
theorem dX8_isChance_13 : decode cX8_isChance 13 = .ok (.invokevirtual 134, 3) := by decide +kernel
theorem dX8_isChance_16 : decode cX8_isChance 16 = .ok (.ifCond .eq 26, 3) := by decide +kernel
theorem dX8_isChance_19 : decode cX8_isChance 19 = .ok (.iload_n 3, 1) := by decide +kernel
theorem dX8_isChance_20 : decode cX8_isChance 20 = .ok (.invokestatic 216, 3) := by decide +kernel
theorem dX8_isChance_23 : decode cX8_isChance 23 = .ok (.bipush 6, 2) := by decide +kernel
theorem dX8_isChance_25 : decode cX8_isChance 25 = .ok (.if_icmp .gt 17, 3) := by decide +kernel
theorem dX8_isChance_28 : decode cX8_isChance 28 = .ok (.iload 4, 2) := by decide +kernel
theorem dX8_isChance_30 : decode cX8_isChance 30 = .ok (.bipush 12, 2) := by decide +kernel
theorem dX8_isChance_32 : decode cX8_isChance 32 = .ok (.invokestatic 164, 3) := by decide +kernel
theorem dX8_isChance_35 : decode cX8_isChance 35 = .ok (.ifCond .eq 7, 3) := by decide +kernel
theorem dX8_isChance_38 : decode cX8_isChance 38 = .ok (.iconst 1, 1) := by decide +kernel
theorem dX8_isChance_39 : decode cX8_isChance 39 = .ok (.goto 4, 3) := by decide +kernel
theorem dX8_isChance_42 : decode cX8_isChance 42 = .ok (.iconst 0, 1) := by decide +kernel
theorem dX8_isChance_43 : decode cX8_isChance 43 = .ok (.ireturn, 1) := by decide +kernel
theorem dX8_sumOfSubsets_0 : decode cX8_sumOfSubsets 0 = .ok (.iload_n 3, 1) := by decide +kernel
theorem dX8_sumOfSubsets_1 : decode cX8_sumOfSubsets 1 = .ok (.invokestatic 216, 3) := by decide +kernel
theorem dX8_sumOfSubsets_4 : decode cX8_sumOfSubsets 4 = .ok (.istore 6, 2) := by decide +kernel
theorem dX8_sumOfSubsets_6 : decode cX8_sumOfSubsets 6 = .ok (.lconst 0, 1) := by decide +kernel
theorem dX8_sumOfSubsets_7 : decode cX8_sumOfSubsets 7 = .ok (.lstore 7, 2) := by decide +kernel
theorem dX8_sumOfSubsets_9 : decode cX8_sumOfSubsets 9 = .ok (.iload_n 3, 1) := by decide +kernel
theorem dX8_sumOfSubsets_10 : decode cX8_sumOfSubsets 10 = .ok (.istore 9, 2) := by decide +kernel
theorem dX8_sumOfSubsets_12 : decode cX8_sumOfSubsets 12 = .ok (.iconst 0, 1) := by decide +kernel
theorem dX8_sumOfSubsets_13 : decode cX8_sumOfSubsets 13 = .ok (.istore 10, 2) := by decide +kernel
theorem dX8_sumOfSubsets_15 : decode cX8_sumOfSubsets 15 = .ok (.iload 10, 2) := by decide +kernel
theorem dX8_sumOfSubsets_17 : decode cX8_sumOfSubsets 17 = .ok (.iconst 1, 1) := by decide +kernel
theorem dX8_sumOfSubsets_18 : decode cX8_sumOfSubsets 18 = .ok (.iload 6, 2) := by decide +kernel
theorem dX8_sumOfSubsets_20 : decode cX8_sumOfSubsets 20 = .ok (.ishl, 1) := by decide +kernel
theorem dX8_sumOfSubsets_21 : decode cX8_sumOfSubsets 21 = .ok (.if_icmp .ge 102, 3) := by decide +kernel
theorem dX8_sumOfSubsets_24 : decode cX8_sumOfSubsets 24 = .ok (.aload_n 0, 1) := by decide +kernel
theorem dX8_sumOfSubsets_25 : decode cX8_sumOfSubsets 25 = .ok (.getfield 35, 3) := by decide +kernel
theorem dX8_sumOfSubsets_28 : decode cX8_sumOfSubsets 28 = .ok (.iload_n 1, 1) := by decide +kernel
theorem dX8_sumOfSubsets_29 : decode cX8_sumOfSubsets 29 = .ok (.iload_n 2, 1) := by decide +kernel
theorem dX8_sumOfSubsets_30 : decode cX8_sumOfSubsets 30 = .ok (.iload 9, 2) := by decide +kernel
theorem dX8_sumOfSubsets_32 : decode cX8_sumOfSubsets 32 = .ok (.iconst 0, 1) := by decide +kernel
theorem dX8_sumOfSubsets_33 : decode cX8_sumOfSubsets 33 = .ok (.invokevirtual 137, 3) := by decide +kernel
theorem dX8_sumOfSubsets_36 : decode cX8_sumOfSubsets 36 = .ok (.istore 11, 2) := by decide +kernel
theorem dX8_sumOfSubsets_38 : decode cX8_sumOfSubsets 38 = .ok (.iload 5, 2) := by decide +kernel
theorem dX8_sumOfSubsets_40 : decode cX8_sumOfSubsets 40 = .ok (.iload 11, 2) := by decide +kernel
theorem dX8_sumOfSubsets_42 : decode cX8_sumOfSubsets 42 = .ok (.sipush 9999, 3) := by decide +kernel
theorem dX8_sumOfSubsets_45 : decode cX8_sumOfSubsets 45 = .ok (.if_icmp .ne 7, 3) := by decide +kernel
theorem dX8_sumOfSubsets_48 : decode cX8_sumOfSubsets 48 = .ok (.iconst 1, 1) := by decide +kernel
theorem dX8_sumOfSubsets_49 : decode cX8_sumOfSubsets 49 = .ok (.goto 4, 3) := by decide +kernel
theorem dX8_sumOfSubsets_52 : decode cX8_sumOfSubsets 52 = .ok (.iconst 0, 1) := by decide +kernel
theorem dX8_sumOfSubsets_53 : decode cX8_sumOfSubsets 53 = .ok (.if_icmp .ne 56, 3) := by decide +kernel
theorem dX8_sumOfSubsets_56 : decode cX8_sumOfSubsets 56 = .ok (.iload 9, 2) := by decide +kernel
theorem dX8_sumOfSubsets_58 : decode cX8_sumOfSubsets 58 = .ok (.invokestatic 216, 3) := by decide +kernel
theorem dX8_sumOfSubsets_61 : decode cX8_sumOfSubsets 61 = .ok (.istore 12, 2) := by decide +kernel
theorem dX8_sumOfSubsets_63 : decode cX8_sumOfSubsets 63 = .ok (.iload 4, 2) := by decide +kernel
theorem dX8_sumOfSubsets_65 : decode cX8_sumOfSubsets 65 = .ok (.i2l, 1) := by decide +kernel
theorem dX8_sumOfSubsets_66 : decode cX8_sumOfSubsets 66 = .ok (.iload 12, 2) := by decide +kernel
theorem dX8_sumOfSubsets_68 : decode cX8_sumOfSubsets 68 = .ok (.invokestatic 246, 3) := by decide +kernel
theorem dX8_sumOfSubsets_71 : decode cX8_sumOfSubsets 71 = .ok (.bipush 12, 2) := by decide +kernel
theorem dX8_sumOfSubsets_73 : decode cX8_sumOfSubsets 73 = .ok (.iload 4, 2) := by decide +kernel
theorem dX8_sumOfSubsets_75 : decode cX8_sumOfSubsets 75 = .ok (.isub, 1) := by decide +kernel
theorem dX8_sumOfSubsets_76 : decode cX8_sumOfSubsets 76 = .ok (.i2l, 1) := by decide +kernel
theorem dX8_sumOfSubsets_77 : decode cX8_sumOfSubsets 77 = .ok (.iload 6, 2) := by decide +kernel
theorem dX8_sumOfSubsets_79 : decode cX8_sumOfSubsets 79 = .ok (.iload 12, 2) := by decide +kernel
theorem dX8_sumOfSubsets_81 : decode cX8_sumOfSubsets 81 = .ok (.isub, 1) := by decide +kernel
theorem dX8_sumOfSubsets_82 : decode cX8_sumOfSubsets 82 = .ok (.invokestatic 246, 3) := by decide +kernel
theorem dX8_sumOfSubsets_85 : decode cX8_sumOfSubsets 85 = .ok (.lmul, 1) := by decide +kernel
theorem dX8_sumOfSubsets_86 : decode cX8_sumOfSubsets 86 = .ok (.lstore 13, 2) := by decide +kernel
theorem dX8_sumOfSubsets_88 : decode cX8_sumOfSubsets 88 = .ok (.lload 7, 2) := by decide +kernel
theorem dX8_sumOfSubsets_90 : decode cX8_sumOfSubsets 90 = .ok (.iload 5, 2) := by decide +kernel
theorem dX8_sumOfSubsets_92 : decode cX8_sumOfSubsets 92 = .ok (.ifCond .eq 8, 3) := by decide +kernel
theorem dX8_sumOfSubsets_95 : decode cX8_sumOfSubsets 95 = .ok (.lload 13, 2) := by decide +kernel
theorem dX8_sumOfSubsets_97 : decode cX8_sumOfSubsets 97 = .ok (.goto 9, 3) := by decide +kernel
theorem dX8_sumOfSubsets_100 : decode cX8_sumOfSubsets 100 = .ok (.lload 13, 2) := by decide +kernel
theorem dX8_sumOfSubsets_102 : decode cX8_sumOfSubsets 102 = .ok (.iload 11, 2) := by decide +kernel
theorem dX8_sumOfSubsets_104 : decode cX8_sumOfSubsets 104 = .ok (.i2l, 1) := by decide +kernel
theorem dX8_sumOfSubsets_105 : decode cX8_sumOfSubsets 105 = .ok (.lmul, 1) := by decide +kernel
theorem dX8_sumOfSubsets_106 : decode cX8_sumOfSubsets 106 = .ok (.ladd, 1) := by decide +kernel
theorem dX8_sumOfSubsets_107 : decode cX8_sumOfSubsets 107 = .ok (.lstore 7, 2) := by decide +kernel
theorem dX8_sumOfSubsets_109 : decode cX8_sumOfSubsets 109 = .ok (.iload 9, 2) := by decide +kernel
theorem dX8_sumOfSubsets_111 : decode cX8_sumOfSubsets 111 = .ok (.iconst 1, 1) := by decide +kernel
theorem dX8_sumOfSubsets_112 : decode cX8_sumOfSubsets 112 = .ok (.isub, 1) := by decide +kernel
theorem dX8_sumOfSubsets_113 : decode cX8_sumOfSubsets 113 = .ok (.iload_n 3, 1) := by decide +kernel
theorem dX8_sumOfSubsets_114 : decode cX8_sumOfSubsets 114 = .ok (.iand, 1) := by decide +kernel
theorem dX8_sumOfSubsets_115 : decode cX8_sumOfSubsets 115 = .ok (.istore 9, 2) := by decide +kernel
theorem dX8_sumOfSubsets_117 : decode cX8_sumOfSubsets 117 = .ok (.iinc 10 1, 3) := by decide +kernel
theorem dX8_sumOfSubsets_120 : decode cX8_sumOfSubsets 120 = .ok (.goto (-105), 3) := by decide +kernel
theorem dX8_sumOfSubsets_123 : decode cX8_sumOfSubsets 123 = .ok (.lload 7, 2) := by decide +kernel
theorem dX8_sumOfSubsets_125 : decode cX8_sumOfSubsets 125 = .ok (.lreturn, 1) := by decide +kernel
theorem dX8_power_0 : decode cX8_power 0 = .ok (.lconst 1, 1) := by decide +kernel
theorem dX8_power_1 : decode cX8_power 1 = .ok (.lstore_n 3, 1) := by decide +kernel
theorem dX8_power_2 : decode cX8_power 2 = .ok (.iconst 0, 1) := by decide +kernel
theorem dX8_power_3 : decode cX8_power 3 = .ok (.istore 5, 2) := by decide +kernel
theorem dX8_power_5 : decode cX8_power 5 = .ok (.iload 5, 2) := by decide +kernel
theorem dX8_power_7 : decode cX8_power 7 = .ok (.iload_n 2, 1) := by decide +kernel
theorem dX8_power_8 : decode cX8_power 8 = .ok (.if_icmp .ge 13, 3) := by decide +kernel
theorem dX8_power_11 : decode cX8_power 11 = .ok (.lload_n 3, 1) := by decide +kernel
theorem dX8_power_12 : decode cX8_power 12 = .ok (.lload_n 0, 1) := by decide +kernel
theorem dX8_power_13 : decode cX8_power 13 = .ok (.lmul, 1) := by decide +kernel
theorem dX8_power_14 : decode cX8_power 14 = .ok (.lstore_n 3, 1) := by decide +kernel
theorem dX8_power_15 : decode cX8_power 15 = .ok (.iinc 5 1, 3) := by decide +kernel
theorem dX8_power_18 : decode cX8_power 18 = .ok (.goto (-13), 3) := by decide +kernel
theorem dX8_power_21 : decode cX8_power 21 = .ok (.lload_n 3, 1) := by decide +kernel
theorem dX8_power_22 : decode cX8_power 22 = .ok (.lreturn, 1) := by decide +kernel
theorem dX9_init_0 : decode cX9_init 0 = .ok (.aload_n 0, 1) := by decide +kernel
theorem dX9_init_1 : decode cX9_init 1 = .ok (.invokespecial 1, 3) := by decide +kernel
theorem dX9_init_4 : decode cX9_init 4 = .ok (.aload_n 0, 1) := by decide +kernel
theorem dX9_init_5 : decode cX9_init 5 = .ok (.bipush 82, 2) := by decide +kernel
theorem dX9_init_7 : decode cX9_init 7 = .ok (.newarray .int, 2) := by decide +kernel
theorem dX9_init_9 : decode cX9_init 9 = .ok (.putfield 7, 3) := by decide +kernel
theorem dX9_init_12 : decode cX9_init 12 = .ok (.aload_n 0, 1) := by decide +kernel
theorem dX9_init_13 : decode cX9_init 13 = .ok (.sipush 984, 3) := by decide +kernel
theorem dX9_init_16 : decode cX9_init 16 = .ok (.newarray .int, 2) := by decide +kernel
theorem dX9_init_18 : decode cX9_init 18 = .ok (.putfield 13, 3) := by decide +kernel
theorem dX9_init_21 : decode cX9_init 21 = .ok (.aload_n 0, 1) := by decide +kernel
theorem dX9_init_22 : decode cX9_init 22 = .ok (.iconst (-1), 1) := by decide +kernel
theorem dX9_init_23 : decode cX9_init 23 = .ok (.putfield 16, 3) := by decide +kernel
theorem dX9_init_26 : decode cX9_init 26 = .ok (.aload_n 0, 1) := by decide +kernel
theorem dX9_init_27 : decode cX9_init 27 = .ok (.bipush 110, 2) := by decide +kernel
theorem dX9_init_29 : decode cX9_init 29 = .ok (.newarray .int, 2) := by decide +kernel
theorem dX9_init_31 : decode cX9_init 31 = .ok (.putfield 20, 3) := by decide +kernel
theorem dX9_init_34 : decode cX9_init 34 = .ok (.aload_n 0, 1) := by decide +kernel
theorem dX9_init_35 : decode cX9_init 35 = .ok (.bipush 80, 2) := by decide +kernel
theorem dX9_init_37 : decode cX9_init 37 = .ok (.newarray .int, 2) := by decide +kernel
theorem dX9_init_39 : decode cX9_init 39 = .ok (.putfield 23, 3) := by decide +kernel
theorem dX9_init_42 : decode cX9_init 42 = .ok (.aload_n 0, 1) := by decide +kernel
theorem dX9_init_43 : decode cX9_init 43 = .ok (.bipush 32, 2) := by decide +kernel
theorem dX9_init_45 : decode cX9_init 45 = .ok (.newarray .int, 2) := by decide +kernel
theorem dX9_init_47 : decode cX9_init 47 = .ok (.putfield 26, 3) := by decide +kernel
theorem dX9_init_50 : decode cX9_init 50 = .ok (.aload_n 0, 1) := by decide +kernel
theorem dX9_init_51 : decode cX9_init 51 = .ok (.bipush 8, 2) := by decide +kernel
theorem dX9_init_53 : decode cX9_init 53 = .ok (.newarray .int, 2) := by decide +kernel
theorem dX9_init_55 : decode cX9_init 55 = .ok (.putfield 29, 3) := by decide +kernel
theorem dX9_init_58 : decode cX9_init 58 = .ok (.aload_n 0, 1) := by decide +kernel
theorem dX9_init_59 : decode cX9_init 59 = .ok (.bipush 100, 2) := by decide +kernel
theorem dX9_init_61 : decode cX9_init 61 = .ok (.newarray .int, 2) := by decide +kernel
theorem dX9_init_63 : decode cX9_init 63 = .ok (.putfield 32, 3) := by decide +kernel
theorem dX9_init_66 : decode cX9_init 66 = .ok (.aload_n 0, 1) := by decide +kernel
theorem dX9_init_67 : decode cX9_init 67 = .ok (.bipush 8, 2) := by decide +kernel
theorem dX9_init_69 : decode cX9_init 69 = .ok (.newarray .int, 2) := by decide +kernel
theorem dX9_init_71 : decode cX9_init 71 = .ok (.putfield 35, 3) := by decide +kernel
theorem dX9_init_74 : decode cX9_init 74 = .ok (.return_, 1) := by decide +kernel
theorem dX9_in_0 : decode cX9_in 0 = .ok (.iload_n 0, 1) := by decide +kernel
theorem dX9_in_1 : decode cX9_in 1 = .ok (.iload_n 1, 1) := by decide +kernel
theorem dX9_in_2 : decode cX9_in 2 = .ok (.if_icmp .lt 12, 3) := by decide +kernel
theorem dX9_in_5 : decode cX9_in 5 = .ok (.iload_n 0, 1) := by decide +kernel
theorem dX9_in_6 : decode cX9_in 6 = .ok (.iload_n 2, 1) := by decide +kernel
theorem dX9_in_7 : decode cX9_in 7 = .ok (.if_icmp .gt 7, 3) := by decide +kernel
theorem dX9_in_10 : decode cX9_in 10 = .ok (.iconst 1, 1) := by decide +kernel
theorem dX9_in_11 : decode cX9_in 11 = .ok (.goto 4, 3) := by decide +kernel
theorem dX9_in_14 : decode cX9_in 14 = .ok (.iconst 0, 1) := by decide +kernel
theorem dX9_in_15 : decode cX9_in 15 = .ok (.ireturn, 1) := by decide +kernel
theorem dX9_areNodes_0 : decode cX9_areNodes 0 = .ok (.iload_n 0, 1) := by decide +kernel
theorem dX9_areNodes_1 : decode cX9_areNodes 1 = .ok (.iconst 0, 1) := by decide +kernel
theorem dX9_areNodes_2 : decode cX9_areNodes 2 = .ok (.bipush 7, 2) := by decide +kernel
theorem dX9_areNodes_4 : decode cX9_areNodes 4 = .ok (.invokestatic 38, 3) := by decide +kernel
theorem dX9_areNodes_7 : decode cX9_areNodes 7 = .ok (.ifCond .eq 17, 3) := by decide +kernel
theorem dX9_areNodes_10 : decode cX9_areNodes 10 = .ok (.iload_n 1, 1) := by decide +kernel
theorem dX9_areNodes_11 : decode cX9_areNodes 11 = .ok (.iconst 0, 1) := by decide +kernel
theorem dX9_areNodes_12 : decode cX9_areNodes 12 = .ok (.bipush 7, 2) := by decide +kernel
theorem dX9_areNodes_14 : decode cX9_areNodes 14 = .ok (.invokestatic 38, 3) := by decide +kernel
theorem dX9_areNodes_17 : decode cX9_areNodes 17 = .ok (.ifCond .eq 7, 3) := by decide +kernel
theorem dX9_areNodes_20 : decode cX9_areNodes 20 = .ok (.iconst 1, 1) := by decide +kernel
theorem dX9_areNodes_21 : decode cX9_areNodes 21 = .ok (.goto 4, 3) := by decide +kernel
theorem dX9_areNodes_24 : decode cX9_areNodes 24 = .ok (.iconst 0, 1) := by decide +kernel
theorem dX9_areNodes_25 : decode cX9_areNodes 25 = .ok (.ireturn, 1) := by decide +kernel
theorem dX9_of_0 : decode cX9_of 0 = .ok (.aload_n 0, 1) := by decide +kernel
theorem dX9_of_1 : decode cX9_of 1 = .ok (.getfield 7, 3) := by decide +kernel
theorem dX9_of_4 : decode cX9_of 4 = .ok (.iconst 5, 1) := by decide +kernel
theorem dX9_of_5 : decode cX9_of 5 = .ok (.iload_n 1, 1) := by decide +kernel
theorem dX9_of_6 : decode cX9_of 6 = .ok (.imul, 1) := by decide +kernel
theorem dX9_of_7 : decode cX9_of 7 = .ok (.iload_n 2, 1) := by decide +kernel
theorem dX9_of_8 : decode cX9_of 8 = .ok (.iadd, 1) := by decide +kernel
theorem dX9_of_9 : decode cX9_of 9 = .ok (.iaload, 1) := by decide +kernel
theorem dX9_of_10 : decode cX9_of 10 = .ok (.ireturn, 1) := by decide +kernel
theorem dX9_isEdge_0 : decode cX9_isEdge 0 = .ok (.iload_n 1, 1) := by decide +kernel
theorem dX9_isEdge_1 : decode cX9_isEdge 1 = .ok (.iconst 0, 1) := by decide +kernel
theorem dX9_isEdge_2 : decode cX9_isEdge 2 = .ok (.aload_n 0, 1) := by decide +kernel
theorem dX9_isEdge_3 : decode cX9_isEdge 3 = .ok (.getfield 7, 3) := by decide +kernel
theorem dX9_isEdge_6 : decode cX9_isEdge 6 = .ok (.bipush 80, 2) := by decide +kernel
theorem dX9_isEdge_8 : decode cX9_isEdge 8 = .ok (.iaload, 1) := by decide +kernel
theorem dX9_isEdge_9 : decode cX9_isEdge 9 = .ok (.iconst 1, 1) := by decide +kernel
theorem dX9_isEdge_10 : decode cX9_isEdge 10 = .ok (.isub, 1) := by decide +kernel
theorem dX9_isEdge_11 : decode cX9_isEdge 11 = .ok (.invokestatic 38, 3) := by decide +kernel
theorem dX9_isEdge_14 : decode cX9_isEdge 14 = .ok (.ireturn, 1) := by decide +kernel
theorem dX9_isSet_0 : decode cX9_isSet 0 = .ok (.iload_n 1, 1) := by decide +kernel
theorem dX9_isSet_1 : decode cX9_isSet 1 = .ok (.ifCond .lt 19, 3) := by decide +kernel
theorem dX9_isSet_4 : decode cX9_isSet 4 = .ok (.iload_n 1, 1) := by decide +kernel
theorem dX9_isSet_5 : decode cX9_isSet 5 = .ok (.aload_n 0, 1) := by decide +kernel
theorem dX9_isSet_6 : decode cX9_isSet 6 = .ok (.getfield 7, 3) := by decide +kernel
theorem dX9_isSet_9 : decode cX9_isSet 9 = .ok (.bipush 80, 2) := by decide +kernel
theorem dX9_isSet_11 : decode cX9_isSet 11 = .ok (.iaload, 1) := by decide +kernel
theorem dX9_isSet_12 : decode cX9_isSet 12 = .ok (.ishr, 1) := by decide +kernel
theorem dX9_isSet_13 : decode cX9_isSet 13 = .ok (.ifCond .ne 7, 3) := by decide +kernel
theorem dX9_isSet_16 : decode cX9_isSet 16 = .ok (.iconst 1, 1) := by decide +kernel
theorem dX9_isSet_17 : decode cX9_isSet 17 = .ok (.goto 4, 3) := by decide +kernel
theorem dX9_isSet_20 : decode cX9_isSet 20 = .ok (.iconst 0, 1) := by decide +kernel
theorem dX9_isSet_21 : decode cX9_isSet 21 = .ok (.ireturn, 1) := by decide +kernel
theorem dX9_has_0 : decode cX9_has 0 = .ok (.iload_n 0, 1) := by decide +kernel
theorem dX9_has_1 : decode cX9_has 1 = .ok (.iload_n 1, 1) := by decide +kernel
theorem dX9_has_2 : decode cX9_has 2 = .ok (.ishr, 1) := by decide +kernel
theorem dX9_has_3 : decode cX9_has 3 = .ok (.iconst 1, 1) := by decide +kernel
theorem dX9_has_4 : decode cX9_has 4 = .ok (.iand, 1) := by decide +kernel
theorem dX9_has_5 : decode cX9_has 5 = .ok (.iconst 1, 1) := by decide +kernel
theorem dX9_has_6 : decode cX9_has 6 = .ok (.if_icmp .ne 7, 3) := by decide +kernel
theorem dX9_has_9 : decode cX9_has 9 = .ok (.iconst 1, 1) := by decide +kernel
theorem dX9_has_10 : decode cX9_has 10 = .ok (.goto 4, 3) := by decide +kernel
theorem dX9_has_13 : decode cX9_has 13 = .ok (.iconst 0, 1) := by decide +kernel
theorem dX9_has_14 : decode cX9_has 14 = .ok (.ireturn, 1) := by decide +kernel
theorem dX9_costOf_0 : decode cX9_costOf 0 = .ok (.iconst 0, 1) := by decide +kernel
theorem dX9_costOf_1 : decode cX9_costOf 1 = .ok (.istore_n 2, 1) := by decide +kernel
theorem dX9_costOf_2 : decode cX9_costOf 2 = .ok (.iconst 0, 1) := by decide +kernel
theorem dX9_costOf_3 : decode cX9_costOf 3 = .ok (.istore_n 3, 1) := by decide +kernel
theorem dX9_costOf_4 : decode cX9_costOf 4 = .ok (.iload_n 3, 1) := by decide +kernel
theorem dX9_costOf_5 : decode cX9_costOf 5 = .ok (.aload_n 0, 1) := by decide +kernel
theorem dX9_costOf_6 : decode cX9_costOf 6 = .ok (.getfield 7, 3) := by decide +kernel
theorem dX9_costOf_9 : decode cX9_costOf 9 = .ok (.bipush 80, 2) := by decide +kernel
theorem dX9_costOf_11 : decode cX9_costOf 11 = .ok (.iaload, 1) := by decide +kernel
theorem dX9_costOf_12 : decode cX9_costOf 12 = .ok (.if_icmp .ge 30, 3) := by decide +kernel
theorem dX9_costOf_15 : decode cX9_costOf 15 = .ok (.iload_n 2, 1) := by decide +kernel
theorem dX9_costOf_16 : decode cX9_costOf 16 = .ok (.iload_n 1, 1) := by decide +kernel
theorem dX9_costOf_17 : decode cX9_costOf 17 = .ok (.iload_n 3, 1) := by decide +kernel
theorem dX9_costOf_18 : decode cX9_costOf 18 = .ok (.invokestatic 42, 3) := by decide +kernel
theorem dX9_costOf_21 : decode cX9_costOf 21 = .ok (.ifCond .eq 12, 3) := by decide +kernel
theorem dX9_costOf_24 : decode cX9_costOf 24 = .ok (.aload_n 0, 1) := by decide +kernel
theorem dX9_costOf_25 : decode cX9_costOf 25 = .ok (.iload_n 3, 1) := by decide +kernel
theorem dX9_costOf_26 : decode cX9_costOf 26 = .ok (.iconst 4, 1) := by decide +kernel
theorem dX9_costOf_27 : decode cX9_costOf 27 = .ok (.invokevirtual 46, 3) := by decide +kernel
theorem dX9_costOf_30 : decode cX9_costOf 30 = .ok (.goto 4, 3) := by decide +kernel
theorem dX9_costOf_33 : decode cX9_costOf 33 = .ok (.iconst 0, 1) := by decide +kernel
theorem dX9_costOf_34 : decode cX9_costOf 34 = .ok (.iadd, 1) := by decide +kernel
theorem dX9_costOf_35 : decode cX9_costOf 35 = .ok (.istore_n 2, 1) := by decide +kernel
theorem dX9_costOf_36 : decode cX9_costOf 36 = .ok (.iinc 3 1, 3) := by decide +kernel
theorem dX9_costOf_39 : decode cX9_costOf 39 = .ok (.goto (-35), 3) := by decide +kernel
theorem dX9_costOf_42 : decode cX9_costOf 42 = .ok (.iload_n 2, 1) := by decide +kernel
theorem dX9_costOf_43 : decode cX9_costOf 43 = .ok (.ireturn, 1) := by decide +kernel
theorem dX9_many_0 : decode cX9_many 0 = .ok (.iconst 0, 1) := by decide +kernel
theorem dX9_many_1 : decode cX9_many 1 = .ok (.istore_n 1, 1) := by decide +kernel
theorem dX9_many_2 : decode cX9_many 2 = .ok (.iconst 0, 1) := by decide +kernel
theorem dX9_many_3 : decode cX9_many 3 = .ok (.istore_n 2, 1) := by decide +kernel
theorem dX9_many_4 : decode cX9_many 4 = .ok (.iload_n 2, 1) := by decide +kernel
theorem dX9_many_5 : decode cX9_many 5 = .ok (.bipush 16, 2) := by decide +kernel
theorem dX9_many_7 : decode cX9_many 7 = .ok (.if_icmp .ge 17, 3) := by decide +kernel
theorem dX9_many_10 : decode cX9_many 10 = .ok (.iload_n 1, 1) := by decide +kernel
theorem dX9_many_11 : decode cX9_many 11 = .ok (.iload_n 0, 1) := by decide +kernel
theorem dX9_many_12 : decode cX9_many 12 = .ok (.iload_n 2, 1) := by decide +kernel
theorem dX9_many_13 : decode cX9_many 13 = .ok (.ishr, 1) := by decide +kernel
theorem dX9_many_14 : decode cX9_many 14 = .ok (.iconst 1, 1) := by decide +kernel
theorem dX9_many_15 : decode cX9_many 15 = .ok (.iand, 1) := by decide +kernel
theorem dX9_many_16 : decode cX9_many 16 = .ok (.iadd, 1) := by decide +kernel
theorem dX9_many_17 : decode cX9_many 17 = .ok (.istore_n 1, 1) := by decide +kernel
theorem dX9_many_18 : decode cX9_many 18 = .ok (.iinc 2 1, 3) := by decide +kernel
theorem dX9_many_21 : decode cX9_many 21 = .ok (.goto (-17), 3) := by decide +kernel
theorem dX9_many_24 : decode cX9_many 24 = .ok (.iload_n 1, 1) := by decide +kernel
theorem dX9_many_25 : decode cX9_many 25 = .ok (.ireturn, 1) := by decide +kernel
theorem dX9_keeps_0 : decode cX9_keeps 0 = .ok (.aload_n 0, 1) := by decide +kernel
theorem dX9_keeps_1 : decode cX9_keeps 1 = .ok (.getfield 50, 3) := by decide +kernel
theorem dX9_keeps_4 : decode cX9_keeps 4 = .ok (.bipush 12, 2) := by decide +kernel
theorem dX9_keeps_6 : decode cX9_keeps 6 = .ok (.if_icmp .ne 43, 3) := by decide +kernel
theorem dX9_keeps_9 : decode cX9_keeps 9 = .ok (.iconst 0, 1) := by decide +kernel
theorem dX9_keeps_10 : decode cX9_keeps 10 = .ok (.istore_n 1, 1) := by decide +kernel
theorem dX9_keeps_11 : decode cX9_keeps 11 = .ok (.iload_n 1, 1) := by decide +kernel
theorem dX9_keeps_12 : decode cX9_keeps 12 = .ok (.sipush 902, 3) := by decide +kernel
theorem dX9_keeps_15 : decode cX9_keeps 15 = .ok (.if_icmp .ge 24, 3) := by decide +kernel
theorem dX9_keeps_18 : decode cX9_keeps 18 = .ok (.aload_n 0, 1) := by decide +kernel
theorem dX9_keeps_19 : decode cX9_keeps 19 = .ok (.getfield 13, 3) := by decide +kernel
theorem dX9_keeps_22 : decode cX9_keeps 22 = .ok (.iload_n 1, 1) := by decide +kernel
theorem dX9_keeps_23 : decode cX9_keeps 23 = .ok (.aload_n 0, 1) := by decide +kernel
theorem dX9_keeps_24 : decode cX9_keeps 24 = .ok (.getfield 13, 3) := by decide +kernel
theorem dX9_keeps_27 : decode cX9_keeps 27 = .ok (.iload_n 1, 1) := by decide +kernel
theorem dX9_keeps_28 : decode cX9_keeps 28 = .ok (.bipush 82, 2) := by decide +kernel
theorem dX9_keeps_30 : decode cX9_keeps 30 = .ok (.iadd, 1) := by decide +kernel
theorem dX9_keeps_31 : decode cX9_keeps 31 = .ok (.iaload, 1) := by decide +kernel
theorem dX9_keeps_32 : decode cX9_keeps 32 = .ok (.iastore, 1) := by decide +kernel
theorem dX9_keeps_33 : decode cX9_keeps 33 = .ok (.iinc 1 1, 3) := by decide +kernel
theorem dX9_keeps_36 : decode cX9_keeps 36 = .ok (.goto (-25), 3) := by decide +kernel
theorem dX9_keeps_39 : decode cX9_keeps 39 = .ok (.aload_n 0, 1) := by decide +kernel
theorem dX9_keeps_40 : decode cX9_keeps 40 = .ok (.dup, 1) := by decide +kernel
theorem dX9_keeps_41 : decode cX9_keeps 41 = .ok (.getfield 50, 3) := by decide +kernel
theorem dX9_keeps_44 : decode cX9_keeps 44 = .ok (.iconst 1, 1) := by decide +kernel
theorem dX9_keeps_45 : decode cX9_keeps 45 = .ok (.isub, 1) := by decide +kernel
theorem dX9_keeps_46 : decode cX9_keeps 46 = .ok (.putfield 50, 3) := by decide +kernel
theorem dX9_keeps_49 : decode cX9_keeps 49 = .ok (.iconst 0, 1) := by decide +kernel
theorem dX9_keeps_50 : decode cX9_keeps 50 = .ok (.istore_n 1, 1) := by decide +kernel
theorem dX9_keeps_51 : decode cX9_keeps 51 = .ok (.iload_n 1, 1) := by decide +kernel
theorem dX9_keeps_52 : decode cX9_keeps 52 = .ok (.bipush 82, 2) := by decide +kernel
theorem dX9_keeps_54 : decode cX9_keeps 54 = .ok (.if_icmp .ge 29, 3) := by decide +kernel
theorem dX9_keeps_57 : decode cX9_keeps 57 = .ok (.aload_n 0, 1) := by decide +kernel
theorem dX9_keeps_58 : decode cX9_keeps 58 = .ok (.getfield 13, 3) := by decide +kernel
theorem dX9_keeps_61 : decode cX9_keeps 61 = .ok (.bipush 82, 2) := by decide +kernel
theorem dX9_keeps_63 : decode cX9_keeps 63 = .ok (.aload_n 0, 1) := by decide +kernel
theorem dX9_keeps_64 : decode cX9_keeps 64 = .ok (.getfield 50, 3) := by decide +kernel
theorem dX9_keeps_67 : decode cX9_keeps 67 = .ok (.imul, 1) := by decide +kernel
theorem dX9_keeps_68 : decode cX9_keeps 68 = .ok (.iload_n 1, 1) := by decide +kernel
theorem dX9_keeps_69 : decode cX9_keeps 69 = .ok (.iadd, 1) := by decide +kernel
theorem dX9_keeps_70 : decode cX9_keeps 70 = .ok (.aload_n 0, 1) := by decide +kernel
theorem dX9_keeps_71 : decode cX9_keeps 71 = .ok (.getfield 7, 3) := by decide +kernel
theorem dX9_keeps_74 : decode cX9_keeps 74 = .ok (.iload_n 1, 1) := by decide +kernel
theorem dX9_keeps_75 : decode cX9_keeps 75 = .ok (.iaload, 1) := by decide +kernel
theorem dX9_keeps_76 : decode cX9_keeps 76 = .ok (.iastore, 1) := by decide +kernel
theorem dX9_keeps_77 : decode cX9_keeps 77 = .ok (.iinc 1 1, 3) := by decide +kernel
theorem dX9_keeps_80 : decode cX9_keeps 80 = .ok (.goto (-29), 3) := by decide +kernel
theorem dX9_keeps_83 : decode cX9_keeps 83 = .ok (.aload_n 0, 1) := by decide +kernel
theorem dX9_keeps_84 : decode cX9_keeps 84 = .ok (.dup, 1) := by decide +kernel
theorem dX9_keeps_85 : decode cX9_keeps 85 = .ok (.getfield 50, 3) := by decide +kernel
theorem dX9_keeps_88 : decode cX9_keeps 88 = .ok (.iconst 1, 1) := by decide +kernel
theorem dX9_keeps_89 : decode cX9_keeps 89 = .ok (.iadd, 1) := by decide +kernel
theorem dX9_keeps_90 : decode cX9_keeps 90 = .ok (.putfield 50, 3) := by decide +kernel
theorem dX9_keeps_93 : decode cX9_keeps 93 = .ok (.return_, 1) := by decide +kernel
theorem dX9_undo_0 : decode cX9_undo 0 = .ok (.aload_n 0, 1) := by decide +kernel
theorem dX9_undo_1 : decode cX9_undo 1 = .ok (.getfield 50, 3) := by decide +kernel
theorem dX9_undo_4 : decode cX9_undo 4 = .ok (.ifCond .ne 6, 3) := by decide +kernel
theorem dX9_undo_7 : decode cX9_undo 7 = .ok (.bipush (-3), 2) := by decide +kernel
theorem dX9_undo_9 : decode cX9_undo 9 = .ok (.ireturn, 1) := by decide +kernel
theorem dX9_undo_10 : decode cX9_undo 10 = .ok (.aload_n 0, 1) := by decide +kernel
theorem dX9_undo_11 : decode cX9_undo 11 = .ok (.dup, 1) := by decide +kernel
theorem dX9_undo_12 : decode cX9_undo 12 = .ok (.getfield 50, 3) := by decide +kernel
theorem dX9_undo_15 : decode cX9_undo 15 = .ok (.iconst 1, 1) := by decide +kernel
theorem dX9_undo_16 : decode cX9_undo 16 = .ok (.isub, 1) := by decide +kernel
theorem dX9_undo_17 : decode cX9_undo 17 = .ok (.putfield 50, 3) := by decide +kernel
theorem dX9_undo_20 : decode cX9_undo 20 = .ok (.iconst 0, 1) := by decide +kernel
theorem dX9_undo_21 : decode cX9_undo 21 = .ok (.istore_n 1, 1) := by decide +kernel
theorem dX9_undo_22 : decode cX9_undo 22 = .ok (.iload_n 1, 1) := by decide +kernel
theorem dX9_undo_23 : decode cX9_undo 23 = .ok (.bipush 82, 2) := by decide +kernel
theorem dX9_undo_25 : decode cX9_undo 25 = .ok (.if_icmp .ge 29, 3) := by decide +kernel
theorem dX9_undo_28 : decode cX9_undo 28 = .ok (.aload_n 0, 1) := by decide +kernel
theorem dX9_undo_29 : decode cX9_undo 29 = .ok (.getfield 7, 3) := by decide +kernel
theorem dX9_undo_32 : decode cX9_undo 32 = .ok (.iload_n 1, 1) := by decide +kernel
theorem dX9_undo_33 : decode cX9_undo 33 = .ok (.aload_n 0, 1) := by decide +kernel
theorem dX9_undo_34 : decode cX9_undo 34 = .ok (.getfield 13, 3) := by decide +kernel
theorem dX9_undo_37 : decode cX9_undo 37 = .ok (.bipush 82, 2) := by decide +kernel
theorem dX9_undo_39 : decode cX9_undo 39 = .ok (.aload_n 0, 1) := by decide +kernel
theorem dX9_undo_40 : decode cX9_undo 40 = .ok (.getfield 50, 3) := by decide +kernel
theorem dX9_undo_43 : decode cX9_undo 43 = .ok (.imul, 1) := by decide +kernel
theorem dX9_undo_44 : decode cX9_undo 44 = .ok (.iload_n 1, 1) := by decide +kernel
theorem dX9_undo_45 : decode cX9_undo 45 = .ok (.iadd, 1) := by decide +kernel
theorem dX9_undo_46 : decode cX9_undo 46 = .ok (.iaload, 1) := by decide +kernel
theorem dX9_undo_47 : decode cX9_undo 47 = .ok (.iastore, 1) := by decide +kernel
theorem dX9_undo_48 : decode cX9_undo 48 = .ok (.iinc 1 1, 3) := by decide +kernel
theorem dX9_undo_51 : decode cX9_undo 51 = .ok (.goto (-29), 3) := by decide +kernel
theorem dX9_undo_54 : decode cX9_undo 54 = .ok (.aload_n 0, 1) := by decide +kernel
theorem dX9_undo_55 : decode cX9_undo 55 = .ok (.getfield 50, 3) := by decide +kernel
theorem dX9_undo_58 : decode cX9_undo 58 = .ok (.ireturn, 1) := by decide +kernel
theorem dX9_isValue_0 : decode cX9_isValue 0 = .ok (.iload_n 0, 1) := by decide +kernel
theorem dX9_isValue_1 : decode cX9_isValue 1 = .ok (.iconst 2, 1) := by decide +kernel
theorem dX9_isValue_2 : decode cX9_isValue 2 = .ok (.if_icmp .ne 13, 3) := by decide +kernel
theorem dX9_isValue_5 : decode cX9_isValue 5 = .ok (.iload_n 1, 1) := by decide +kernel
theorem dX9_isValue_6 : decode cX9_isValue 6 = .ok (.iconst 0, 1) := by decide +kernel
theorem dX9_isValue_7 : decode cX9_isValue 7 = .ok (.bipush 99, 2) := by decide +kernel
theorem dX9_isValue_9 : decode cX9_isValue 9 = .ok (.invokestatic 38, 3) := by decide +kernel
theorem dX9_isValue_12 : decode cX9_isValue 12 = .ok (.goto 38, 3) := by decide +kernel
theorem dX9_isValue_15 : decode cX9_isValue 15 = .ok (.iload_n 0, 1) := by decide +kernel
theorem dX9_isValue_16 : decode cX9_isValue 16 = .ok (.iconst 3, 1) := by decide +kernel
theorem dX9_isValue_17 : decode cX9_isValue 17 = .ok (.if_icmp .ne 13, 3) := by decide +kernel
theorem dX9_isValue_20 : decode cX9_isValue 20 = .ok (.iload_n 1, 1) := by decide +kernel
theorem dX9_isValue_21 : decode cX9_isValue 21 = .ok (.iconst 1, 1) := by decide +kernel
theorem dX9_isValue_22 : decode cX9_isValue 22 = .ok (.bipush 100, 2) := by decide +kernel
theorem dX9_isValue_24 : decode cX9_isValue 24 = .ok (.invokestatic 38, 3) := by decide +kernel
theorem dX9_isValue_27 : decode cX9_isValue 27 = .ok (.goto 23, 3) := by decide +kernel
theorem dX9_isValue_30 : decode cX9_isValue 30 = .ok (.iload_n 0, 1) := by decide +kernel
theorem dX9_isValue_31 : decode cX9_isValue 31 = .ok (.iconst 4, 1) := by decide +kernel
theorem dX9_isValue_32 : decode cX9_isValue 32 = .ok (.if_icmp .ne 17, 3) := by decide +kernel
theorem dX9_isValue_35 : decode cX9_isValue 35 = .ok (.iload_n 1, 1) := by decide +kernel
theorem dX9_isValue_36 : decode cX9_isValue 36 = .ok (.iconst 1, 1) := by decide +kernel
theorem dX9_isValue_37 : decode cX9_isValue 37 = .ok (.bipush 9, 2) := by decide +kernel
theorem dX9_isValue_39 : decode cX9_isValue 39 = .ok (.invokestatic 38, 3) := by decide +kernel
theorem dX9_isValue_42 : decode cX9_isValue 42 = .ok (.ifCond .eq 7, 3) := by decide +kernel
theorem dX9_isValue_45 : decode cX9_isValue 45 = .ok (.iconst 1, 1) := by decide +kernel
theorem dX9_isValue_46 : decode cX9_isValue 46 = .ok (.goto 4, 3) := by decide +kernel
theorem dX9_isValue_49 : decode cX9_isValue 49 = .ok (.iconst 0, 1) := by decide +kernel
theorem dX9_isValue_50 : decode cX9_isValue 50 = .ok (.ireturn, 1) := by decide +kernel
theorem dX9_lays_0 : decode cX9_lays 0 = .ok (.aload_n 0, 1) := by decide +kernel
theorem dX9_lays_1 : decode cX9_lays 1 = .ok (.getfield 7, 3) := by decide +kernel
theorem dX9_lays_4 : decode cX9_lays 4 = .ok (.iconst 5, 1) := by decide +kernel
theorem dX9_lays_5 : decode cX9_lays 5 = .ok (.iload_n 1, 1) := by decide +kernel
theorem dX9_lays_6 : decode cX9_lays 6 = .ok (.imul, 1) := by decide +kernel
theorem dX9_lays_7 : decode cX9_lays 7 = .ok (.iload_n 2, 1) := by decide +kernel
theorem dX9_lays_8 : decode cX9_lays 8 = .ok (.iastore, 1) := by decide +kernel
theorem dX9_lays_9 : decode cX9_lays 9 = .ok (.aload_n 0, 1) := by decide +kernel
theorem dX9_lays_10 : decode cX9_lays 10 = .ok (.getfield 7, 3) := by decide +kernel
theorem dX9_lays_13 : decode cX9_lays 13 = .ok (.iconst 5, 1) := by decide +kernel
theorem dX9_lays_14 : decode cX9_lays 14 = .ok (.iload_n 1, 1) := by decide +kernel
theorem dX9_lays_15 : decode cX9_lays 15 = .ok (.imul, 1) := by decide +kernel
theorem dX9_lays_16 : decode cX9_lays 16 = .ok (.iconst 1, 1) := by decide +kernel
theorem dX9_lays_17 : decode cX9_lays 17 = .ok (.iadd, 1) := by decide +kernel
theorem dX9_lays_18 : decode cX9_lays 18 = .ok (.iload_n 3, 1) := by decide +kernel
theorem dX9_lays_19 : decode cX9_lays 19 = .ok (.iastore, 1) := by decide +kernel
theorem dX9_lays_20 : decode cX9_lays 20 = .ok (.aload_n 0, 1) := by decide +kernel
theorem dX9_lays_21 : decode cX9_lays 21 = .ok (.getfield 7, 3) := by decide +kernel
theorem dX9_lays_24 : decode cX9_lays 24 = .ok (.iconst 5, 1) := by decide +kernel
theorem dX9_lays_25 : decode cX9_lays 25 = .ok (.iload_n 1, 1) := by decide +kernel
theorem dX9_lays_26 : decode cX9_lays 26 = .ok (.imul, 1) := by decide +kernel
theorem dX9_lays_27 : decode cX9_lays 27 = .ok (.iconst 2, 1) := by decide +kernel
theorem dX9_lays_28 : decode cX9_lays 28 = .ok (.iadd, 1) := by decide +kernel
theorem dX9_lays_29 : decode cX9_lays 29 = .ok (.iload 4, 2) := by decide +kernel
theorem dX9_lays_31 : decode cX9_lays 31 = .ok (.iastore, 1) := by decide +kernel
theorem dX9_lays_32 : decode cX9_lays 32 = .ok (.aload_n 0, 1) := by decide +kernel
theorem dX9_lays_33 : decode cX9_lays 33 = .ok (.getfield 7, 3) := by decide +kernel
theorem dX9_lays_36 : decode cX9_lays 36 = .ok (.iconst 5, 1) := by decide +kernel
theorem dX9_lays_37 : decode cX9_lays 37 = .ok (.iload_n 1, 1) := by decide +kernel
theorem dX9_lays_38 : decode cX9_lays 38 = .ok (.imul, 1) := by decide +kernel
theorem dX9_lays_39 : decode cX9_lays 39 = .ok (.iconst 3, 1) := by decide +kernel
theorem dX9_lays_40 : decode cX9_lays 40 = .ok (.iadd, 1) := by decide +kernel
theorem dX9_lays_41 : decode cX9_lays 41 = .ok (.iload 5, 2) := by decide +kernel
theorem dX9_lays_43 : decode cX9_lays 43 = .ok (.iastore, 1) := by decide +kernel
theorem dX9_lays_44 : decode cX9_lays 44 = .ok (.aload_n 0, 1) := by decide +kernel
theorem dX9_lays_45 : decode cX9_lays 45 = .ok (.getfield 7, 3) := by decide +kernel
theorem dX9_lays_48 : decode cX9_lays 48 = .ok (.iconst 5, 1) := by decide +kernel
theorem dX9_lays_49 : decode cX9_lays 49 = .ok (.iload_n 1, 1) := by decide +kernel
theorem dX9_lays_50 : decode cX9_lays 50 = .ok (.imul, 1) := by decide +kernel
theorem dX9_lays_51 : decode cX9_lays 51 = .ok (.iconst 4, 1) := by decide +kernel
theorem dX9_lays_52 : decode cX9_lays 52 = .ok (.iadd, 1) := by decide +kernel
theorem dX9_lays_53 : decode cX9_lays 53 = .ok (.iload 6, 2) := by decide +kernel
theorem dX9_lays_55 : decode cX9_lays 55 = .ok (.iastore, 1) := by decide +kernel
theorem dX9_lays_56 : decode cX9_lays 56 = .ok (.return_, 1) := by decide +kernel
theorem dX9_addEdge_0 : decode cX9_addEdge 0 = .ok (.iload_n 1, 1) := by decide +kernel
theorem dX9_addEdge_1 : decode cX9_addEdge 1 = .ok (.iload_n 2, 1) := by decide +kernel
theorem dX9_addEdge_2 : decode cX9_addEdge 2 = .ok (.invokestatic 53, 3) := by decide +kernel
theorem dX9_addEdge_5 : decode cX9_addEdge 5 = .ok (.ifCond .eq 34, 3) := by decide +kernel
theorem dX9_addEdge_8 : decode cX9_addEdge 8 = .ok (.iload_n 1, 1) := by decide +kernel
theorem dX9_addEdge_9 : decode cX9_addEdge 9 = .ok (.iload_n 2, 1) := by decide +kernel
theorem dX9_addEdge_10 : decode cX9_addEdge 10 = .ok (.if_icmp .eq 29, 3) := by decide +kernel
theorem dX9_addEdge_13 : decode cX9_addEdge 13 = .ok (.iconst 2, 1) := by decide +kernel
theorem dX9_addEdge_14 : decode cX9_addEdge 14 = .ok (.iload_n 3, 1) := by decide +kernel
theorem dX9_addEdge_15 : decode cX9_addEdge 15 = .ok (.invokestatic 56, 3) := by decide +kernel
theorem dX9_addEdge_18 : decode cX9_addEdge 18 = .ok (.ifCond .eq 21, 3) := by decide +kernel
theorem dX9_addEdge_21 : decode cX9_addEdge 21 = .ok (.iconst 3, 1) := by decide +kernel
theorem dX9_addEdge_22 : decode cX9_addEdge 22 = .ok (.iload 4, 2) := by decide +kernel
theorem dX9_addEdge_24 : decode cX9_addEdge 24 = .ok (.invokestatic 56, 3) := by decide +kernel
theorem dX9_addEdge_27 : decode cX9_addEdge 27 = .ok (.ifCond .eq 12, 3) := by decide +kernel
theorem dX9_addEdge_30 : decode cX9_addEdge 30 = .ok (.iconst 4, 1) := by decide +kernel
theorem dX9_addEdge_31 : decode cX9_addEdge 31 = .ok (.iload 5, 2) := by decide +kernel
theorem dX9_addEdge_33 : decode cX9_addEdge 33 = .ok (.invokestatic 56, 3) := by decide +kernel
theorem dX9_addEdge_36 : decode cX9_addEdge 36 = .ok (.ifCond .ne 6, 3) := by decide +kernel
theorem dX9_addEdge_39 : decode cX9_addEdge 39 = .ok (.bipush (-2), 2) := by decide +kernel
theorem dX9_addEdge_41 : decode cX9_addEdge 41 = .ok (.ireturn, 1) := by decide +kernel
theorem dX9_addEdge_42 : decode cX9_addEdge 42 = .ok (.aload_n 0, 1) := by decide +kernel
theorem dX9_addEdge_43 : decode cX9_addEdge 43 = .ok (.getfield 7, 3) := by decide +kernel
theorem dX9_addEdge_46 : decode cX9_addEdge 46 = .ok (.bipush 80, 2) := by decide +kernel
theorem dX9_addEdge_48 : decode cX9_addEdge 48 = .ok (.iaload, 1) := by decide +kernel
theorem dX9_addEdge_49 : decode cX9_addEdge 49 = .ok (.bipush 16, 2) := by decide +kernel
theorem dX9_addEdge_51 : decode cX9_addEdge 51 = .ok (.if_icmp .ne 6, 3) := by decide +kernel
theorem dX9_addEdge_54 : decode cX9_addEdge 54 = .ok (.bipush (-4), 2) := by decide +kernel
theorem dX9_addEdge_56 : decode cX9_addEdge 56 = .ok (.ireturn, 1) := by decide +kernel
theorem dX9_addEdge_57 : decode cX9_addEdge 57 = .ok (.aload_n 0, 1) := by decide +kernel
theorem dX9_addEdge_58 : decode cX9_addEdge 58 = .ok (.invokevirtual 59, 3) := by decide +kernel
theorem dX9_addEdge_61 : decode cX9_addEdge 61 = .ok (.aload_n 0, 1) := by decide +kernel
theorem dX9_addEdge_62 : decode cX9_addEdge 62 = .ok (.aload_n 0, 1) := by decide +kernel
theorem dX9_addEdge_63 : decode cX9_addEdge 63 = .ok (.getfield 7, 3) := by decide +kernel
theorem dX9_addEdge_66 : decode cX9_addEdge 66 = .ok (.bipush 80, 2) := by decide +kernel
theorem dX9_addEdge_68 : decode cX9_addEdge 68 = .ok (.iaload, 1) := by decide +kernel
theorem dX9_addEdge_69 : decode cX9_addEdge 69 = .ok (.iload_n 1, 1) := by decide +kernel
theorem dX9_addEdge_70 : decode cX9_addEdge 70 = .ok (.iload_n 2, 1) := by decide +kernel
theorem dX9_addEdge_71 : decode cX9_addEdge 71 = .ok (.iload_n 3, 1) := by decide +kernel
theorem dX9_addEdge_72 : decode cX9_addEdge 72 = .ok (.iload 4, 2) := by decide +kernel
theorem dX9_addEdge_74 : decode cX9_addEdge 74 = .ok (.iload 5, 2) := by decide +kernel
theorem dX9_addEdge_76 : decode cX9_addEdge 76 = .ok (.invokevirtual 62, 3) := by decide +kernel
theorem dX9_addEdge_79 : decode cX9_addEdge 79 = .ok (.aload_n 0, 1) := by decide +kernel
theorem dX9_addEdge_80 : decode cX9_addEdge 80 = .ok (.getfield 7, 3) := by decide +kernel
theorem dX9_addEdge_83 : decode cX9_addEdge 83 = .ok (.bipush 80, 2) := by decide +kernel
theorem dX9_addEdge_85 : decode cX9_addEdge 85 = .ok (.dup2, 1) := by decide +kernel
theorem dX9_addEdge_86 : decode cX9_addEdge 86 = .ok (.iaload, 1) := by decide +kernel
theorem dX9_addEdge_87 : decode cX9_addEdge 87 = .ok (.iconst 1, 1) := by decide +kernel
theorem dX9_addEdge_88 : decode cX9_addEdge 88 = .ok (.iadd, 1) := by decide +kernel
theorem dX9_addEdge_89 : decode cX9_addEdge 89 = .ok (.iastore, 1) := by decide +kernel
theorem dX9_addEdge_90 : decode cX9_addEdge 90 = .ok (.aload_n 0, 1) := by decide +kernel
theorem dX9_addEdge_91 : decode cX9_addEdge 91 = .ok (.getfield 7, 3) := by decide +kernel
theorem dX9_addEdge_94 : decode cX9_addEdge 94 = .ok (.bipush 80, 2) := by decide +kernel
theorem dX9_addEdge_96 : decode cX9_addEdge 96 = .ok (.iaload, 1) := by decide +kernel
theorem dX9_addEdge_97 : decode cX9_addEdge 97 = .ok (.iconst 1, 1) := by decide +kernel
theorem dX9_addEdge_98 : decode cX9_addEdge 98 = .ok (.isub, 1) := by decide +kernel
theorem dX9_addEdge_99 : decode cX9_addEdge 99 = .ok (.ireturn, 1) := by decide +kernel
