/-! decode rows -/
theorem dX9_fortify_0 : decode cX9_fortify 0 = .ok (.iload_n 1, 1) := by decide +kernel
theorem dX9_fortify_1 : decode cX9_fortify 1 = .ok (.iload_n 2, 1) := by decide +kernel
theorem dX9_fortify_2 : decode cX9_fortify 2 = .ok (.invokestatic 53, 3) := by decide +kernel
theorem dX9_fortify_5 : decode cX9_fortify 5 = .ok (.ifCond .eq 22, 3) := by decide +kernel
theorem dX9_fortify_8 : decode cX9_fortify 8 = .ok (.iload_n 3, 1) := by decide +kernel
theorem dX9_fortify_9 : decode cX9_fortify 9 = .ok (.iconst 0, 1) := by decide +kernel
theorem dX9_fortify_10 : decode cX9_fortify 10 = .ok (.iconst 3, 1) := by decide +kernel
theorem dX9_fortify_11 : decode cX9_fortify 11 = .ok (.invokestatic 38, 3) := by decide +kernel
theorem dX9_fortify_14 : decode cX9_fortify 14 = .ok (.ifCond .eq 13, 3) := by decide +kernel
theorem dX9_fortify_17 : decode cX9_fortify 17 = .ok (.iload 4, 2) := by decide +kernel
theorem dX9_fortify_19 : decode cX9_fortify 19 = .ok (.iconst 0, 1) := by decide +kernel
theorem dX9_fortify_20 : decode cX9_fortify 20 = .ok (.iconst 2, 1) := by decide +kernel
theorem dX9_fortify_21 : decode cX9_fortify 21 = .ok (.invokestatic 38, 3) := by decide +kernel
theorem dX9_fortify_24 : decode cX9_fortify 24 = .ok (.ifCond .ne 6, 3) := by decide +kernel
theorem dX9_fortify_27 : decode cX9_fortify 27 = .ok (.bipush (-2), 2) := by decide +kernel
theorem dX9_fortify_29 : decode cX9_fortify 29 = .ok (.ireturn, 1) := by decide +kernel
theorem dX9_fortify_30 : decode cX9_fortify 30 = .ok (.sipush 10000, 3) := by decide +kernel
theorem dX9_fortify_33 : decode cX9_fortify 33 = .ok (.istore 5, 2) := by decide +kernel
theorem dX9_fortify_35 : decode cX9_fortify 35 = .ok (.iconst 0, 1) := by decide +kernel
theorem dX9_fortify_36 : decode cX9_fortify 36 = .ok (.istore 6, 2) := by decide +kernel
theorem dX9_fortify_38 : decode cX9_fortify 38 = .ok (.iconst 0, 1) := by decide +kernel
theorem dX9_fortify_39 : decode cX9_fortify 39 = .ok (.istore 7, 2) := by decide +kernel
theorem dX9_fortify_41 : decode cX9_fortify 41 = .ok (.iload 7, 2) := by decide +kernel
theorem dX9_fortify_43 : decode cX9_fortify 43 = .ok (.iload 4, 2) := by decide +kernel
theorem dX9_fortify_45 : decode cX9_fortify 45 = .ok (.if_icmp .gt 92, 3) := by decide +kernel
theorem dX9_fortify_48 : decode cX9_fortify 48 = .ok (.iconst 0, 1) := by decide +kernel
theorem dX9_fortify_49 : decode cX9_fortify 49 = .ok (.istore 8, 2) := by decide +kernel
theorem dX9_fortify_51 : decode cX9_fortify 51 = .ok (.iload 8, 2) := by decide +kernel
theorem dX9_fortify_53 : decode cX9_fortify 53 = .ok (.iconst 1, 1) := by decide +kernel
theorem dX9_fortify_54 : decode cX9_fortify 54 = .ok (.aload_n 0, 1) := by decide +kernel
theorem dX9_fortify_55 : decode cX9_fortify 55 = .ok (.getfield 7, 3) := by decide +kernel
theorem dX9_fortify_58 : decode cX9_fortify 58 = .ok (.bipush 80, 2) := by decide +kernel
theorem dX9_fortify_60 : decode cX9_fortify 60 = .ok (.iaload, 1) := by decide +kernel
theorem dX9_fortify_61 : decode cX9_fortify 61 = .ok (.ishl, 1) := by decide +kernel
theorem dX9_fortify_62 : decode cX9_fortify 62 = .ok (.if_icmp .ge 69, 3) := by decide +kernel
theorem dX9_fortify_65 : decode cX9_fortify 65 = .ok (.iload 8, 2) := by decide +kernel
theorem dX9_fortify_67 : decode cX9_fortify 67 = .ok (.invokestatic 173, 3) := by decide +kernel
theorem dX9_fortify_70 : decode cX9_fortify 70 = .ok (.iload 7, 2) := by decide +kernel
theorem dX9_fortify_72 : decode cX9_fortify 72 = .ok (.if_icmp .ne 16, 3) := by decide +kernel
theorem dX9_fortify_75 : decode cX9_fortify 75 = .ok (.aload_n 0, 1) := by decide +kernel
theorem dX9_fortify_76 : decode cX9_fortify 76 = .ok (.iload_n 1, 1) := by decide +kernel
theorem dX9_fortify_77 : decode cX9_fortify 77 = .ok (.iload_n 2, 1) := by decide +kernel
theorem dX9_fortify_78 : decode cX9_fortify 78 = .ok (.iload_n 3, 1) := by decide +kernel
theorem dX9_fortify_79 : decode cX9_fortify 79 = .ok (.iload 8, 2) := by decide +kernel
theorem dX9_fortify_81 : decode cX9_fortify 81 = .ok (.iconst 0, 1) := by decide +kernel
theorem dX9_fortify_82 : decode cX9_fortify 82 = .ok (.invokevirtual 166, 3) := by decide +kernel
theorem dX9_fortify_85 : decode cX9_fortify 85 = .ok (.goto 6, 3) := by decide +kernel
theorem dX9_fortify_88 : decode cX9_fortify 88 = .ok (.sipush 10000, 3) := by decide +kernel
theorem dX9_fortify_91 : decode cX9_fortify 91 = .ok (.istore 9, 2) := by decide +kernel
theorem dX9_fortify_93 : decode cX9_fortify 93 = .ok (.iload 9, 2) := by decide +kernel
theorem dX9_fortify_95 : decode cX9_fortify 95 = .ok (.iload 5, 2) := by decide +kernel
theorem dX9_fortify_97 : decode cX9_fortify 97 = .ok (.if_icmp .ge 8, 3) := by decide +kernel
theorem dX9_fortify_100 : decode cX9_fortify 100 = .ok (.iload 8, 2) := by decide +kernel
theorem dX9_fortify_102 : decode cX9_fortify 102 = .ok (.goto 5, 3) := by decide +kernel
theorem dX9_fortify_105 : decode cX9_fortify 105 = .ok (.iload 6, 2) := by decide +kernel
theorem dX9_fortify_107 : decode cX9_fortify 107 = .ok (.istore 6, 2) := by decide +kernel
theorem dX9_fortify_109 : decode cX9_fortify 109 = .ok (.iload 9, 2) := by decide +kernel
theorem dX9_fortify_111 : decode cX9_fortify 111 = .ok (.iload 5, 2) := by decide +kernel
theorem dX9_fortify_113 : decode cX9_fortify 113 = .ok (.if_icmp .ge 8, 3) := by decide +kernel
theorem dX9_fortify_116 : decode cX9_fortify 116 = .ok (.iload 9, 2) := by decide +kernel
theorem dX9_fortify_118 : decode cX9_fortify 118 = .ok (.goto 5, 3) := by decide +kernel
theorem dX9_fortify_121 : decode cX9_fortify 121 = .ok (.iload 5, 2) := by decide +kernel
theorem dX9_fortify_123 : decode cX9_fortify 123 = .ok (.istore 5, 2) := by decide +kernel
theorem dX9_fortify_125 : decode cX9_fortify 125 = .ok (.iinc 8 1, 3) := by decide +kernel
theorem dX9_fortify_128 : decode cX9_fortify 128 = .ok (.goto (-77), 3) := by decide +kernel
theorem dX9_fortify_131 : decode cX9_fortify 131 = .ok (.iinc 7 1, 3) := by decide +kernel
theorem dX9_fortify_134 : decode cX9_fortify 134 = .ok (.goto (-93), 3) := by decide +kernel
theorem dX9_fortify_137 : decode cX9_fortify 137 = .ok (.aload_n 0, 1) := by decide +kernel
theorem dX9_fortify_138 : decode cX9_fortify 138 = .ok (.iload 6, 2) := by decide +kernel
theorem dX9_fortify_140 : decode cX9_fortify 140 = .ok (.putfield 16, 3) := by decide +kernel
theorem dX9_fortify_143 : decode cX9_fortify 143 = .ok (.iload 5, 2) := by decide +kernel
theorem dX9_fortify_145 : decode cX9_fortify 145 = .ok (.ireturn, 1) := by decide +kernel
theorem dX9_finding_0 : decode cX9_finding 0 = .ok (.aload_n 0, 1) := by decide +kernel
theorem dX9_finding_1 : decode cX9_finding 1 = .ok (.getfield 16, 3) := by decide +kernel
theorem dX9_finding_4 : decode cX9_finding 4 = .ok (.ireturn, 1) := by decide +kernel
theorem dX9_worth_0 : decode cX9_worth 0 = .ok (.iload_n 1, 1) := by decide +kernel
theorem dX9_worth_1 : decode cX9_worth 1 = .ok (.iload_n 2, 1) := by decide +kernel
theorem dX9_worth_2 : decode cX9_worth 2 = .ok (.invokestatic 53, 3) := by decide +kernel
theorem dX9_worth_5 : decode cX9_worth 5 = .ok (.ifCond .eq 11, 3) := by decide +kernel
theorem dX9_worth_8 : decode cX9_worth 8 = .ok (.aload_n 0, 1) := by decide +kernel
theorem dX9_worth_9 : decode cX9_worth 9 = .ok (.iload_n 3, 1) := by decide +kernel
theorem dX9_worth_10 : decode cX9_worth 10 = .ok (.invokevirtual 66, 3) := by decide +kernel
theorem dX9_worth_13 : decode cX9_worth 13 = .ok (.ifCond .ne 6, 3) := by decide +kernel
theorem dX9_worth_16 : decode cX9_worth 16 = .ok (.bipush (-2), 2) := by decide +kernel
theorem dX9_worth_18 : decode cX9_worth 18 = .ok (.ireturn, 1) := by decide +kernel
theorem dX9_worth_19 : decode cX9_worth 19 = .ok (.aload_n 0, 1) := by decide +kernel
theorem dX9_worth_20 : decode cX9_worth 20 = .ok (.getfield 7, 3) := by decide +kernel
theorem dX9_worth_23 : decode cX9_worth 23 = .ok (.bipush 81, 2) := by decide +kernel
theorem dX9_worth_25 : decode cX9_worth 25 = .ok (.iaload, 1) := by decide +kernel
theorem dX9_worth_26 : decode cX9_worth 26 = .ok (.iconst 1, 1) := by decide +kernel
theorem dX9_worth_27 : decode cX9_worth 27 = .ok (.iload_n 3, 1) := by decide +kernel
theorem dX9_worth_28 : decode cX9_worth 28 = .ok (.ishl, 1) := by decide +kernel
theorem dX9_worth_29 : decode cX9_worth 29 = .ok (.ior, 1) := by decide +kernel
theorem dX9_worth_30 : decode cX9_worth 30 = .ok (.istore 4, 2) := by decide +kernel
theorem dX9_worth_32 : decode cX9_worth 32 = .ok (.aload_n 0, 1) := by decide +kernel
theorem dX9_worth_33 : decode cX9_worth 33 = .ok (.iload_n 1, 1) := by decide +kernel
theorem dX9_worth_34 : decode cX9_worth 34 = .ok (.iload_n 2, 1) := by decide +kernel
theorem dX9_worth_35 : decode cX9_worth 35 = .ok (.iload 4, 2) := by decide +kernel
theorem dX9_worth_37 : decode cX9_worth 37 = .ok (.iconst 0, 1) := by decide +kernel
theorem dX9_worth_38 : decode cX9_worth 38 = .ok (.invokevirtual 134, 3) := by decide +kernel
theorem dX9_worth_41 : decode cX9_worth 41 = .ok (.aload_n 0, 1) := by decide +kernel
theorem dX9_worth_42 : decode cX9_worth 42 = .ok (.iload_n 1, 1) := by decide +kernel
theorem dX9_worth_43 : decode cX9_worth 43 = .ok (.iload_n 2, 1) := by decide +kernel
theorem dX9_worth_44 : decode cX9_worth 44 = .ok (.iload 4, 2) := by decide +kernel
theorem dX9_worth_46 : decode cX9_worth 46 = .ok (.iconst 1, 1) := by decide +kernel
theorem dX9_worth_47 : decode cX9_worth 47 = .ok (.iload_n 3, 1) := by decide +kernel
theorem dX9_worth_48 : decode cX9_worth 48 = .ok (.ishl, 1) := by decide +kernel
theorem dX9_worth_49 : decode cX9_worth 49 = .ok (.iconst (-1), 1) := by decide +kernel
theorem dX9_worth_50 : decode cX9_worth 50 = .ok (.ixor, 1) := by decide +kernel
theorem dX9_worth_51 : decode cX9_worth 51 = .ok (.iand, 1) := by decide +kernel
theorem dX9_worth_52 : decode cX9_worth 52 = .ok (.iconst 0, 1) := by decide +kernel
theorem dX9_worth_53 : decode cX9_worth 53 = .ok (.invokevirtual 134, 3) := by decide +kernel
theorem dX9_worth_56 : decode cX9_worth 56 = .ok (.isub, 1) := by decide +kernel
theorem dX9_worth_57 : decode cX9_worth 57 = .ok (.ireturn, 1) := by decide +kernel
theorem dX9_neverHelps_0 : decode cX9_neverHelps 0 = .ok (.iload_n 1, 1) := by decide +kernel
theorem dX9_neverHelps_1 : decode cX9_neverHelps 1 = .ok (.iload_n 2, 1) := by decide +kernel
theorem dX9_neverHelps_2 : decode cX9_neverHelps 2 = .ok (.invokestatic 53, 3) := by decide +kernel
theorem dX9_neverHelps_5 : decode cX9_neverHelps 5 = .ok (.ifCond .eq 12, 3) := by decide +kernel
theorem dX9_neverHelps_8 : decode cX9_neverHelps 8 = .ok (.iload_n 3, 1) := by decide +kernel
theorem dX9_neverHelps_9 : decode cX9_neverHelps 9 = .ok (.iconst 0, 1) := by decide +kernel
theorem dX9_neverHelps_10 : decode cX9_neverHelps 10 = .ok (.iconst 5, 1) := by decide +kernel
theorem dX9_neverHelps_11 : decode cX9_neverHelps 11 = .ok (.invokestatic 38, 3) := by decide +kernel
theorem dX9_neverHelps_14 : decode cX9_neverHelps 14 = .ok (.ifCond .ne 6, 3) := by decide +kernel
theorem dX9_neverHelps_17 : decode cX9_neverHelps 17 = .ok (.bipush (-2), 2) := by decide +kernel
theorem dX9_neverHelps_19 : decode cX9_neverHelps 19 = .ok (.ireturn, 1) := by decide +kernel
theorem dX9_neverHelps_20 : decode cX9_neverHelps 20 = .ok (.iconst 0, 1) := by decide +kernel
theorem dX9_neverHelps_21 : decode cX9_neverHelps 21 = .ok (.istore 4, 2) := by decide +kernel
theorem dX9_neverHelps_23 : decode cX9_neverHelps 23 = .ok (.iconst 1, 1) := by decide +kernel
theorem dX9_neverHelps_24 : decode cX9_neverHelps 24 = .ok (.istore 5, 2) := by decide +kernel
theorem dX9_neverHelps_26 : decode cX9_neverHelps 26 = .ok (.iload 5, 2) := by decide +kernel
theorem dX9_neverHelps_28 : decode cX9_neverHelps 28 = .ok (.iconst 1, 1) := by decide +kernel
theorem dX9_neverHelps_29 : decode cX9_neverHelps 29 = .ok (.aload_n 0, 1) := by decide +kernel
theorem dX9_neverHelps_30 : decode cX9_neverHelps 30 = .ok (.getfield 7, 3) := by decide +kernel
theorem dX9_neverHelps_33 : decode cX9_neverHelps 33 = .ok (.bipush 80, 2) := by decide +kernel
theorem dX9_neverHelps_35 : decode cX9_neverHelps 35 = .ok (.iaload, 1) := by decide +kernel
theorem dX9_neverHelps_36 : decode cX9_neverHelps 36 = .ok (.ishl, 1) := by decide +kernel
theorem dX9_neverHelps_37 : decode cX9_neverHelps 37 = .ok (.if_icmp .ge 117, 3) := by decide +kernel
theorem dX9_neverHelps_40 : decode cX9_neverHelps 40 = .ok (.aload_n 0, 1) := by decide +kernel
theorem dX9_neverHelps_41 : decode cX9_neverHelps 41 = .ok (.iload 5, 2) := by decide +kernel
theorem dX9_neverHelps_43 : decode cX9_neverHelps 43 = .ok (.invokevirtual 118, 3) := by decide +kernel
theorem dX9_neverHelps_46 : decode cX9_neverHelps 46 = .ok (.iload_n 3, 1) := by decide +kernel
theorem dX9_neverHelps_47 : decode cX9_neverHelps 47 = .ok (.if_icmp .gt 101, 3) := by decide +kernel
theorem dX9_neverHelps_50 : decode cX9_neverHelps 50 = .ok (.aload_n 0, 1) := by decide +kernel
theorem dX9_neverHelps_51 : decode cX9_neverHelps 51 = .ok (.iload_n 1, 1) := by decide +kernel
theorem dX9_neverHelps_52 : decode cX9_neverHelps 52 = .ok (.iload_n 2, 1) := by decide +kernel
theorem dX9_neverHelps_53 : decode cX9_neverHelps 53 = .ok (.iload 5, 2) := by decide +kernel
theorem dX9_neverHelps_55 : decode cX9_neverHelps 55 = .ok (.iconst 0, 1) := by decide +kernel
theorem dX9_neverHelps_56 : decode cX9_neverHelps 56 = .ok (.invokevirtual 134, 3) := by decide +kernel
theorem dX9_neverHelps_59 : decode cX9_neverHelps 59 = .ok (.istore 6, 2) := by decide +kernel
theorem dX9_neverHelps_61 : decode cX9_neverHelps 61 = .ok (.iconst 0, 1) := by decide +kernel
theorem dX9_neverHelps_62 : decode cX9_neverHelps 62 = .ok (.istore 7, 2) := by decide +kernel
theorem dX9_neverHelps_64 : decode cX9_neverHelps 64 = .ok (.iload 7, 2) := by decide +kernel
theorem dX9_neverHelps_66 : decode cX9_neverHelps 66 = .ok (.aload_n 0, 1) := by decide +kernel
theorem dX9_neverHelps_67 : decode cX9_neverHelps 67 = .ok (.getfield 7, 3) := by decide +kernel
theorem dX9_neverHelps_70 : decode cX9_neverHelps 70 = .ok (.bipush 80, 2) := by decide +kernel
theorem dX9_neverHelps_72 : decode cX9_neverHelps 72 = .ok (.iaload, 1) := by decide +kernel
theorem dX9_neverHelps_73 : decode cX9_neverHelps 73 = .ok (.if_icmp .ge 75, 3) := by decide +kernel
theorem dX9_neverHelps_76 : decode cX9_neverHelps 76 = .ok (.iload 5, 2) := by decide +kernel
theorem dX9_neverHelps_78 : decode cX9_neverHelps 78 = .ok (.iload 7, 2) := by decide +kernel
theorem dX9_neverHelps_80 : decode cX9_neverHelps 80 = .ok (.invokestatic 42, 3) := by decide +kernel
theorem dX9_neverHelps_83 : decode cX9_neverHelps 83 = .ok (.ifCond .eq 17, 3) := by decide +kernel
theorem dX9_neverHelps_86 : decode cX9_neverHelps 86 = .ok (.iload 4, 2) := by decide +kernel
theorem dX9_neverHelps_88 : decode cX9_neverHelps 88 = .ok (.iload 7, 2) := by decide +kernel
theorem dX9_neverHelps_90 : decode cX9_neverHelps 90 = .ok (.invokestatic 42, 3) := by decide +kernel
theorem dX9_neverHelps_93 : decode cX9_neverHelps 93 = .ok (.ifCond .ne 7, 3) := by decide +kernel
theorem dX9_neverHelps_96 : decode cX9_neverHelps 96 = .ok (.iconst 1, 1) := by decide +kernel
theorem dX9_neverHelps_97 : decode cX9_neverHelps 97 = .ok (.goto 4, 3) := by decide +kernel
theorem dX9_neverHelps_100 : decode cX9_neverHelps 100 = .ok (.iconst 0, 1) := by decide +kernel
theorem dX9_neverHelps_101 : decode cX9_neverHelps 101 = .ok (.istore 8, 2) := by decide +kernel
theorem dX9_neverHelps_103 : decode cX9_neverHelps 103 = .ok (.iload 4, 2) := by decide +kernel
theorem dX9_neverHelps_105 : decode cX9_neverHelps 105 = .ok (.iload 8, 2) := by decide +kernel
theorem dX9_neverHelps_107 : decode cX9_neverHelps 107 = .ok (.ifCond .eq 31, 3) := by decide +kernel
theorem dX9_neverHelps_110 : decode cX9_neverHelps 110 = .ok (.iload 6, 2) := by decide +kernel
theorem dX9_neverHelps_112 : decode cX9_neverHelps 112 = .ok (.aload_n 0, 1) := by decide +kernel
theorem dX9_neverHelps_113 : decode cX9_neverHelps 113 = .ok (.iload_n 1, 1) := by decide +kernel
theorem dX9_neverHelps_114 : decode cX9_neverHelps 114 = .ok (.iload_n 2, 1) := by decide +kernel
theorem dX9_neverHelps_115 : decode cX9_neverHelps 115 = .ok (.iload 5, 2) := by decide +kernel
theorem dX9_neverHelps_117 : decode cX9_neverHelps 117 = .ok (.iconst 1, 1) := by decide +kernel
theorem dX9_neverHelps_118 : decode cX9_neverHelps 118 = .ok (.iload 7, 2) := by decide +kernel
theorem dX9_neverHelps_120 : decode cX9_neverHelps 120 = .ok (.ishl, 1) := by decide +kernel
theorem dX9_neverHelps_121 : decode cX9_neverHelps 121 = .ok (.iconst (-1), 1) := by decide +kernel
theorem dX9_neverHelps_122 : decode cX9_neverHelps 122 = .ok (.ixor, 1) := by decide +kernel
theorem dX9_neverHelps_123 : decode cX9_neverHelps 123 = .ok (.iand, 1) := by decide +kernel
theorem dX9_neverHelps_124 : decode cX9_neverHelps 124 = .ok (.iconst 0, 1) := by decide +kernel
theorem dX9_neverHelps_125 : decode cX9_neverHelps 125 = .ok (.invokevirtual 134, 3) := by decide +kernel
theorem dX9_neverHelps_128 : decode cX9_neverHelps 128 = .ok (.if_icmp .le 10, 3) := by decide +kernel
theorem dX9_neverHelps_131 : decode cX9_neverHelps 131 = .ok (.iconst 1, 1) := by decide +kernel
theorem dX9_neverHelps_132 : decode cX9_neverHelps 132 = .ok (.iload 7, 2) := by decide +kernel
theorem dX9_neverHelps_134 : decode cX9_neverHelps 134 = .ok (.ishl, 1) := by decide +kernel
theorem dX9_neverHelps_135 : decode cX9_neverHelps 135 = .ok (.goto 4, 3) := by decide +kernel
theorem dX9_neverHelps_138 : decode cX9_neverHelps 138 = .ok (.iconst 0, 1) := by decide +kernel
theorem dX9_neverHelps_139 : decode cX9_neverHelps 139 = .ok (.ior, 1) := by decide +kernel
theorem dX9_neverHelps_140 : decode cX9_neverHelps 140 = .ok (.istore 4, 2) := by decide +kernel
theorem dX9_neverHelps_142 : decode cX9_neverHelps 142 = .ok (.iinc 7 1, 3) := by decide +kernel
theorem dX9_neverHelps_145 : decode cX9_neverHelps 145 = .ok (.goto (-81), 3) := by decide +kernel
theorem dX9_neverHelps_148 : decode cX9_neverHelps 148 = .ok (.iinc 5 1, 3) := by decide +kernel
theorem dX9_neverHelps_151 : decode cX9_neverHelps 151 = .ok (.goto (-125), 3) := by decide +kernel
theorem dX9_neverHelps_154 : decode cX9_neverHelps 154 = .ok (.iconst 1, 1) := by decide +kernel
theorem dX9_neverHelps_155 : decode cX9_neverHelps 155 = .ok (.aload_n 0, 1) := by decide +kernel
theorem dX9_neverHelps_156 : decode cX9_neverHelps 156 = .ok (.getfield 7, 3) := by decide +kernel
theorem dX9_neverHelps_159 : decode cX9_neverHelps 159 = .ok (.bipush 80, 2) := by decide +kernel
theorem dX9_neverHelps_161 : decode cX9_neverHelps 161 = .ok (.iaload, 1) := by decide +kernel
theorem dX9_neverHelps_162 : decode cX9_neverHelps 162 = .ok (.ishl, 1) := by decide +kernel
theorem dX9_neverHelps_163 : decode cX9_neverHelps 163 = .ok (.iconst 1, 1) := by decide +kernel
theorem dX9_neverHelps_164 : decode cX9_neverHelps 164 = .ok (.isub, 1) := by decide +kernel
theorem dX9_neverHelps_165 : decode cX9_neverHelps 165 = .ok (.iload 4, 2) := by decide +kernel
theorem dX9_neverHelps_167 : decode cX9_neverHelps 167 = .ok (.iconst (-1), 1) := by decide +kernel
theorem dX9_neverHelps_168 : decode cX9_neverHelps 168 = .ok (.ixor, 1) := by decide +kernel
theorem dX9_neverHelps_169 : decode cX9_neverHelps 169 = .ok (.iand, 1) := by decide +kernel
theorem dX9_neverHelps_170 : decode cX9_neverHelps 170 = .ok (.ireturn, 1) := by decide +kernel
theorem dX9_power_0 : decode cX9_power 0 = .ok (.lconst 1, 1) := by decide +kernel
theorem dX9_power_1 : decode cX9_power 1 = .ok (.lstore_n 2, 1) := by decide +kernel
theorem dX9_power_2 : decode cX9_power 2 = .ok (.iconst 0, 1) := by decide +kernel
theorem dX9_power_3 : decode cX9_power 3 = .ok (.istore 4, 2) := by decide +kernel
theorem dX9_power_5 : decode cX9_power 5 = .ok (.iload 4, 2) := by decide +kernel
theorem dX9_power_7 : decode cX9_power 7 = .ok (.iload_n 1, 1) := by decide +kernel
theorem dX9_power_8 : decode cX9_power 8 = .ok (.if_icmp .ge 14, 3) := by decide +kernel
theorem dX9_power_11 : decode cX9_power 11 = .ok (.lload_n 2, 1) := by decide +kernel
theorem dX9_power_12 : decode cX9_power 12 = .ok (.iload_n 0, 1) := by decide +kernel
theorem dX9_power_13 : decode cX9_power 13 = .ok (.i2l, 1) := by decide +kernel
theorem dX9_power_14 : decode cX9_power 14 = .ok (.lmul, 1) := by decide +kernel
theorem dX9_power_15 : decode cX9_power 15 = .ok (.lstore_n 2, 1) := by decide +kernel
theorem dX9_power_16 : decode cX9_power 16 = .ok (.iinc 4 1, 3) := by decide +kernel
theorem dX9_power_19 : decode cX9_power 19 = .ok (.goto (-14), 3) := by decide +kernel
theorem dX9_power_22 : decode cX9_power 22 = .ok (.lload_n 2, 1) := by decide +kernel
theorem dX9_power_23 : decode cX9_power 23 = .ok (.lreturn, 1) := by decide +kernel
theorem dX9_isAsked_0 : decode cX9_isAsked 0 = .ok (.iload_n 1, 1) := by decide +kernel
theorem dX9_isAsked_1 : decode cX9_isAsked 1 = .ok (.iload_n 2, 1) := by decide +kernel
theorem dX9_isAsked_2 : decode cX9_isAsked 2 = .ok (.invokestatic 53, 3) := by decide +kernel
theorem dX9_isAsked_5 : decode cX9_isAsked 5 = .ok (.ifCond .eq 35, 3) := by decide +kernel
theorem dX9_isAsked_8 : decode cX9_isAsked 8 = .ok (.aload_n 0, 1) := by decide +kernel
theorem dX9_isAsked_9 : decode cX9_isAsked 9 = .ok (.iload_n 3, 1) := by decide +kernel
theorem dX9_isAsked_10 : decode cX9_isAsked 10 = .ok (.invokevirtual 121, 3) := by decide +kernel
theorem dX9_isAsked_13 : decode cX9_isAsked 13 = .ok (.ifCond .eq 27, 3) := by decide +kernel
theorem dX9_isAsked_16 : decode cX9_isAsked 16 = .ok (.iload_n 3, 1) := by decide +kernel
theorem dX9_isAsked_17 : decode cX9_isAsked 17 = .ok (.invokestatic 173, 3) := by decide +kernel
theorem dX9_isAsked_20 : decode cX9_isAsked 20 = .ok (.bipush 6, 2) := by decide +kernel
theorem dX9_isAsked_22 : decode cX9_isAsked 22 = .ok (.if_icmp .gt 18, 3) := by decide +kernel
theorem dX9_isAsked_25 : decode cX9_isAsked 25 = .ok (.iload 4, 2) := by decide +kernel
theorem dX9_isAsked_27 : decode cX9_isAsked 27 = .ok (.iconst 0, 1) := by decide +kernel
theorem dX9_isAsked_28 : decode cX9_isAsked 28 = .ok (.bipush 12, 2) := by decide +kernel
theorem dX9_isAsked_30 : decode cX9_isAsked 30 = .ok (.invokestatic 38, 3) := by decide +kernel
theorem dX9_isAsked_33 : decode cX9_isAsked 33 = .ok (.ifCond .eq 7, 3) := by decide +kernel
theorem dX9_isAsked_36 : decode cX9_isAsked 36 = .ok (.iconst 1, 1) := by decide +kernel
theorem dX9_isAsked_37 : decode cX9_isAsked 37 = .ok (.goto 4, 3) := by decide +kernel
theorem dX9_isAsked_40 : decode cX9_isAsked 40 = .ok (.iconst 0, 1) := by decide +kernel
theorem dX9_isAsked_41 : decode cX9_isAsked 41 = .ok (.ireturn, 1) := by decide +kernel
theorem dX9_sum_0 : decode cX9_sum 0 = .ok (.lconst 0, 1) := by decide +kernel
theorem dX9_sum_1 : decode cX9_sum 1 = .ok (.lstore 6, 2) := by decide +kernel
theorem dX9_sum_3 : decode cX9_sum 3 = .ok (.iconst 0, 1) := by decide +kernel
theorem dX9_sum_4 : decode cX9_sum 4 = .ok (.istore 8, 2) := by decide +kernel
theorem dX9_sum_6 : decode cX9_sum 6 = .ok (.iload 8, 2) := by decide +kernel
theorem dX9_sum_8 : decode cX9_sum 8 = .ok (.iload_n 3, 1) := by decide +kernel
theorem dX9_sum_9 : decode cX9_sum 9 = .ok (.if_icmp .gt 105, 3) := by decide +kernel
theorem dX9_sum_12 : decode cX9_sum 12 = .ok (.iload 8, 2) := by decide +kernel
theorem dX9_sum_14 : decode cX9_sum 14 = .ok (.iload_n 3, 1) := by decide +kernel
theorem dX9_sum_15 : decode cX9_sum 15 = .ok (.iconst (-1), 1) := by decide +kernel
theorem dX9_sum_16 : decode cX9_sum 16 = .ok (.ixor, 1) := by decide +kernel
theorem dX9_sum_17 : decode cX9_sum 17 = .ok (.iand, 1) := by decide +kernel
theorem dX9_sum_18 : decode cX9_sum 18 = .ok (.ifCond .ne 90, 3) := by decide +kernel
theorem dX9_sum_21 : decode cX9_sum 21 = .ok (.iload 4, 2) := by decide +kernel
theorem dX9_sum_23 : decode cX9_sum 23 = .ok (.iload 8, 2) := by decide +kernel
theorem dX9_sum_25 : decode cX9_sum 25 = .ok (.invokestatic 173, 3) := by decide +kernel
theorem dX9_sum_28 : decode cX9_sum 28 = .ok (.invokestatic 176, 3) := by decide +kernel
theorem dX9_sum_31 : decode cX9_sum 31 = .ok (.bipush 12, 2) := by decide +kernel
theorem dX9_sum_33 : decode cX9_sum 33 = .ok (.iload 4, 2) := by decide +kernel
theorem dX9_sum_35 : decode cX9_sum 35 = .ok (.isub, 1) := by decide +kernel
theorem dX9_sum_36 : decode cX9_sum 36 = .ok (.iload_n 3, 1) := by decide +kernel
theorem dX9_sum_37 : decode cX9_sum 37 = .ok (.invokestatic 173, 3) := by decide +kernel
theorem dX9_sum_40 : decode cX9_sum 40 = .ok (.iload 8, 2) := by decide +kernel
theorem dX9_sum_42 : decode cX9_sum 42 = .ok (.invokestatic 173, 3) := by decide +kernel
theorem dX9_sum_45 : decode cX9_sum 45 = .ok (.isub, 1) := by decide +kernel
theorem dX9_sum_46 : decode cX9_sum 46 = .ok (.invokestatic 176, 3) := by decide +kernel
theorem dX9_sum_49 : decode cX9_sum 49 = .ok (.lmul, 1) := by decide +kernel
theorem dX9_sum_50 : decode cX9_sum 50 = .ok (.lstore 9, 2) := by decide +kernel
theorem dX9_sum_52 : decode cX9_sum 52 = .ok (.aload_n 0, 1) := by decide +kernel
theorem dX9_sum_53 : decode cX9_sum 53 = .ok (.iload_n 1, 1) := by decide +kernel
theorem dX9_sum_54 : decode cX9_sum 54 = .ok (.iload_n 2, 1) := by decide +kernel
theorem dX9_sum_55 : decode cX9_sum 55 = .ok (.iload 8, 2) := by decide +kernel
theorem dX9_sum_57 : decode cX9_sum 57 = .ok (.iconst 0, 1) := by decide +kernel
theorem dX9_sum_58 : decode cX9_sum 58 = .ok (.invokevirtual 134, 3) := by decide +kernel
theorem dX9_sum_61 : decode cX9_sum 61 = .ok (.istore 11, 2) := by decide +kernel
theorem dX9_sum_63 : decode cX9_sum 63 = .ok (.lload 6, 2) := by decide +kernel
theorem dX9_sum_65 : decode cX9_sum 65 = .ok (.iload 5, 2) := by decide +kernel
theorem dX9_sum_67 : decode cX9_sum 67 = .ok (.ifCond .eq 24, 3) := by decide +kernel
theorem dX9_sum_70 : decode cX9_sum 70 = .ok (.iload 11, 2) := by decide +kernel
theorem dX9_sum_72 : decode cX9_sum 72 = .ok (.sipush 9999, 3) := by decide +kernel
theorem dX9_sum_75 : decode cX9_sum 75 = .ok (.if_icmp .ge 12, 3) := by decide +kernel
theorem dX9_sum_78 : decode cX9_sum 78 = .ok (.lload 9, 2) := by decide +kernel
theorem dX9_sum_80 : decode cX9_sum 80 = .ok (.iload 11, 2) := by decide +kernel
theorem dX9_sum_82 : decode cX9_sum 82 = .ok (.i2l, 1) := by decide +kernel
theorem dX9_sum_83 : decode cX9_sum 83 = .ok (.lmul, 1) := by decide +kernel
theorem dX9_sum_84 : decode cX9_sum 84 = .ok (.goto 21, 3) := by decide +kernel
theorem dX9_sum_87 : decode cX9_sum 87 = .ok (.lconst 0, 1) := by decide +kernel
theorem dX9_sum_88 : decode cX9_sum 88 = .ok (.goto 17, 3) := by decide +kernel
theorem dX9_sum_91 : decode cX9_sum 91 = .ok (.iload 11, 2) := by decide +kernel
theorem dX9_sum_93 : decode cX9_sum 93 = .ok (.sipush 9999, 3) := by decide +kernel
theorem dX9_sum_96 : decode cX9_sum 96 = .ok (.if_icmp .ge 7, 3) := by decide +kernel
theorem dX9_sum_99 : decode cX9_sum 99 = .ok (.lconst 0, 1) := by decide +kernel
theorem dX9_sum_100 : decode cX9_sum 100 = .ok (.goto 5, 3) := by decide +kernel
theorem dX9_sum_103 : decode cX9_sum 103 = .ok (.lload 9, 2) := by decide +kernel
theorem dX9_sum_105 : decode cX9_sum 105 = .ok (.ladd, 1) := by decide +kernel
theorem dX9_sum_106 : decode cX9_sum 106 = .ok (.lstore 6, 2) := by decide +kernel
theorem dX9_sum_108 : decode cX9_sum 108 = .ok (.iinc 8 1, 3) := by decide +kernel
theorem dX9_sum_111 : decode cX9_sum 111 = .ok (.goto (-105), 3) := by decide +kernel
theorem dX9_sum_114 : decode cX9_sum 114 = .ok (.lload 6, 2) := by decide +kernel
theorem dX9_sum_116 : decode cX9_sum 116 = .ok (.lreturn, 1) := by decide +kernel
theorem dX9_expected_0 : decode cX9_expected 0 = .ok (.aload_n 0, 1) := by decide +kernel
theorem dX9_expected_1 : decode cX9_expected 1 = .ok (.iload_n 1, 1) := by decide +kernel
theorem dX9_expected_2 : decode cX9_expected 2 = .ok (.iload_n 2, 1) := by decide +kernel
theorem dX9_expected_3 : decode cX9_expected 3 = .ok (.iload_n 3, 1) := by decide +kernel
theorem dX9_expected_4 : decode cX9_expected 4 = .ok (.iload 4, 2) := by decide +kernel
theorem dX9_expected_6 : decode cX9_expected 6 = .ok (.invokevirtual 180, 3) := by decide +kernel
theorem dX9_expected_9 : decode cX9_expected 9 = .ok (.ifCond .eq 16, 3) := by decide +kernel
theorem dX9_expected_12 : decode cX9_expected 12 = .ok (.aload_n 0, 1) := by decide +kernel
theorem dX9_expected_13 : decode cX9_expected 13 = .ok (.iload_n 1, 1) := by decide +kernel
theorem dX9_expected_14 : decode cX9_expected 14 = .ok (.iload_n 2, 1) := by decide +kernel
theorem dX9_expected_15 : decode cX9_expected 15 = .ok (.iload_n 3, 1) := by decide +kernel
theorem dX9_expected_16 : decode cX9_expected 16 = .ok (.iload 4, 2) := by decide +kernel
theorem dX9_expected_18 : decode cX9_expected 18 = .ok (.iconst 1, 1) := by decide +kernel
theorem dX9_expected_19 : decode cX9_expected 19 = .ok (.invokevirtual 184, 3) := by decide +kernel
theorem dX9_expected_22 : decode cX9_expected 22 = .ok (.goto 6, 3) := by decide +kernel
theorem dX9_expected_25 : decode cX9_expected 25 = .ok (.ldc2_w 188, 3) := by decide +kernel
theorem dX9_expected_28 : decode cX9_expected 28 = .ok (.lreturn, 1) := by decide +kernel
theorem dX9_lost_0 : decode cX9_lost 0 = .ok (.aload_n 0, 1) := by decide +kernel
theorem dX9_lost_1 : decode cX9_lost 1 = .ok (.iload_n 1, 1) := by decide +kernel
theorem dX9_lost_2 : decode cX9_lost 2 = .ok (.iload_n 2, 1) := by decide +kernel
theorem dX9_lost_3 : decode cX9_lost 3 = .ok (.iload_n 3, 1) := by decide +kernel
theorem dX9_lost_4 : decode cX9_lost 4 = .ok (.iload 4, 2) := by decide +kernel
theorem dX9_lost_6 : decode cX9_lost 6 = .ok (.invokevirtual 180, 3) := by decide +kernel
theorem dX9_lost_9 : decode cX9_lost 9 = .ok (.ifCond .eq 16, 3) := by decide +kernel
theorem dX9_lost_12 : decode cX9_lost 12 = .ok (.aload_n 0, 1) := by decide +kernel
theorem dX9_lost_13 : decode cX9_lost 13 = .ok (.iload_n 1, 1) := by decide +kernel
theorem dX9_lost_14 : decode cX9_lost 14 = .ok (.iload_n 2, 1) := by decide +kernel
theorem dX9_lost_15 : decode cX9_lost 15 = .ok (.iload_n 3, 1) := by decide +kernel
theorem dX9_lost_16 : decode cX9_lost 16 = .ok (.iload 4, 2) := by decide +kernel
theorem dX9_lost_18 : decode cX9_lost 18 = .ok (.iconst 0, 1) := by decide +kernel
theorem dX9_lost_19 : decode cX9_lost 19 = .ok (.invokevirtual 184, 3) := by decide +kernel
theorem dX9_lost_22 : decode cX9_lost 22 = .ok (.goto 6, 3) := by decide +kernel
theorem dX9_lost_25 : decode cX9_lost 25 = .ok (.ldc2_w 188, 3) := by decide +kernel
theorem dX9_lost_28 : decode cX9_lost 28 = .ok (.lreturn, 1) := by decide +kernel
theorem dX9_lengths_0 : decode cX9_lengths 0 = .ok (.iconst 0, 1) := by decide +kernel
theorem dX9_lengths_1 : decode cX9_lengths 1 = .ok (.istore_n 1, 1) := by decide +kernel
theorem dX9_lengths_2 : decode cX9_lengths 2 = .ok (.iconst 0, 1) := by decide +kernel
theorem dX9_lengths_3 : decode cX9_lengths 3 = .ok (.istore_n 2, 1) := by decide +kernel
theorem dX9_lengths_4 : decode cX9_lengths 4 = .ok (.iload_n 2, 1) := by decide +kernel
theorem dX9_lengths_5 : decode cX9_lengths 5 = .ok (.aload_n 0, 1) := by decide +kernel
theorem dX9_lengths_6 : decode cX9_lengths 6 = .ok (.getfield 7, 3) := by decide +kernel
theorem dX9_lengths_9 : decode cX9_lengths 9 = .ok (.bipush 80, 2) := by decide +kernel
theorem dX9_lengths_11 : decode cX9_lengths 11 = .ok (.iaload, 1) := by decide +kernel
theorem dX9_lengths_12 : decode cX9_lengths 12 = .ok (.if_icmp .ge 18, 3) := by decide +kernel
theorem dX9_lengths_15 : decode cX9_lengths 15 = .ok (.iload_n 1, 1) := by decide +kernel
theorem dX9_lengths_16 : decode cX9_lengths 16 = .ok (.aload_n 0, 1) := by decide +kernel
theorem dX9_lengths_17 : decode cX9_lengths 17 = .ok (.iload_n 2, 1) := by decide +kernel
theorem dX9_lengths_18 : decode cX9_lengths 18 = .ok (.iconst 2, 1) := by decide +kernel
theorem dX9_lengths_19 : decode cX9_lengths 19 = .ok (.invokevirtual 46, 3) := by decide +kernel
theorem dX9_lengths_22 : decode cX9_lengths 22 = .ok (.iadd, 1) := by decide +kernel
theorem dX9_lengths_23 : decode cX9_lengths 23 = .ok (.istore_n 1, 1) := by decide +kernel
theorem dX9_lengths_24 : decode cX9_lengths 24 = .ok (.iinc 2 1, 3) := by decide +kernel
theorem dX9_lengths_27 : decode cX9_lengths 27 = .ok (.goto (-23), 3) := by decide +kernel
theorem dX9_lengths_30 : decode cX9_lengths 30 = .ok (.iload_n 1, 1) := by decide +kernel
theorem dX9_lengths_31 : decode cX9_lengths 31 = .ok (.ireturn, 1) := by decide +kernel
theorem dX9_reachable_0 : decode cX9_reachable 0 = .ok (.iconst 0, 1) := by decide +kernel
theorem dX9_reachable_1 : decode cX9_reachable 1 = .ok (.istore_n 1, 1) := by decide +kernel
theorem dX9_reachable_2 : decode cX9_reachable 2 = .ok (.iconst 0, 1) := by decide +kernel
theorem dX9_reachable_3 : decode cX9_reachable 3 = .ok (.istore_n 2, 1) := by decide +kernel
theorem dX9_reachable_4 : decode cX9_reachable 4 = .ok (.iload_n 2, 1) := by decide +kernel
theorem dX9_reachable_5 : decode cX9_reachable 5 = .ok (.bipush 64, 2) := by decide +kernel
theorem dX9_reachable_7 : decode cX9_reachable 7 = .ok (.if_icmp .ge 54, 3) := by decide +kernel
theorem dX9_reachable_10 : decode cX9_reachable 10 = .ok (.iload_n 1, 1) := by decide +kernel
theorem dX9_reachable_11 : decode cX9_reachable 11 = .ok (.iload_n 2, 1) := by decide +kernel
theorem dX9_reachable_12 : decode cX9_reachable 12 = .ok (.bipush 8, 2) := by decide +kernel
theorem dX9_reachable_14 : decode cX9_reachable 14 = .ok (.idiv, 1) := by decide +kernel
theorem dX9_reachable_15 : decode cX9_reachable 15 = .ok (.iload_n 2, 1) := by decide +kernel
theorem dX9_reachable_16 : decode cX9_reachable 16 = .ok (.bipush 8, 2) := by decide +kernel
theorem dX9_reachable_18 : decode cX9_reachable 18 = .ok (.irem, 1) := by decide +kernel
theorem dX9_reachable_19 : decode cX9_reachable 19 = .ok (.if_icmp .eq 33, 3) := by decide +kernel
theorem dX9_reachable_22 : decode cX9_reachable 22 = .ok (.aload_n 0, 1) := by decide +kernel
theorem dX9_reachable_23 : decode cX9_reachable 23 = .ok (.iload_n 2, 1) := by decide +kernel
theorem dX9_reachable_24 : decode cX9_reachable 24 = .ok (.bipush 8, 2) := by decide +kernel
theorem dX9_reachable_26 : decode cX9_reachable 26 = .ok (.idiv, 1) := by decide +kernel
theorem dX9_reachable_27 : decode cX9_reachable 27 = .ok (.iload_n 2, 1) := by decide +kernel
theorem dX9_reachable_28 : decode cX9_reachable 28 = .ok (.bipush 8, 2) := by decide +kernel
theorem dX9_reachable_30 : decode cX9_reachable 30 = .ok (.irem, 1) := by decide +kernel
theorem dX9_reachable_31 : decode cX9_reachable 31 = .ok (.aload_n 0, 1) := by decide +kernel
theorem dX9_reachable_32 : decode cX9_reachable 32 = .ok (.getfield 7, 3) := by decide +kernel
theorem dX9_reachable_35 : decode cX9_reachable 35 = .ok (.bipush 81, 2) := by decide +kernel
theorem dX9_reachable_37 : decode cX9_reachable 37 = .ok (.iaload, 1) := by decide +kernel
theorem dX9_reachable_38 : decode cX9_reachable 38 = .ok (.iconst 0, 1) := by decide +kernel
theorem dX9_reachable_39 : decode cX9_reachable 39 = .ok (.invokevirtual 134, 3) := by decide +kernel
theorem dX9_reachable_42 : decode cX9_reachable 42 = .ok (.sipush 9999, 3) := by decide +kernel
theorem dX9_reachable_45 : decode cX9_reachable 45 = .ok (.if_icmp .ge 7, 3) := by decide +kernel
theorem dX9_reachable_48 : decode cX9_reachable 48 = .ok (.iconst 1, 1) := by decide +kernel
theorem dX9_reachable_49 : decode cX9_reachable 49 = .ok (.goto 4, 3) := by decide +kernel
theorem dX9_reachable_52 : decode cX9_reachable 52 = .ok (.iconst 0, 1) := by decide +kernel
theorem dX9_reachable_53 : decode cX9_reachable 53 = .ok (.iadd, 1) := by decide +kernel
theorem dX9_reachable_54 : decode cX9_reachable 54 = .ok (.istore_n 1, 1) := by decide +kernel
theorem dX9_reachable_55 : decode cX9_reachable 55 = .ok (.iinc 2 1, 3) := by decide +kernel
theorem dX9_reachable_58 : decode cX9_reachable 58 = .ok (.goto (-54), 3) := by decide +kernel
theorem dX9_reachable_61 : decode cX9_reachable 61 = .ok (.iload_n 1, 1) := by decide +kernel
theorem dX9_reachable_62 : decode cX9_reachable 62 = .ok (.ireturn, 1) := by decide +kernel
theorem dX9_count_0 : decode cX9_count 0 = .ok (.iload_n 1, 1) := by decide +kernel
theorem dX9_count_1 : decode cX9_count 1 = .ok (.tableswitch 94 0 6 #[43, 51, 62, 74, 79, 84, 89], 43) := by decide +kernel
theorem dX9_count_44 : decode cX9_count 44 = .ok (.aload_n 0, 1) := by decide +kernel
theorem dX9_count_45 : decode cX9_count 45 = .ok (.getfield 7, 3) := by decide +kernel
theorem dX9_count_48 : decode cX9_count 48 = .ok (.bipush 80, 2) := by decide +kernel
theorem dX9_count_50 : decode cX9_count 50 = .ok (.iaload, 1) := by decide +kernel
theorem dX9_count_51 : decode cX9_count 51 = .ok (.ireturn, 1) := by decide +kernel
theorem dX9_count_52 : decode cX9_count 52 = .ok (.aload_n 0, 1) := by decide +kernel
theorem dX9_count_53 : decode cX9_count 53 = .ok (.getfield 7, 3) := by decide +kernel
theorem dX9_count_56 : decode cX9_count 56 = .ok (.bipush 81, 2) := by decide +kernel
theorem dX9_count_58 : decode cX9_count 58 = .ok (.iaload, 1) := by decide +kernel
theorem dX9_count_59 : decode cX9_count 59 = .ok (.invokestatic 173, 3) := by decide +kernel
theorem dX9_count_62 : decode cX9_count 62 = .ok (.ireturn, 1) := by decide +kernel
theorem dX9_count_63 : decode cX9_count 63 = .ok (.aload_n 0, 1) := by decide +kernel
theorem dX9_count_64 : decode cX9_count 64 = .ok (.aload_n 0, 1) := by decide +kernel
theorem dX9_count_65 : decode cX9_count 65 = .ok (.getfield 7, 3) := by decide +kernel
theorem dX9_count_68 : decode cX9_count 68 = .ok (.bipush 81, 2) := by decide +kernel
theorem dX9_count_70 : decode cX9_count 70 = .ok (.iaload, 1) := by decide +kernel
theorem dX9_count_71 : decode cX9_count 71 = .ok (.invokevirtual 118, 3) := by decide +kernel
theorem dX9_count_74 : decode cX9_count 74 = .ok (.ireturn, 1) := by decide +kernel
theorem dX9_count_75 : decode cX9_count 75 = .ok (.aload_n 0, 1) := by decide +kernel
theorem dX9_count_76 : decode cX9_count 76 = .ok (.getfield 50, 3) := by decide +kernel
theorem dX9_count_79 : decode cX9_count 79 = .ok (.ireturn, 1) := by decide +kernel
theorem dX9_count_80 : decode cX9_count 80 = .ok (.aload_n 0, 1) := by decide +kernel
theorem dX9_count_81 : decode cX9_count 81 = .ok (.getfield 70, 3) := by decide +kernel
theorem dX9_count_84 : decode cX9_count 84 = .ok (.ireturn, 1) := by decide +kernel
theorem dX9_count_85 : decode cX9_count 85 = .ok (.aload_n 0, 1) := by decide +kernel
theorem dX9_count_86 : decode cX9_count 86 = .ok (.invokevirtual 190, 3) := by decide +kernel
theorem dX9_count_89 : decode cX9_count 89 = .ok (.ireturn, 1) := by decide +kernel
theorem dX9_count_90 : decode cX9_count 90 = .ok (.aload_n 0, 1) := by decide +kernel
theorem dX9_count_91 : decode cX9_count 91 = .ok (.invokevirtual 192, 3) := by decide +kernel
theorem dX9_count_94 : decode cX9_count 94 = .ok (.ireturn, 1) := by decide +kernel
theorem dX9_count_95 : decode cX9_count 95 = .ok (.bipush (-2), 2) := by decide +kernel
theorem dX9_count_97 : decode cX9_count 97 = .ok (.ireturn, 1) := by decide +kernel
theorem dX9_mixes_0 : decode cX9_mixes 0 = .ok (.aload_n 0, 1) := by decide +kernel
theorem dX9_mixes_1 : decode cX9_mixes 1 = .ok (.ldc2_w 195, 3) := by decide +kernel
theorem dX9_mixes_4 : decode cX9_mixes 4 = .ok (.aload_n 0, 1) := by decide +kernel
theorem dX9_mixes_5 : decode cX9_mixes 5 = .ok (.getfield 197, 3) := by decide +kernel
theorem dX9_mixes_8 : decode cX9_mixes 8 = .ok (.lmul, 1) := by decide +kernel
theorem dX9_mixes_9 : decode cX9_mixes 9 = .ok (.iload_n 1, 1) := by decide +kernel
theorem dX9_mixes_10 : decode cX9_mixes 10 = .ok (.i2l, 1) := by decide +kernel
theorem dX9_mixes_11 : decode cX9_mixes 11 = .ok (.ladd, 1) := by decide +kernel
theorem dX9_mixes_12 : decode cX9_mixes 12 = .ok (.putfield 197, 3) := by decide +kernel
theorem dX9_mixes_15 : decode cX9_mixes 15 = .ok (.return_, 1) := by decide +kernel
theorem dX9_digest_0 : decode cX9_digest 0 = .ok (.aload_n 0, 1) := by decide +kernel
theorem dX9_digest_1 : decode cX9_digest 1 = .ok (.ldc2_w 201, 3) := by decide +kernel
theorem dX9_digest_4 : decode cX9_digest 4 = .ok (.putfield 197, 3) := by decide +kernel
theorem dX9_digest_7 : decode cX9_digest 7 = .ok (.iconst 0, 1) := by decide +kernel
theorem dX9_digest_8 : decode cX9_digest 8 = .ok (.istore_n 1, 1) := by decide +kernel
theorem dX9_digest_9 : decode cX9_digest 9 = .ok (.iload_n 1, 1) := by decide +kernel
theorem dX9_digest_10 : decode cX9_digest 10 = .ok (.bipush 7, 2) := by decide +kernel
theorem dX9_digest_12 : decode cX9_digest 12 = .ok (.if_icmp .ge 18, 3) := by decide +kernel
theorem dX9_digest_15 : decode cX9_digest 15 = .ok (.aload_n 0, 1) := by decide +kernel
theorem dX9_digest_16 : decode cX9_digest 16 = .ok (.aload_n 0, 1) := by decide +kernel
theorem dX9_digest_17 : decode cX9_digest 17 = .ok (.iload_n 1, 1) := by decide +kernel
theorem dX9_digest_18 : decode cX9_digest 18 = .ok (.invokevirtual 203, 3) := by decide +kernel
theorem dX9_digest_21 : decode cX9_digest 21 = .ok (.invokevirtual 206, 3) := by decide +kernel
theorem dX9_digest_24 : decode cX9_digest 24 = .ok (.iinc 1 1, 3) := by decide +kernel
theorem dX9_digest_27 : decode cX9_digest 27 = .ok (.goto (-18), 3) := by decide +kernel
theorem dX9_digest_30 : decode cX9_digest 30 = .ok (.iconst 0, 1) := by decide +kernel
theorem dX9_digest_31 : decode cX9_digest 31 = .ok (.istore_n 1, 1) := by decide +kernel
theorem dX9_digest_32 : decode cX9_digest 32 = .ok (.iload_n 1, 1) := by decide +kernel
theorem dX9_digest_33 : decode cX9_digest 33 = .ok (.bipush 6, 2) := by decide +kernel
theorem dX9_digest_35 : decode cX9_digest 35 = .ok (.aload_n 0, 1) := by decide +kernel
theorem dX9_digest_36 : decode cX9_digest 36 = .ok (.getfield 7, 3) := by decide +kernel
theorem dX9_digest_39 : decode cX9_digest 39 = .ok (.bipush 80, 2) := by decide +kernel
theorem dX9_digest_41 : decode cX9_digest 41 = .ok (.iaload, 1) := by decide +kernel
theorem dX9_digest_42 : decode cX9_digest 42 = .ok (.imul, 1) := by decide +kernel
theorem dX9_digest_43 : decode cX9_digest 43 = .ok (.if_icmp .ge 25, 3) := by decide +kernel
theorem dX9_digest_46 : decode cX9_digest 46 = .ok (.aload_n 0, 1) := by decide +kernel
theorem dX9_digest_47 : decode cX9_digest 47 = .ok (.aload_n 0, 1) := by decide +kernel
theorem dX9_digest_48 : decode cX9_digest 48 = .ok (.iload_n 1, 1) := by decide +kernel
theorem dX9_digest_49 : decode cX9_digest 49 = .ok (.bipush 6, 2) := by decide +kernel
theorem dX9_digest_51 : decode cX9_digest 51 = .ok (.idiv, 1) := by decide +kernel
theorem dX9_digest_52 : decode cX9_digest 52 = .ok (.iload_n 1, 1) := by decide +kernel
theorem dX9_digest_53 : decode cX9_digest 53 = .ok (.bipush 6, 2) := by decide +kernel
theorem dX9_digest_55 : decode cX9_digest 55 = .ok (.irem, 1) := by decide +kernel
theorem dX9_digest_56 : decode cX9_digest 56 = .ok (.invokevirtual 209, 3) := by decide +kernel
theorem dX9_digest_59 : decode cX9_digest 59 = .ok (.invokevirtual 206, 3) := by decide +kernel
theorem dX9_digest_62 : decode cX9_digest 62 = .ok (.iinc 1 1, 3) := by decide +kernel
theorem dX9_digest_65 : decode cX9_digest 65 = .ok (.goto (-33), 3) := by decide +kernel
theorem dX9_digest_68 : decode cX9_digest 68 = .ok (.iconst 0, 1) := by decide +kernel
theorem dX9_digest_69 : decode cX9_digest 69 = .ok (.istore_n 1, 1) := by decide +kernel
theorem dX9_digest_70 : decode cX9_digest 70 = .ok (.iload_n 1, 1) := by decide +kernel
theorem dX9_digest_71 : decode cX9_digest 71 = .ok (.bipush 64, 2) := by decide +kernel
theorem dX9_digest_73 : decode cX9_digest 73 = .ok (.if_icmp .ge 25, 3) := by decide +kernel
theorem dX9_digest_76 : decode cX9_digest 76 = .ok (.aload_n 0, 1) := by decide +kernel
theorem dX9_digest_77 : decode cX9_digest 77 = .ok (.aload_n 0, 1) := by decide +kernel
theorem dX9_digest_78 : decode cX9_digest 78 = .ok (.iload_n 1, 1) := by decide +kernel
theorem dX9_digest_79 : decode cX9_digest 79 = .ok (.bipush 8, 2) := by decide +kernel
theorem dX9_digest_81 : decode cX9_digest 81 = .ok (.idiv, 1) := by decide +kernel
theorem dX9_digest_82 : decode cX9_digest 82 = .ok (.iload_n 1, 1) := by decide +kernel
theorem dX9_digest_83 : decode cX9_digest 83 = .ok (.bipush 8, 2) := by decide +kernel
theorem dX9_digest_85 : decode cX9_digest 85 = .ok (.irem, 1) := by decide +kernel
theorem dX9_digest_86 : decode cX9_digest 86 = .ok (.invokevirtual 212, 3) := by decide +kernel
theorem dX9_digest_89 : decode cX9_digest 89 = .ok (.invokevirtual 206, 3) := by decide +kernel
theorem dX9_digest_92 : decode cX9_digest 92 = .ok (.iinc 1 1, 3) := by decide +kernel
theorem dX9_digest_95 : decode cX9_digest 95 = .ok (.goto (-25), 3) := by decide +kernel
theorem dX9_digest_98 : decode cX9_digest 98 = .ok (.aload_n 0, 1) := by decide +kernel
theorem dX9_digest_99 : decode cX9_digest 99 = .ok (.aload_n 0, 1) := by decide +kernel
theorem dX9_digest_100 : decode cX9_digest 100 = .ok (.getfield 16, 3) := by decide +kernel
theorem dX9_digest_103 : decode cX9_digest 103 = .ok (.invokevirtual 206, 3) := by decide +kernel
theorem dX9_digest_106 : decode cX9_digest 106 = .ok (.iconst 0, 1) := by decide +kernel
theorem dX9_digest_107 : decode cX9_digest 107 = .ok (.istore_n 1, 1) := by decide +kernel
theorem dX9_digest_108 : decode cX9_digest 108 = .ok (.iload_n 1, 1) := by decide +kernel
theorem dX9_digest_109 : decode cX9_digest 109 = .ok (.aload_n 0, 1) := by decide +kernel
theorem dX9_digest_110 : decode cX9_digest 110 = .ok (.getfield 70, 3) := by decide +kernel
theorem dX9_digest_113 : decode cX9_digest 113 = .ok (.if_icmp .ge 19, 3) := by decide +kernel
theorem dX9_digest_116 : decode cX9_digest 116 = .ok (.aload_n 0, 1) := by decide +kernel
theorem dX9_digest_117 : decode cX9_digest 117 = .ok (.aload_n 0, 1) := by decide +kernel
theorem dX9_digest_118 : decode cX9_digest 118 = .ok (.getfield 20, 3) := by decide +kernel
theorem dX9_digest_121 : decode cX9_digest 121 = .ok (.iload_n 1, 1) := by decide +kernel
theorem dX9_digest_122 : decode cX9_digest 122 = .ok (.iaload, 1) := by decide +kernel
theorem dX9_digest_123 : decode cX9_digest 123 = .ok (.invokevirtual 206, 3) := by decide +kernel
theorem dX9_digest_126 : decode cX9_digest 126 = .ok (.iinc 1 1, 3) := by decide +kernel
theorem dX9_digest_129 : decode cX9_digest 129 = .ok (.goto (-21), 3) := by decide +kernel
theorem dX9_digest_132 : decode cX9_digest 132 = .ok (.aload_n 0, 1) := by decide +kernel
theorem dX9_digest_133 : decode cX9_digest 133 = .ok (.getfield 197, 3) := by decide +kernel
theorem dX9_digest_136 : decode cX9_digest 136 = .ok (.lreturn, 1) := by decide +kernel
theorem dJ6_bitCount_0f7a4_0 : decode cJ6_bitCount_0f7a4 0 = .ok (.iload_n 0, 1) := by decide +kernel
theorem dJ6_bitCount_0f7a4_1 : decode cJ6_bitCount_0f7a4 1 = .ok (.iload_n 0, 1) := by decide +kernel
theorem dJ6_bitCount_0f7a4_2 : decode cJ6_bitCount_0f7a4 2 = .ok (.iconst 1, 1) := by decide +kernel
theorem dJ6_bitCount_0f7a4_3 : decode cJ6_bitCount_0f7a4 3 = .ok (.iushr, 1) := by decide +kernel
theorem dJ6_bitCount_0f7a4_4 : decode cJ6_bitCount_0f7a4 4 = .ok (.ldc_w 265, 3) := by decide +kernel
theorem dJ6_bitCount_0f7a4_7 : decode cJ6_bitCount_0f7a4 7 = .ok (.iand, 1) := by decide +kernel
theorem dJ6_bitCount_0f7a4_8 : decode cJ6_bitCount_0f7a4 8 = .ok (.isub, 1) := by decide +kernel
theorem dJ6_bitCount_0f7a4_9 : decode cJ6_bitCount_0f7a4 9 = .ok (.istore_n 0, 1) := by decide +kernel
theorem dJ6_bitCount_0f7a4_10 : decode cJ6_bitCount_0f7a4 10 = .ok (.iload_n 0, 1) := by decide +kernel
theorem dJ6_bitCount_0f7a4_11 : decode cJ6_bitCount_0f7a4 11 = .ok (.ldc_w 266, 3) := by decide +kernel
theorem dJ6_bitCount_0f7a4_14 : decode cJ6_bitCount_0f7a4 14 = .ok (.iand, 1) := by decide +kernel
theorem dJ6_bitCount_0f7a4_15 : decode cJ6_bitCount_0f7a4 15 = .ok (.iload_n 0, 1) := by decide +kernel
theorem dJ6_bitCount_0f7a4_16 : decode cJ6_bitCount_0f7a4 16 = .ok (.iconst 2, 1) := by decide +kernel
theorem dJ6_bitCount_0f7a4_17 : decode cJ6_bitCount_0f7a4 17 = .ok (.iushr, 1) := by decide +kernel
theorem dJ6_bitCount_0f7a4_18 : decode cJ6_bitCount_0f7a4 18 = .ok (.ldc_w 266, 3) := by decide +kernel
theorem dJ6_bitCount_0f7a4_21 : decode cJ6_bitCount_0f7a4 21 = .ok (.iand, 1) := by decide +kernel
theorem dJ6_bitCount_0f7a4_22 : decode cJ6_bitCount_0f7a4 22 = .ok (.iadd, 1) := by decide +kernel
theorem dJ6_bitCount_0f7a4_23 : decode cJ6_bitCount_0f7a4 23 = .ok (.istore_n 0, 1) := by decide +kernel
theorem dJ6_bitCount_0f7a4_24 : decode cJ6_bitCount_0f7a4 24 = .ok (.iload_n 0, 1) := by decide +kernel
theorem dJ6_bitCount_0f7a4_25 : decode cJ6_bitCount_0f7a4 25 = .ok (.iload_n 0, 1) := by decide +kernel
theorem dJ6_bitCount_0f7a4_26 : decode cJ6_bitCount_0f7a4 26 = .ok (.iconst 4, 1) := by decide +kernel
theorem dJ6_bitCount_0f7a4_27 : decode cJ6_bitCount_0f7a4 27 = .ok (.iushr, 1) := by decide +kernel
theorem dJ6_bitCount_0f7a4_28 : decode cJ6_bitCount_0f7a4 28 = .ok (.iadd, 1) := by decide +kernel
theorem dJ6_bitCount_0f7a4_29 : decode cJ6_bitCount_0f7a4 29 = .ok (.ldc_w 267, 3) := by decide +kernel
theorem dJ6_bitCount_0f7a4_32 : decode cJ6_bitCount_0f7a4 32 = .ok (.iand, 1) := by decide +kernel
theorem dJ6_bitCount_0f7a4_33 : decode cJ6_bitCount_0f7a4 33 = .ok (.istore_n 0, 1) := by decide +kernel
theorem dJ6_bitCount_0f7a4_34 : decode cJ6_bitCount_0f7a4 34 = .ok (.iload_n 0, 1) := by decide +kernel
theorem dJ6_bitCount_0f7a4_35 : decode cJ6_bitCount_0f7a4 35 = .ok (.iload_n 0, 1) := by decide +kernel
theorem dJ6_bitCount_0f7a4_36 : decode cJ6_bitCount_0f7a4 36 = .ok (.bipush 8, 2) := by decide +kernel
theorem dJ6_bitCount_0f7a4_38 : decode cJ6_bitCount_0f7a4 38 = .ok (.iushr, 1) := by decide +kernel
theorem dJ6_bitCount_0f7a4_39 : decode cJ6_bitCount_0f7a4 39 = .ok (.iadd, 1) := by decide +kernel
theorem dJ6_bitCount_0f7a4_40 : decode cJ6_bitCount_0f7a4 40 = .ok (.istore_n 0, 1) := by decide +kernel
theorem dJ6_bitCount_0f7a4_41 : decode cJ6_bitCount_0f7a4 41 = .ok (.iload_n 0, 1) := by decide +kernel
theorem dJ6_bitCount_0f7a4_42 : decode cJ6_bitCount_0f7a4 42 = .ok (.iload_n 0, 1) := by decide +kernel
theorem dJ6_bitCount_0f7a4_43 : decode cJ6_bitCount_0f7a4 43 = .ok (.bipush 16, 2) := by decide +kernel
theorem dJ6_bitCount_0f7a4_45 : decode cJ6_bitCount_0f7a4 45 = .ok (.iushr, 1) := by decide +kernel
theorem dJ6_bitCount_0f7a4_46 : decode cJ6_bitCount_0f7a4 46 = .ok (.iadd, 1) := by decide +kernel
theorem dJ6_bitCount_0f7a4_47 : decode cJ6_bitCount_0f7a4 47 = .ok (.istore_n 0, 1) := by decide +kernel
theorem dJ6_bitCount_0f7a4_48 : decode cJ6_bitCount_0f7a4 48 = .ok (.iload_n 0, 1) := by decide +kernel
theorem dJ6_bitCount_0f7a4_49 : decode cJ6_bitCount_0f7a4 49 = .ok (.bipush 63, 2) := by decide +kernel
theorem dJ6_bitCount_0f7a4_51 : decode cJ6_bitCount_0f7a4 51 = .ok (.iand, 1) := by decide +kernel
theorem dJ6_bitCount_0f7a4_52 : decode cJ6_bitCount_0f7a4 52 = .ok (.ireturn, 1) := by decide +kernel
theorem dJ9_min_7cf53_0 : decode cJ9_min_7cf53 0 = .ok (.iload_n 0, 1) := by decide +kernel
theorem dJ9_min_7cf53_1 : decode cJ9_min_7cf53 1 = .ok (.iload_n 1, 1) := by decide +kernel
theorem dJ9_min_7cf53_2 : decode cJ9_min_7cf53 2 = .ok (.if_icmp .gt 7, 3) := by decide +kernel
theorem dJ9_min_7cf53_5 : decode cJ9_min_7cf53 5 = .ok (.iload_n 0, 1) := by decide +kernel
theorem dJ9_min_7cf53_6 : decode cJ9_min_7cf53 6 = .ok (.goto 4, 3) := by decide +kernel
theorem dJ9_min_7cf53_9 : decode cJ9_min_7cf53 9 = .ok (.iload_n 1, 1) := by decide +kernel
theorem dJ9_min_7cf53_10 : decode cJ9_min_7cf53 10 = .ok (.ireturn, 1) := by decide +kernel
theorem dJ7_fill_53178_0 : decode cJ7_fill_53178 0 = .ok (.iconst 0, 1) := by decide +kernel
theorem dJ7_fill_53178_1 : decode cJ7_fill_53178 1 = .ok (.istore_n 2, 1) := by decide +kernel
theorem dJ7_fill_53178_2 : decode cJ7_fill_53178 2 = .ok (.aload_n 0, 1) := by decide +kernel
theorem dJ7_fill_53178_3 : decode cJ7_fill_53178 3 = .ok (.arraylength, 1) := by decide +kernel
theorem dJ7_fill_53178_4 : decode cJ7_fill_53178 4 = .ok (.istore_n 3, 1) := by decide +kernel
theorem dJ7_fill_53178_5 : decode cJ7_fill_53178 5 = .ok (.iload_n 2, 1) := by decide +kernel
theorem dJ7_fill_53178_6 : decode cJ7_fill_53178 6 = .ok (.iload_n 3, 1) := by decide +kernel
theorem dJ7_fill_53178_7 : decode cJ7_fill_53178 7 = .ok (.if_icmp .ge 13, 3) := by decide +kernel
theorem dJ7_fill_53178_10 : decode cJ7_fill_53178 10 = .ok (.aload_n 0, 1) := by decide +kernel
theorem dJ7_fill_53178_11 : decode cJ7_fill_53178 11 = .ok (.iload_n 2, 1) := by decide +kernel
theorem dJ7_fill_53178_12 : decode cJ7_fill_53178 12 = .ok (.iload_n 1, 1) := by decide +kernel
theorem dJ7_fill_53178_13 : decode cJ7_fill_53178 13 = .ok (.iastore, 1) := by decide +kernel
theorem dJ7_fill_53178_14 : decode cJ7_fill_53178 14 = .ok (.iinc 2 1, 3) := by decide +kernel
theorem dJ7_fill_53178_17 : decode cJ7_fill_53178 17 = .ok (.goto (-12), 3) := by decide +kernel
theorem dJ7_fill_53178_20 : decode cJ7_fill_53178 20 = .ok (.return_, 1) := by decide +kernel
