/-! decode rows -/
theorem dX9_forth_0 : decode cX9_forth 0 = .ok (.aload_n 0, 1) := by decide +kernel
theorem dX9_forth_1 : decode cX9_forth 1 = .ok (.iload_n 1, 1) := by decide +kernel
theorem dX9_forth_2 : decode cX9_forth 2 = .ok (.invokevirtual 147, 3) := by decide +kernel
theorem dX9_forth_5 : decode cX9_forth 5 = .ok (.istore_n 3, 1) := by decide +kernel
theorem dX9_forth_6 : decode cX9_forth 6 = .ok (.iload_n 2, 1) := by decide +kernel
theorem dX9_forth_7 : decode cX9_forth 7 = .ok (.istore 4, 2) := by decide +kernel
theorem dX9_forth_9 : decode cX9_forth 9 = .ok (.iload 4, 2) := by decide +kernel
theorem dX9_forth_11 : decode cX9_forth 11 = .ok (.aload_n 0, 1) := by decide +kernel
theorem dX9_forth_12 : decode cX9_forth 12 = .ok (.getfield 7, 3) := by decide +kernel
theorem dX9_forth_15 : decode cX9_forth 15 = .ok (.bipush 80, 2) := by decide +kernel
theorem dX9_forth_17 : decode cX9_forth 17 = .ok (.iaload, 1) := by decide +kernel
theorem dX9_forth_18 : decode cX9_forth 18 = .ok (.if_icmp .ge 131, 3) := by decide +kernel
theorem dX9_forth_21 : decode cX9_forth 21 = .ok (.aload_n 0, 1) := by decide +kernel
theorem dX9_forth_22 : decode cX9_forth 22 = .ok (.iload 4, 2) := by decide +kernel
theorem dX9_forth_24 : decode cX9_forth 24 = .ok (.iconst 0, 1) := by decide +kernel
theorem dX9_forth_25 : decode cX9_forth 25 = .ok (.invokevirtual 46, 3) := by decide +kernel
theorem dX9_forth_28 : decode cX9_forth 28 = .ok (.iload_n 3, 1) := by decide +kernel
theorem dX9_forth_29 : decode cX9_forth 29 = .ok (.if_icmp .ne 43, 3) := by decide +kernel
theorem dX9_forth_32 : decode cX9_forth 32 = .ok (.aload_n 0, 1) := by decide +kernel
theorem dX9_forth_33 : decode cX9_forth 33 = .ok (.iload 4, 2) := by decide +kernel
theorem dX9_forth_35 : decode cX9_forth 35 = .ok (.aload_n 0, 1) := by decide +kernel
theorem dX9_forth_36 : decode cX9_forth 36 = .ok (.getfield 7, 3) := by decide +kernel
theorem dX9_forth_39 : decode cX9_forth 39 = .ok (.bipush 81, 2) := by decide +kernel
theorem dX9_forth_41 : decode cX9_forth 41 = .ok (.iaload, 1) := by decide +kernel
theorem dX9_forth_42 : decode cX9_forth 42 = .ok (.invokevirtual 124, 3) := by decide +kernel
theorem dX9_forth_45 : decode cX9_forth 45 = .ok (.sipush 9999, 3) := by decide +kernel
theorem dX9_forth_48 : decode cX9_forth 48 = .ok (.if_icmp .ge 24, 3) := by decide +kernel
theorem dX9_forth_51 : decode cX9_forth 51 = .ok (.aload_n 0, 1) := by decide +kernel
theorem dX9_forth_52 : decode cX9_forth 52 = .ok (.getfield 144, 3) := by decide +kernel
theorem dX9_forth_55 : decode cX9_forth 55 = .ok (.aload_n 0, 1) := by decide +kernel
theorem dX9_forth_56 : decode cX9_forth 56 = .ok (.iload 4, 2) := by decide +kernel
theorem dX9_forth_58 : decode cX9_forth 58 = .ok (.iconst 1, 1) := by decide +kernel
theorem dX9_forth_59 : decode cX9_forth 59 = .ok (.invokevirtual 46, 3) := by decide +kernel
theorem dX9_forth_62 : decode cX9_forth 62 = .ok (.ishr, 1) := by decide +kernel
theorem dX9_forth_63 : decode cX9_forth 63 = .ok (.iconst 1, 1) := by decide +kernel
theorem dX9_forth_64 : decode cX9_forth 64 = .ok (.iand, 1) := by decide +kernel
theorem dX9_forth_65 : decode cX9_forth 65 = .ok (.ifCond .ne 7, 3) := by decide +kernel
theorem dX9_forth_68 : decode cX9_forth 68 = .ok (.iconst 1, 1) := by decide +kernel
theorem dX9_forth_69 : decode cX9_forth 69 = .ok (.goto 4, 3) := by decide +kernel
theorem dX9_forth_72 : decode cX9_forth 72 = .ok (.iconst 0, 1) := by decide +kernel
theorem dX9_forth_73 : decode cX9_forth 73 = .ok (.istore 5, 2) := by decide +kernel
theorem dX9_forth_75 : decode cX9_forth 75 = .ok (.iload 5, 2) := by decide +kernel
theorem dX9_forth_77 : decode cX9_forth 77 = .ok (.ifCond .eq 66, 3) := by decide +kernel
theorem dX9_forth_80 : decode cX9_forth 80 = .ok (.aload_n 0, 1) := by decide +kernel
theorem dX9_forth_81 : decode cX9_forth 81 = .ok (.getfield 29, 3) := by decide +kernel
theorem dX9_forth_84 : decode cX9_forth 84 = .ok (.aload_n 0, 1) := by decide +kernel
theorem dX9_forth_85 : decode cX9_forth 85 = .ok (.getfield 138, 3) := by decide +kernel
theorem dX9_forth_88 : decode cX9_forth 88 = .ok (.iload 4, 2) := by decide +kernel
theorem dX9_forth_90 : decode cX9_forth 90 = .ok (.iastore, 1) := by decide +kernel
theorem dX9_forth_91 : decode cX9_forth 91 = .ok (.aload_n 0, 1) := by decide +kernel
theorem dX9_forth_92 : decode cX9_forth 92 = .ok (.dup, 1) := by decide +kernel
theorem dX9_forth_93 : decode cX9_forth 93 = .ok (.getfield 138, 3) := by decide +kernel
theorem dX9_forth_96 : decode cX9_forth 96 = .ok (.iconst 1, 1) := by decide +kernel
theorem dX9_forth_97 : decode cX9_forth 97 = .ok (.iadd, 1) := by decide +kernel
theorem dX9_forth_98 : decode cX9_forth 98 = .ok (.putfield 138, 3) := by decide +kernel
theorem dX9_forth_101 : decode cX9_forth 101 = .ok (.aload_n 0, 1) := by decide +kernel
theorem dX9_forth_102 : decode cX9_forth 102 = .ok (.dup, 1) := by decide +kernel
theorem dX9_forth_103 : decode cX9_forth 103 = .ok (.getfield 141, 3) := by decide +kernel
theorem dX9_forth_106 : decode cX9_forth 106 = .ok (.aload_n 0, 1) := by decide +kernel
theorem dX9_forth_107 : decode cX9_forth 107 = .ok (.iload 4, 2) := by decide +kernel
theorem dX9_forth_109 : decode cX9_forth 109 = .ok (.aload_n 0, 1) := by decide +kernel
theorem dX9_forth_110 : decode cX9_forth 110 = .ok (.getfield 7, 3) := by decide +kernel
theorem dX9_forth_113 : decode cX9_forth 113 = .ok (.bipush 81, 2) := by decide +kernel
theorem dX9_forth_115 : decode cX9_forth 115 = .ok (.iaload, 1) := by decide +kernel
theorem dX9_forth_116 : decode cX9_forth 116 = .ok (.invokevirtual 124, 3) := by decide +kernel
theorem dX9_forth_119 : decode cX9_forth 119 = .ok (.iadd, 1) := by decide +kernel
theorem dX9_forth_120 : decode cX9_forth 120 = .ok (.putfield 141, 3) := by decide +kernel
theorem dX9_forth_123 : decode cX9_forth 123 = .ok (.aload_n 0, 1) := by decide +kernel
theorem dX9_forth_124 : decode cX9_forth 124 = .ok (.dup, 1) := by decide +kernel
theorem dX9_forth_125 : decode cX9_forth 125 = .ok (.getfield 144, 3) := by decide +kernel
theorem dX9_forth_128 : decode cX9_forth 128 = .ok (.iconst 1, 1) := by decide +kernel
theorem dX9_forth_129 : decode cX9_forth 129 = .ok (.aload_n 0, 1) := by decide +kernel
theorem dX9_forth_130 : decode cX9_forth 130 = .ok (.iload 4, 2) := by decide +kernel
theorem dX9_forth_132 : decode cX9_forth 132 = .ok (.iconst 1, 1) := by decide +kernel
theorem dX9_forth_133 : decode cX9_forth 133 = .ok (.invokevirtual 46, 3) := by decide +kernel
theorem dX9_forth_136 : decode cX9_forth 136 = .ok (.ishl, 1) := by decide +kernel
theorem dX9_forth_137 : decode cX9_forth 137 = .ok (.ior, 1) := by decide +kernel
theorem dX9_forth_138 : decode cX9_forth 138 = .ok (.putfield 144, 3) := by decide +kernel
theorem dX9_forth_141 : decode cX9_forth 141 = .ok (.iconst 1, 1) := by decide +kernel
theorem dX9_forth_142 : decode cX9_forth 142 = .ok (.ireturn, 1) := by decide +kernel
theorem dX9_forth_143 : decode cX9_forth 143 = .ok (.iinc 4 1, 3) := by decide +kernel
theorem dX9_forth_146 : decode cX9_forth 146 = .ok (.goto (-137), 3) := by decide +kernel
theorem dX9_forth_149 : decode cX9_forth 149 = .ok (.iconst 0, 1) := by decide +kernel
theorem dX9_forth_150 : decode cX9_forth 150 = .ok (.ireturn, 1) := by decide +kernel
theorem dX9_nextPath_0 : decode cX9_nextPath 0 = .ok (.iconst 0, 1) := by decide +kernel
theorem dX9_nextPath_1 : decode cX9_nextPath 1 = .ok (.istore 4, 2) := by decide +kernel
theorem dX9_nextPath_3 : decode cX9_nextPath 3 = .ok (.iload_n 3, 1) := by decide +kernel
theorem dX9_nextPath_4 : decode cX9_nextPath 4 = .ok (.ifCond .eq 16, 3) := by decide +kernel
theorem dX9_nextPath_7 : decode cX9_nextPath 7 = .ok (.aload_n 0, 1) := by decide +kernel
theorem dX9_nextPath_8 : decode cX9_nextPath 8 = .ok (.iload_n 1, 1) := by decide +kernel
theorem dX9_nextPath_9 : decode cX9_nextPath 9 = .ok (.invokevirtual 147, 3) := by decide +kernel
theorem dX9_nextPath_12 : decode cX9_nextPath 12 = .ok (.iload_n 2, 1) := by decide +kernel
theorem dX9_nextPath_13 : decode cX9_nextPath 13 = .ok (.if_icmp .eq 7, 3) := by decide +kernel
theorem dX9_nextPath_16 : decode cX9_nextPath 16 = .ok (.iconst 1, 1) := by decide +kernel
theorem dX9_nextPath_17 : decode cX9_nextPath 17 = .ok (.goto 4, 3) := by decide +kernel
theorem dX9_nextPath_20 : decode cX9_nextPath 20 = .ok (.iconst 0, 1) := by decide +kernel
theorem dX9_nextPath_21 : decode cX9_nextPath 21 = .ok (.istore 5, 2) := by decide +kernel
theorem dX9_nextPath_23 : decode cX9_nextPath 23 = .ok (.iload_n 3, 1) := by decide +kernel
theorem dX9_nextPath_24 : decode cX9_nextPath 24 = .ok (.ifCond .eq 10, 3) := by decide +kernel
theorem dX9_nextPath_27 : decode cX9_nextPath 27 = .ok (.iload 5, 2) := by decide +kernel
theorem dX9_nextPath_29 : decode cX9_nextPath 29 = .ok (.ifCond .ne 5, 3) := by decide +kernel
theorem dX9_nextPath_32 : decode cX9_nextPath 32 = .ok (.iconst 1, 1) := by decide +kernel
theorem dX9_nextPath_33 : decode cX9_nextPath 33 = .ok (.ireturn, 1) := by decide +kernel
theorem dX9_nextPath_34 : decode cX9_nextPath 34 = .ok (.iload 5, 2) := by decide +kernel
theorem dX9_nextPath_36 : decode cX9_nextPath 36 = .ok (.ifCond .ne 31, 3) := by decide +kernel
theorem dX9_nextPath_39 : decode cX9_nextPath 39 = .ok (.aload_n 0, 1) := by decide +kernel
theorem dX9_nextPath_40 : decode cX9_nextPath 40 = .ok (.getfield 138, 3) := by decide +kernel
theorem dX9_nextPath_43 : decode cX9_nextPath 43 = .ok (.ifCond .ne 5, 3) := by decide +kernel
theorem dX9_nextPath_46 : decode cX9_nextPath 46 = .ok (.iconst 0, 1) := by decide +kernel
theorem dX9_nextPath_47 : decode cX9_nextPath 47 = .ok (.ireturn, 1) := by decide +kernel
theorem dX9_nextPath_48 : decode cX9_nextPath 48 = .ok (.aload_n 0, 1) := by decide +kernel
theorem dX9_nextPath_49 : decode cX9_nextPath 49 = .ok (.getfield 29, 3) := by decide +kernel
theorem dX9_nextPath_52 : decode cX9_nextPath 52 = .ok (.aload_n 0, 1) := by decide +kernel
theorem dX9_nextPath_53 : decode cX9_nextPath 53 = .ok (.getfield 138, 3) := by decide +kernel
theorem dX9_nextPath_56 : decode cX9_nextPath 56 = .ok (.iconst 1, 1) := by decide +kernel
theorem dX9_nextPath_57 : decode cX9_nextPath 57 = .ok (.isub, 1) := by decide +kernel
theorem dX9_nextPath_58 : decode cX9_nextPath 58 = .ok (.iaload, 1) := by decide +kernel
theorem dX9_nextPath_59 : decode cX9_nextPath 59 = .ok (.iconst 1, 1) := by decide +kernel
theorem dX9_nextPath_60 : decode cX9_nextPath 60 = .ok (.iadd, 1) := by decide +kernel
theorem dX9_nextPath_61 : decode cX9_nextPath 61 = .ok (.istore 4, 2) := by decide +kernel
theorem dX9_nextPath_63 : decode cX9_nextPath 63 = .ok (.aload_n 0, 1) := by decide +kernel
theorem dX9_nextPath_64 : decode cX9_nextPath 64 = .ok (.invokevirtual 150, 3) := by decide +kernel
theorem dX9_nextPath_67 : decode cX9_nextPath 67 = .ok (.aload_n 0, 1) := by decide +kernel
theorem dX9_nextPath_68 : decode cX9_nextPath 68 = .ok (.iload_n 1, 1) := by decide +kernel
theorem dX9_nextPath_69 : decode cX9_nextPath 69 = .ok (.iload 4, 2) := by decide +kernel
theorem dX9_nextPath_71 : decode cX9_nextPath 71 = .ok (.invokevirtual 153, 3) := by decide +kernel
theorem dX9_nextPath_74 : decode cX9_nextPath 74 = .ok (.istore 5, 2) := by decide +kernel
theorem dX9_nextPath_76 : decode cX9_nextPath 76 = .ok (.iconst 0, 1) := by decide +kernel
theorem dX9_nextPath_77 : decode cX9_nextPath 77 = .ok (.istore 4, 2) := by decide +kernel
theorem dX9_nextPath_79 : decode cX9_nextPath 79 = .ok (.iload 5, 2) := by decide +kernel
theorem dX9_nextPath_81 : decode cX9_nextPath 81 = .ok (.ifCond .eq (-47), 3) := by decide +kernel
theorem dX9_nextPath_84 : decode cX9_nextPath 84 = .ok (.aload_n 0, 1) := by decide +kernel
theorem dX9_nextPath_85 : decode cX9_nextPath 85 = .ok (.iload_n 1, 1) := by decide +kernel
theorem dX9_nextPath_86 : decode cX9_nextPath 86 = .ok (.invokevirtual 147, 3) := by decide +kernel
theorem dX9_nextPath_89 : decode cX9_nextPath 89 = .ok (.iload_n 2, 1) := by decide +kernel
theorem dX9_nextPath_90 : decode cX9_nextPath 90 = .ok (.if_icmp .ne (-56), 3) := by decide +kernel
theorem dX9_nextPath_93 : decode cX9_nextPath 93 = .ok (.iconst 1, 1) := by decide +kernel
theorem dX9_nextPath_94 : decode cX9_nextPath 94 = .ok (.ireturn, 1) := by decide +kernel
theorem dX9_paths_0 : decode cX9_paths 0 = .ok (.iload_n 1, 1) := by decide +kernel
theorem dX9_paths_1 : decode cX9_paths 1 = .ok (.iload_n 2, 1) := by decide +kernel
theorem dX9_paths_2 : decode cX9_paths 2 = .ok (.invokestatic 53, 3) := by decide +kernel
theorem dX9_paths_5 : decode cX9_paths 5 = .ok (.ifCond .eq 7, 3) := by decide +kernel
theorem dX9_paths_8 : decode cX9_paths 8 = .ok (.iload_n 3, 1) := by decide +kernel
theorem dX9_paths_9 : decode cX9_paths 9 = .ok (.ifCond .ge 6, 3) := by decide +kernel
theorem dX9_paths_12 : decode cX9_paths 12 = .ok (.bipush (-2), 2) := by decide +kernel
theorem dX9_paths_14 : decode cX9_paths 14 = .ok (.ireturn, 1) := by decide +kernel
theorem dX9_paths_15 : decode cX9_paths 15 = .ok (.iconst 0, 1) := by decide +kernel
theorem dX9_paths_16 : decode cX9_paths 16 = .ok (.istore 4, 2) := by decide +kernel
theorem dX9_paths_18 : decode cX9_paths 18 = .ok (.aload_n 0, 1) := by decide +kernel
theorem dX9_paths_19 : decode cX9_paths 19 = .ok (.iload_n 1, 1) := by decide +kernel
theorem dX9_paths_20 : decode cX9_paths 20 = .ok (.invokevirtual 156, 3) := by decide +kernel
theorem dX9_paths_23 : decode cX9_paths 23 = .ok (.aload_n 0, 1) := by decide +kernel
theorem dX9_paths_24 : decode cX9_paths 24 = .ok (.iload_n 1, 1) := by decide +kernel
theorem dX9_paths_25 : decode cX9_paths 25 = .ok (.iload_n 2, 1) := by decide +kernel
theorem dX9_paths_26 : decode cX9_paths 26 = .ok (.iconst 1, 1) := by decide +kernel
theorem dX9_paths_27 : decode cX9_paths 27 = .ok (.invokevirtual 159, 3) := by decide +kernel
theorem dX9_paths_30 : decode cX9_paths 30 = .ok (.istore 5, 2) := by decide +kernel
theorem dX9_paths_32 : decode cX9_paths 32 = .ok (.iload 5, 2) := by decide +kernel
theorem dX9_paths_34 : decode cX9_paths 34 = .ok (.ifCond .eq 33, 3) := by decide +kernel
theorem dX9_paths_37 : decode cX9_paths 37 = .ok (.iload 4, 2) := by decide +kernel
theorem dX9_paths_39 : decode cX9_paths 39 = .ok (.aload_n 0, 1) := by decide +kernel
theorem dX9_paths_40 : decode cX9_paths 40 = .ok (.getfield 141, 3) := by decide +kernel
theorem dX9_paths_43 : decode cX9_paths 43 = .ok (.iload_n 3, 1) := by decide +kernel
theorem dX9_paths_44 : decode cX9_paths 44 = .ok (.if_icmp .gt 7, 3) := by decide +kernel
theorem dX9_paths_47 : decode cX9_paths 47 = .ok (.iconst 1, 1) := by decide +kernel
theorem dX9_paths_48 : decode cX9_paths 48 = .ok (.goto 4, 3) := by decide +kernel
theorem dX9_paths_51 : decode cX9_paths 51 = .ok (.iconst 0, 1) := by decide +kernel
theorem dX9_paths_52 : decode cX9_paths 52 = .ok (.iadd, 1) := by decide +kernel
theorem dX9_paths_53 : decode cX9_paths 53 = .ok (.istore 4, 2) := by decide +kernel
theorem dX9_paths_55 : decode cX9_paths 55 = .ok (.aload_n 0, 1) := by decide +kernel
theorem dX9_paths_56 : decode cX9_paths 56 = .ok (.iload_n 1, 1) := by decide +kernel
theorem dX9_paths_57 : decode cX9_paths 57 = .ok (.iload_n 2, 1) := by decide +kernel
theorem dX9_paths_58 : decode cX9_paths 58 = .ok (.iconst 0, 1) := by decide +kernel
theorem dX9_paths_59 : decode cX9_paths 59 = .ok (.invokevirtual 159, 3) := by decide +kernel
theorem dX9_paths_62 : decode cX9_paths 62 = .ok (.istore 5, 2) := by decide +kernel
theorem dX9_paths_64 : decode cX9_paths 64 = .ok (.goto (-32), 3) := by decide +kernel
theorem dX9_paths_67 : decode cX9_paths 67 = .ok (.iload 4, 2) := by decide +kernel
theorem dX9_paths_69 : decode cX9_paths 69 = .ok (.ireturn, 1) := by decide +kernel
theorem dX9_pathLength_0 : decode cX9_pathLength 0 = .ok (.iload_n 1, 1) := by decide +kernel
theorem dX9_pathLength_1 : decode cX9_pathLength 1 = .ok (.iload_n 2, 1) := by decide +kernel
theorem dX9_pathLength_2 : decode cX9_pathLength 2 = .ok (.invokestatic 53, 3) := by decide +kernel
theorem dX9_pathLength_5 : decode cX9_pathLength 5 = .ok (.ifCond .eq 13, 3) := by decide +kernel
theorem dX9_pathLength_8 : decode cX9_pathLength 8 = .ok (.iload_n 3, 1) := by decide +kernel
theorem dX9_pathLength_9 : decode cX9_pathLength 9 = .ok (.iconst 0, 1) := by decide +kernel
theorem dX9_pathLength_10 : decode cX9_pathLength 10 = .ok (.bipush 99, 2) := by decide +kernel
theorem dX9_pathLength_12 : decode cX9_pathLength 12 = .ok (.invokestatic 38, 3) := by decide +kernel
theorem dX9_pathLength_15 : decode cX9_pathLength 15 = .ok (.ifCond .ne 6, 3) := by decide +kernel
theorem dX9_pathLength_18 : decode cX9_pathLength 18 = .ok (.bipush (-2), 2) := by decide +kernel
theorem dX9_pathLength_20 : decode cX9_pathLength 20 = .ok (.ireturn, 1) := by decide +kernel
theorem dX9_pathLength_21 : decode cX9_pathLength 21 = .ok (.iconst 0, 1) := by decide +kernel
theorem dX9_pathLength_22 : decode cX9_pathLength 22 = .ok (.istore 4, 2) := by decide +kernel
theorem dX9_pathLength_24 : decode cX9_pathLength 24 = .ok (.aload_n 0, 1) := by decide +kernel
theorem dX9_pathLength_25 : decode cX9_pathLength 25 = .ok (.iload_n 1, 1) := by decide +kernel
theorem dX9_pathLength_26 : decode cX9_pathLength 26 = .ok (.invokevirtual 156, 3) := by decide +kernel
theorem dX9_pathLength_29 : decode cX9_pathLength 29 = .ok (.aload_n 0, 1) := by decide +kernel
theorem dX9_pathLength_30 : decode cX9_pathLength 30 = .ok (.iload_n 1, 1) := by decide +kernel
theorem dX9_pathLength_31 : decode cX9_pathLength 31 = .ok (.iload_n 2, 1) := by decide +kernel
theorem dX9_pathLength_32 : decode cX9_pathLength 32 = .ok (.iconst 1, 1) := by decide +kernel
theorem dX9_pathLength_33 : decode cX9_pathLength 33 = .ok (.invokevirtual 159, 3) := by decide +kernel
theorem dX9_pathLength_36 : decode cX9_pathLength 36 = .ok (.istore 5, 2) := by decide +kernel
theorem dX9_pathLength_38 : decode cX9_pathLength 38 = .ok (.iload 5, 2) := by decide +kernel
theorem dX9_pathLength_40 : decode cX9_pathLength 40 = .ok (.ifCond .eq 105, 3) := by decide +kernel
theorem dX9_pathLength_43 : decode cX9_pathLength 43 = .ok (.iload 4, 2) := by decide +kernel
theorem dX9_pathLength_45 : decode cX9_pathLength 45 = .ok (.istore 6, 2) := by decide +kernel
theorem dX9_pathLength_47 : decode cX9_pathLength 47 = .ok (.iload 6, 2) := by decide +kernel
theorem dX9_pathLength_49 : decode cX9_pathLength 49 = .ok (.ifCond .le 48, 3) := by decide +kernel
theorem dX9_pathLength_52 : decode cX9_pathLength 52 = .ok (.aload_n 0, 1) := by decide +kernel
theorem dX9_pathLength_53 : decode cX9_pathLength 53 = .ok (.getfield 32, 3) := by decide +kernel
theorem dX9_pathLength_56 : decode cX9_pathLength 56 = .ok (.iload 6, 2) := by decide +kernel
theorem dX9_pathLength_58 : decode cX9_pathLength 58 = .ok (.iconst 1, 1) := by decide +kernel
theorem dX9_pathLength_59 : decode cX9_pathLength 59 = .ok (.isub, 1) := by decide +kernel
theorem dX9_pathLength_60 : decode cX9_pathLength 60 = .ok (.iaload, 1) := by decide +kernel
theorem dX9_pathLength_61 : decode cX9_pathLength 61 = .ok (.aload_n 0, 1) := by decide +kernel
theorem dX9_pathLength_62 : decode cX9_pathLength 62 = .ok (.getfield 141, 3) := by decide +kernel
theorem dX9_pathLength_65 : decode cX9_pathLength 65 = .ok (.if_icmp .le 32, 3) := by decide +kernel
theorem dX9_pathLength_68 : decode cX9_pathLength 68 = .ok (.iload 6, 2) := by decide +kernel
theorem dX9_pathLength_70 : decode cX9_pathLength 70 = .ok (.bipush 100, 2) := by decide +kernel
theorem dX9_pathLength_72 : decode cX9_pathLength 72 = .ok (.if_icmp .ge 19, 3) := by decide +kernel
theorem dX9_pathLength_75 : decode cX9_pathLength 75 = .ok (.aload_n 0, 1) := by decide +kernel
theorem dX9_pathLength_76 : decode cX9_pathLength 76 = .ok (.getfield 32, 3) := by decide +kernel
theorem dX9_pathLength_79 : decode cX9_pathLength 79 = .ok (.iload 6, 2) := by decide +kernel
theorem dX9_pathLength_81 : decode cX9_pathLength 81 = .ok (.aload_n 0, 1) := by decide +kernel
theorem dX9_pathLength_82 : decode cX9_pathLength 82 = .ok (.getfield 32, 3) := by decide +kernel
theorem dX9_pathLength_85 : decode cX9_pathLength 85 = .ok (.iload 6, 2) := by decide +kernel
theorem dX9_pathLength_87 : decode cX9_pathLength 87 = .ok (.iconst 1, 1) := by decide +kernel
theorem dX9_pathLength_88 : decode cX9_pathLength 88 = .ok (.isub, 1) := by decide +kernel
theorem dX9_pathLength_89 : decode cX9_pathLength 89 = .ok (.iaload, 1) := by decide +kernel
theorem dX9_pathLength_90 : decode cX9_pathLength 90 = .ok (.iastore, 1) := by decide +kernel
theorem dX9_pathLength_91 : decode cX9_pathLength 91 = .ok (.iinc 6 (-1), 3) := by decide +kernel
theorem dX9_pathLength_94 : decode cX9_pathLength 94 = .ok (.goto (-47), 3) := by decide +kernel
theorem dX9_pathLength_97 : decode cX9_pathLength 97 = .ok (.iload 6, 2) := by decide +kernel
theorem dX9_pathLength_99 : decode cX9_pathLength 99 = .ok (.bipush 100, 2) := by decide +kernel
theorem dX9_pathLength_101 : decode cX9_pathLength 101 = .ok (.if_icmp .ge 32, 3) := by decide +kernel
theorem dX9_pathLength_104 : decode cX9_pathLength 104 = .ok (.aload_n 0, 1) := by decide +kernel
theorem dX9_pathLength_105 : decode cX9_pathLength 105 = .ok (.getfield 32, 3) := by decide +kernel
theorem dX9_pathLength_108 : decode cX9_pathLength 108 = .ok (.iload 6, 2) := by decide +kernel
theorem dX9_pathLength_110 : decode cX9_pathLength 110 = .ok (.aload_n 0, 1) := by decide +kernel
theorem dX9_pathLength_111 : decode cX9_pathLength 111 = .ok (.getfield 141, 3) := by decide +kernel
theorem dX9_pathLength_114 : decode cX9_pathLength 114 = .ok (.iastore, 1) := by decide +kernel
theorem dX9_pathLength_115 : decode cX9_pathLength 115 = .ok (.iload 4, 2) := by decide +kernel
theorem dX9_pathLength_117 : decode cX9_pathLength 117 = .ok (.bipush 100, 2) := by decide +kernel
theorem dX9_pathLength_119 : decode cX9_pathLength 119 = .ok (.if_icmp .ge 10, 3) := by decide +kernel
theorem dX9_pathLength_122 : decode cX9_pathLength 122 = .ok (.iload 4, 2) := by decide +kernel
theorem dX9_pathLength_124 : decode cX9_pathLength 124 = .ok (.iconst 1, 1) := by decide +kernel
theorem dX9_pathLength_125 : decode cX9_pathLength 125 = .ok (.iadd, 1) := by decide +kernel
theorem dX9_pathLength_126 : decode cX9_pathLength 126 = .ok (.goto 5, 3) := by decide +kernel
theorem dX9_pathLength_129 : decode cX9_pathLength 129 = .ok (.iload 4, 2) := by decide +kernel
theorem dX9_pathLength_131 : decode cX9_pathLength 131 = .ok (.istore 4, 2) := by decide +kernel
theorem dX9_pathLength_133 : decode cX9_pathLength 133 = .ok (.aload_n 0, 1) := by decide +kernel
theorem dX9_pathLength_134 : decode cX9_pathLength 134 = .ok (.iload_n 1, 1) := by decide +kernel
theorem dX9_pathLength_135 : decode cX9_pathLength 135 = .ok (.iload_n 2, 1) := by decide +kernel
theorem dX9_pathLength_136 : decode cX9_pathLength 136 = .ok (.iconst 0, 1) := by decide +kernel
theorem dX9_pathLength_137 : decode cX9_pathLength 137 = .ok (.invokevirtual 159, 3) := by decide +kernel
theorem dX9_pathLength_140 : decode cX9_pathLength 140 = .ok (.istore 5, 2) := by decide +kernel
theorem dX9_pathLength_142 : decode cX9_pathLength 142 = .ok (.goto (-104), 3) := by decide +kernel
theorem dX9_pathLength_145 : decode cX9_pathLength 145 = .ok (.iload_n 3, 1) := by decide +kernel
theorem dX9_pathLength_146 : decode cX9_pathLength 146 = .ok (.iload 4, 2) := by decide +kernel
theorem dX9_pathLength_148 : decode cX9_pathLength 148 = .ok (.if_icmp .ge 12, 3) := by decide +kernel
theorem dX9_pathLength_151 : decode cX9_pathLength 151 = .ok (.aload_n 0, 1) := by decide +kernel
theorem dX9_pathLength_152 : decode cX9_pathLength 152 = .ok (.getfield 32, 3) := by decide +kernel
theorem dX9_pathLength_155 : decode cX9_pathLength 155 = .ok (.iload_n 3, 1) := by decide +kernel
theorem dX9_pathLength_156 : decode cX9_pathLength 156 = .ok (.iaload, 1) := by decide +kernel
theorem dX9_pathLength_157 : decode cX9_pathLength 157 = .ok (.goto 4, 3) := by decide +kernel
theorem dX9_pathLength_160 : decode cX9_pathLength 160 = .ok (.iconst (-1), 1) := by decide +kernel
theorem dX9_pathLength_161 : decode cX9_pathLength 161 = .ok (.ireturn, 1) := by decide +kernel
theorem dX9_first_0 : decode cX9_first 0 = .ok (.iload_n 1, 1) := by decide +kernel
theorem dX9_first_1 : decode cX9_first 1 = .ok (.iload_n 2, 1) := by decide +kernel
theorem dX9_first_2 : decode cX9_first 2 = .ok (.invokestatic 53, 3) := by decide +kernel
theorem dX9_first_5 : decode cX9_first 5 = .ok (.ifCond .eq 8, 3) := by decide +kernel
theorem dX9_first_8 : decode cX9_first 8 = .ok (.iload_n 3, 1) := by decide +kernel
theorem dX9_first_9 : decode cX9_first 9 = .ok (.iconst (-1), 1) := by decide +kernel
theorem dX9_first_10 : decode cX9_first 10 = .ok (.if_icmp .ge 6, 3) := by decide +kernel
theorem dX9_first_13 : decode cX9_first 13 = .ok (.bipush (-2), 2) := by decide +kernel
theorem dX9_first_15 : decode cX9_first 15 = .ok (.ireturn, 1) := by decide +kernel
theorem dX9_first_16 : decode cX9_first 16 = .ok (.sipush 9999, 3) := by decide +kernel
theorem dX9_first_19 : decode cX9_first 19 = .ok (.istore 4, 2) := by decide +kernel
theorem dX9_first_21 : decode cX9_first 21 = .ok (.iconst (-1), 1) := by decide +kernel
theorem dX9_first_22 : decode cX9_first 22 = .ok (.istore 5, 2) := by decide +kernel
theorem dX9_first_24 : decode cX9_first 24 = .ok (.aload_n 0, 1) := by decide +kernel
theorem dX9_first_25 : decode cX9_first 25 = .ok (.iload_n 1, 1) := by decide +kernel
theorem dX9_first_26 : decode cX9_first 26 = .ok (.invokevirtual 156, 3) := by decide +kernel
theorem dX9_first_29 : decode cX9_first 29 = .ok (.aload_n 0, 1) := by decide +kernel
theorem dX9_first_30 : decode cX9_first 30 = .ok (.iload_n 1, 1) := by decide +kernel
theorem dX9_first_31 : decode cX9_first 31 = .ok (.iload_n 2, 1) := by decide +kernel
theorem dX9_first_32 : decode cX9_first 32 = .ok (.iconst 1, 1) := by decide +kernel
theorem dX9_first_33 : decode cX9_first 33 = .ok (.invokevirtual 159, 3) := by decide +kernel
theorem dX9_first_36 : decode cX9_first 36 = .ok (.istore 6, 2) := by decide +kernel
theorem dX9_first_38 : decode cX9_first 38 = .ok (.iload 6, 2) := by decide +kernel
theorem dX9_first_40 : decode cX9_first 40 = .ok (.ifCond .eq 68, 3) := by decide +kernel
theorem dX9_first_43 : decode cX9_first 43 = .ok (.aload_n 0, 1) := by decide +kernel
theorem dX9_first_44 : decode cX9_first 44 = .ok (.getfield 141, 3) := by decide +kernel
theorem dX9_first_47 : decode cX9_first 47 = .ok (.iload 4, 2) := by decide +kernel
theorem dX9_first_49 : decode cX9_first 49 = .ok (.if_icmp .ge 47, 3) := by decide +kernel
theorem dX9_first_52 : decode cX9_first 52 = .ok (.aload_n 0, 1) := by decide +kernel
theorem dX9_first_53 : decode cX9_first 53 = .ok (.getfield 141, 3) := by decide +kernel
theorem dX9_first_56 : decode cX9_first 56 = .ok (.istore 4, 2) := by decide +kernel
theorem dX9_first_58 : decode cX9_first 58 = .ok (.aload_n 0, 1) := by decide +kernel
theorem dX9_first_59 : decode cX9_first 59 = .ok (.getfield 138, 3) := by decide +kernel
theorem dX9_first_62 : decode cX9_first 62 = .ok (.istore 5, 2) := by decide +kernel
theorem dX9_first_64 : decode cX9_first 64 = .ok (.iconst 0, 1) := by decide +kernel
theorem dX9_first_65 : decode cX9_first 65 = .ok (.istore 7, 2) := by decide +kernel
theorem dX9_first_67 : decode cX9_first 67 = .ok (.iload 7, 2) := by decide +kernel
theorem dX9_first_69 : decode cX9_first 69 = .ok (.aload_n 0, 1) := by decide +kernel
theorem dX9_first_70 : decode cX9_first 70 = .ok (.getfield 138, 3) := by decide +kernel
theorem dX9_first_73 : decode cX9_first 73 = .ok (.if_icmp .ge 23, 3) := by decide +kernel
theorem dX9_first_76 : decode cX9_first 76 = .ok (.aload_n 0, 1) := by decide +kernel
theorem dX9_first_77 : decode cX9_first 77 = .ok (.getfield 35, 3) := by decide +kernel
theorem dX9_first_80 : decode cX9_first 80 = .ok (.iload 7, 2) := by decide +kernel
theorem dX9_first_82 : decode cX9_first 82 = .ok (.aload_n 0, 1) := by decide +kernel
theorem dX9_first_83 : decode cX9_first 83 = .ok (.getfield 29, 3) := by decide +kernel
theorem dX9_first_86 : decode cX9_first 86 = .ok (.iload 7, 2) := by decide +kernel
theorem dX9_first_88 : decode cX9_first 88 = .ok (.iaload, 1) := by decide +kernel
theorem dX9_first_89 : decode cX9_first 89 = .ok (.iastore, 1) := by decide +kernel
theorem dX9_first_90 : decode cX9_first 90 = .ok (.iinc 7 1, 3) := by decide +kernel
theorem dX9_first_93 : decode cX9_first 93 = .ok (.goto (-26), 3) := by decide +kernel
theorem dX9_first_96 : decode cX9_first 96 = .ok (.aload_n 0, 1) := by decide +kernel
theorem dX9_first_97 : decode cX9_first 97 = .ok (.iload_n 1, 1) := by decide +kernel
theorem dX9_first_98 : decode cX9_first 98 = .ok (.iload_n 2, 1) := by decide +kernel
theorem dX9_first_99 : decode cX9_first 99 = .ok (.iconst 0, 1) := by decide +kernel
theorem dX9_first_100 : decode cX9_first 100 = .ok (.invokevirtual 159, 3) := by decide +kernel
theorem dX9_first_103 : decode cX9_first 103 = .ok (.istore 6, 2) := by decide +kernel
theorem dX9_first_105 : decode cX9_first 105 = .ok (.goto (-67), 3) := by decide +kernel
theorem dX9_first_108 : decode cX9_first 108 = .ok (.iload_n 3, 1) := by decide +kernel
theorem dX9_first_109 : decode cX9_first 109 = .ok (.iconst (-1), 1) := by decide +kernel
theorem dX9_first_110 : decode cX9_first 110 = .ok (.if_icmp .ne 6, 3) := by decide +kernel
theorem dX9_first_113 : decode cX9_first 113 = .ok (.iload 5, 2) := by decide +kernel
theorem dX9_first_115 : decode cX9_first 115 = .ok (.ireturn, 1) := by decide +kernel
theorem dX9_first_116 : decode cX9_first 116 = .ok (.iload_n 3, 1) := by decide +kernel
theorem dX9_first_117 : decode cX9_first 117 = .ok (.iload 5, 2) := by decide +kernel
theorem dX9_first_119 : decode cX9_first 119 = .ok (.if_icmp .ge 12, 3) := by decide +kernel
theorem dX9_first_122 : decode cX9_first 122 = .ok (.aload_n 0, 1) := by decide +kernel
theorem dX9_first_123 : decode cX9_first 123 = .ok (.getfield 35, 3) := by decide +kernel
theorem dX9_first_126 : decode cX9_first 126 = .ok (.iload_n 3, 1) := by decide +kernel
theorem dX9_first_127 : decode cX9_first 127 = .ok (.iaload, 1) := by decide +kernel
theorem dX9_first_128 : decode cX9_first 128 = .ok (.goto 4, 3) := by decide +kernel
theorem dX9_first_131 : decode cX9_first 131 = .ok (.iconst (-1), 1) := by decide +kernel
theorem dX9_first_132 : decode cX9_first 132 = .ok (.ireturn, 1) := by decide +kernel
theorem dX9_tight_0 : decode cX9_tight 0 = .ok (.iload_n 1, 1) := by decide +kernel
theorem dX9_tight_1 : decode cX9_tight 1 = .ok (.iload_n 2, 1) := by decide +kernel
theorem dX9_tight_2 : decode cX9_tight 2 = .ok (.invokestatic 53, 3) := by decide +kernel
theorem dX9_tight_5 : decode cX9_tight 5 = .ok (.ifCond .ne 6, 3) := by decide +kernel
theorem dX9_tight_8 : decode cX9_tight 8 = .ok (.bipush (-2), 2) := by decide +kernel
theorem dX9_tight_10 : decode cX9_tight 10 = .ok (.ireturn, 1) := by decide +kernel
theorem dX9_tight_11 : decode cX9_tight 11 = .ok (.aload_n 0, 1) := by decide +kernel
theorem dX9_tight_12 : decode cX9_tight 12 = .ok (.iload_n 1, 1) := by decide +kernel
theorem dX9_tight_13 : decode cX9_tight 13 = .ok (.iload_n 2, 1) := by decide +kernel
theorem dX9_tight_14 : decode cX9_tight 14 = .ok (.aload_n 0, 1) := by decide +kernel
theorem dX9_tight_15 : decode cX9_tight 15 = .ok (.getfield 7, 3) := by decide +kernel
theorem dX9_tight_18 : decode cX9_tight 18 = .ok (.bipush 81, 2) := by decide +kernel
theorem dX9_tight_20 : decode cX9_tight 20 = .ok (.iaload, 1) := by decide +kernel
theorem dX9_tight_21 : decode cX9_tight 21 = .ok (.iconst 0, 1) := by decide +kernel
theorem dX9_tight_22 : decode cX9_tight 22 = .ok (.invokevirtual 134, 3) := by decide +kernel
theorem dX9_tight_25 : decode cX9_tight 25 = .ok (.istore_n 3, 1) := by decide +kernel
theorem dX9_tight_26 : decode cX9_tight 26 = .ok (.iconst 0, 1) := by decide +kernel
theorem dX9_tight_27 : decode cX9_tight 27 = .ok (.istore 4, 2) := by decide +kernel
theorem dX9_tight_29 : decode cX9_tight 29 = .ok (.iconst 0, 1) := by decide +kernel
theorem dX9_tight_30 : decode cX9_tight 30 = .ok (.istore 5, 2) := by decide +kernel
theorem dX9_tight_32 : decode cX9_tight 32 = .ok (.iload 5, 2) := by decide +kernel
theorem dX9_tight_34 : decode cX9_tight 34 = .ok (.aload_n 0, 1) := by decide +kernel
theorem dX9_tight_35 : decode cX9_tight 35 = .ok (.getfield 7, 3) := by decide +kernel
theorem dX9_tight_38 : decode cX9_tight 38 = .ok (.bipush 80, 2) := by decide +kernel
theorem dX9_tight_40 : decode cX9_tight 40 = .ok (.iaload, 1) := by decide +kernel
theorem dX9_tight_41 : decode cX9_tight 41 = .ok (.if_icmp .ge 101, 3) := by decide +kernel
theorem dX9_tight_44 : decode cX9_tight 44 = .ok (.iload_n 1, 1) := by decide +kernel
theorem dX9_tight_45 : decode cX9_tight 45 = .ok (.iload_n 2, 1) := by decide +kernel
theorem dX9_tight_46 : decode cX9_tight 46 = .ok (.if_icmp .eq 96, 3) := by decide +kernel
theorem dX9_tight_49 : decode cX9_tight 49 = .ok (.iload_n 3, 1) := by decide +kernel
theorem dX9_tight_50 : decode cX9_tight 50 = .ok (.sipush 9999, 3) := by decide +kernel
theorem dX9_tight_53 : decode cX9_tight 53 = .ok (.if_icmp .ge 89, 3) := by decide +kernel
theorem dX9_tight_56 : decode cX9_tight 56 = .ok (.aload_n 0, 1) := by decide +kernel
theorem dX9_tight_57 : decode cX9_tight 57 = .ok (.iload_n 1, 1) := by decide +kernel
theorem dX9_tight_58 : decode cX9_tight 58 = .ok (.aload_n 0, 1) := by decide +kernel
theorem dX9_tight_59 : decode cX9_tight 59 = .ok (.iload 5, 2) := by decide +kernel
theorem dX9_tight_61 : decode cX9_tight 61 = .ok (.iconst 0, 1) := by decide +kernel
theorem dX9_tight_62 : decode cX9_tight 62 = .ok (.invokevirtual 46, 3) := by decide +kernel
theorem dX9_tight_65 : decode cX9_tight 65 = .ok (.aload_n 0, 1) := by decide +kernel
theorem dX9_tight_66 : decode cX9_tight 66 = .ok (.getfield 7, 3) := by decide +kernel
theorem dX9_tight_69 : decode cX9_tight 69 = .ok (.bipush 81, 2) := by decide +kernel
theorem dX9_tight_71 : decode cX9_tight 71 = .ok (.iaload, 1) := by decide +kernel
theorem dX9_tight_72 : decode cX9_tight 72 = .ok (.iconst 0, 1) := by decide +kernel
theorem dX9_tight_73 : decode cX9_tight 73 = .ok (.invokevirtual 134, 3) := by decide +kernel
theorem dX9_tight_76 : decode cX9_tight 76 = .ok (.istore 6, 2) := by decide +kernel
theorem dX9_tight_78 : decode cX9_tight 78 = .ok (.aload_n 0, 1) := by decide +kernel
theorem dX9_tight_79 : decode cX9_tight 79 = .ok (.aload_n 0, 1) := by decide +kernel
theorem dX9_tight_80 : decode cX9_tight 80 = .ok (.iload 5, 2) := by decide +kernel
theorem dX9_tight_82 : decode cX9_tight 82 = .ok (.iconst 1, 1) := by decide +kernel
theorem dX9_tight_83 : decode cX9_tight 83 = .ok (.invokevirtual 46, 3) := by decide +kernel
theorem dX9_tight_86 : decode cX9_tight 86 = .ok (.iload_n 2, 1) := by decide +kernel
theorem dX9_tight_87 : decode cX9_tight 87 = .ok (.aload_n 0, 1) := by decide +kernel
theorem dX9_tight_88 : decode cX9_tight 88 = .ok (.getfield 7, 3) := by decide +kernel
theorem dX9_tight_91 : decode cX9_tight 91 = .ok (.bipush 81, 2) := by decide +kernel
theorem dX9_tight_93 : decode cX9_tight 93 = .ok (.iaload, 1) := by decide +kernel
theorem dX9_tight_94 : decode cX9_tight 94 = .ok (.iconst 0, 1) := by decide +kernel
theorem dX9_tight_95 : decode cX9_tight 95 = .ok (.invokevirtual 134, 3) := by decide +kernel
theorem dX9_tight_98 : decode cX9_tight 98 = .ok (.istore 7, 2) := by decide +kernel
theorem dX9_tight_100 : decode cX9_tight 100 = .ok (.iload 4, 2) := by decide +kernel
theorem dX9_tight_102 : decode cX9_tight 102 = .ok (.iload 6, 2) := by decide +kernel
theorem dX9_tight_104 : decode cX9_tight 104 = .ok (.aload_n 0, 1) := by decide +kernel
theorem dX9_tight_105 : decode cX9_tight 105 = .ok (.iload 5, 2) := by decide +kernel
theorem dX9_tight_107 : decode cX9_tight 107 = .ok (.aload_n 0, 1) := by decide +kernel
theorem dX9_tight_108 : decode cX9_tight 108 = .ok (.getfield 7, 3) := by decide +kernel
theorem dX9_tight_111 : decode cX9_tight 111 = .ok (.bipush 81, 2) := by decide +kernel
theorem dX9_tight_113 : decode cX9_tight 113 = .ok (.iaload, 1) := by decide +kernel
theorem dX9_tight_114 : decode cX9_tight 114 = .ok (.invokevirtual 124, 3) := by decide +kernel
theorem dX9_tight_117 : decode cX9_tight 117 = .ok (.iadd, 1) := by decide +kernel
theorem dX9_tight_118 : decode cX9_tight 118 = .ok (.iload 7, 2) := by decide +kernel
theorem dX9_tight_120 : decode cX9_tight 120 = .ok (.iadd, 1) := by decide +kernel
theorem dX9_tight_121 : decode cX9_tight 121 = .ok (.iload_n 3, 1) := by decide +kernel
theorem dX9_tight_122 : decode cX9_tight 122 = .ok (.if_icmp .ne 10, 3) := by decide +kernel
theorem dX9_tight_125 : decode cX9_tight 125 = .ok (.iconst 1, 1) := by decide +kernel
theorem dX9_tight_126 : decode cX9_tight 126 = .ok (.iload 5, 2) := by decide +kernel
theorem dX9_tight_128 : decode cX9_tight 128 = .ok (.ishl, 1) := by decide +kernel
theorem dX9_tight_129 : decode cX9_tight 129 = .ok (.goto 4, 3) := by decide +kernel
theorem dX9_tight_132 : decode cX9_tight 132 = .ok (.iconst 0, 1) := by decide +kernel
theorem dX9_tight_133 : decode cX9_tight 133 = .ok (.ior, 1) := by decide +kernel
theorem dX9_tight_134 : decode cX9_tight 134 = .ok (.istore 4, 2) := by decide +kernel
theorem dX9_tight_136 : decode cX9_tight 136 = .ok (.iinc 5 1, 3) := by decide +kernel
theorem dX9_tight_139 : decode cX9_tight 139 = .ok (.goto (-107), 3) := by decide +kernel
theorem dX9_tight_142 : decode cX9_tight 142 = .ok (.iload 4, 2) := by decide +kernel
theorem dX9_tight_144 : decode cX9_tight 144 = .ok (.ireturn, 1) := by decide +kernel
theorem dX9_bestFar_0 : decode cX9_bestFar 0 = .ok (.iconst (-1), 1) := by decide +kernel
theorem dX9_bestFar_1 : decode cX9_bestFar 1 = .ok (.istore 6, 2) := by decide +kernel
theorem dX9_bestFar_3 : decode cX9_bestFar 3 = .ok (.iconst 0, 1) := by decide +kernel
theorem dX9_bestFar_4 : decode cX9_bestFar 4 = .ok (.istore 7, 2) := by decide +kernel
theorem dX9_bestFar_6 : decode cX9_bestFar 6 = .ok (.iconst 0, 1) := by decide +kernel
theorem dX9_bestFar_7 : decode cX9_bestFar 7 = .ok (.istore 8, 2) := by decide +kernel
theorem dX9_bestFar_9 : decode cX9_bestFar 9 = .ok (.iload 8, 2) := by decide +kernel
theorem dX9_bestFar_11 : decode cX9_bestFar 11 = .ok (.iconst 1, 1) := by decide +kernel
theorem dX9_bestFar_12 : decode cX9_bestFar 12 = .ok (.aload_n 0, 1) := by decide +kernel
theorem dX9_bestFar_13 : decode cX9_bestFar 13 = .ok (.getfield 7, 3) := by decide +kernel
theorem dX9_bestFar_16 : decode cX9_bestFar 16 = .ok (.bipush 80, 2) := by decide +kernel
theorem dX9_bestFar_18 : decode cX9_bestFar 18 = .ok (.iaload, 1) := by decide +kernel
theorem dX9_bestFar_19 : decode cX9_bestFar 19 = .ok (.ishl, 1) := by decide +kernel
theorem dX9_bestFar_20 : decode cX9_bestFar 20 = .ok (.if_icmp .ge 83, 3) := by decide +kernel
theorem dX9_bestFar_23 : decode cX9_bestFar 23 = .ok (.iload 8, 2) := by decide +kernel
theorem dX9_bestFar_25 : decode cX9_bestFar 25 = .ok (.iload 4, 2) := by decide +kernel
theorem dX9_bestFar_27 : decode cX9_bestFar 27 = .ok (.iand, 1) := by decide +kernel
theorem dX9_bestFar_28 : decode cX9_bestFar 28 = .ok (.ifCond .ne 12, 3) := by decide +kernel
theorem dX9_bestFar_31 : decode cX9_bestFar 31 = .ok (.aload_n 0, 1) := by decide +kernel
theorem dX9_bestFar_32 : decode cX9_bestFar 32 = .ok (.iload 8, 2) := by decide +kernel
theorem dX9_bestFar_34 : decode cX9_bestFar 34 = .ok (.invokevirtual 118, 3) := by decide +kernel
theorem dX9_bestFar_37 : decode cX9_bestFar 37 = .ok (.goto 5, 3) := by decide +kernel
theorem dX9_bestFar_40 : decode cX9_bestFar 40 = .ok (.bipush 100, 2) := by decide +kernel
theorem dX9_bestFar_42 : decode cX9_bestFar 42 = .ok (.istore 9, 2) := by decide +kernel
theorem dX9_bestFar_44 : decode cX9_bestFar 44 = .ok (.iload 9, 2) := by decide +kernel
theorem dX9_bestFar_46 : decode cX9_bestFar 46 = .ok (.iload_n 3, 1) := by decide +kernel
theorem dX9_bestFar_47 : decode cX9_bestFar 47 = .ok (.if_icmp .gt 50, 3) := by decide +kernel
theorem dX9_bestFar_50 : decode cX9_bestFar 50 = .ok (.aload_n 0, 1) := by decide +kernel
theorem dX9_bestFar_51 : decode cX9_bestFar 51 = .ok (.iload_n 1, 1) := by decide +kernel
theorem dX9_bestFar_52 : decode cX9_bestFar 52 = .ok (.iload_n 2, 1) := by decide +kernel
theorem dX9_bestFar_53 : decode cX9_bestFar 53 = .ok (.iload 8, 2) := by decide +kernel
theorem dX9_bestFar_55 : decode cX9_bestFar 55 = .ok (.iload 5, 2) := by decide +kernel
theorem dX9_bestFar_57 : decode cX9_bestFar 57 = .ok (.invokevirtual 134, 3) := by decide +kernel
theorem dX9_bestFar_60 : decode cX9_bestFar 60 = .ok (.istore 10, 2) := by decide +kernel
theorem dX9_bestFar_62 : decode cX9_bestFar 62 = .ok (.iload 10, 2) := by decide +kernel
theorem dX9_bestFar_64 : decode cX9_bestFar 64 = .ok (.iload 6, 2) := by decide +kernel
theorem dX9_bestFar_66 : decode cX9_bestFar 66 = .ok (.if_icmp .gt 17, 3) := by decide +kernel
theorem dX9_bestFar_69 : decode cX9_bestFar 69 = .ok (.iload 10, 2) := by decide +kernel
theorem dX9_bestFar_71 : decode cX9_bestFar 71 = .ok (.iload 6, 2) := by decide +kernel
theorem dX9_bestFar_73 : decode cX9_bestFar 73 = .ok (.if_icmp .ne 24, 3) := by decide +kernel
theorem dX9_bestFar_76 : decode cX9_bestFar 76 = .ok (.iload 9, 2) := by decide +kernel
theorem dX9_bestFar_78 : decode cX9_bestFar 78 = .ok (.iload 7, 2) := by decide +kernel
theorem dX9_bestFar_80 : decode cX9_bestFar 80 = .ok (.if_icmp .ge 17, 3) := by decide +kernel
theorem dX9_bestFar_83 : decode cX9_bestFar 83 = .ok (.iload 10, 2) := by decide +kernel
theorem dX9_bestFar_85 : decode cX9_bestFar 85 = .ok (.istore 6, 2) := by decide +kernel
theorem dX9_bestFar_87 : decode cX9_bestFar 87 = .ok (.iload 9, 2) := by decide +kernel
theorem dX9_bestFar_89 : decode cX9_bestFar 89 = .ok (.istore 7, 2) := by decide +kernel
theorem dX9_bestFar_91 : decode cX9_bestFar 91 = .ok (.aload_n 0, 1) := by decide +kernel
theorem dX9_bestFar_92 : decode cX9_bestFar 92 = .ok (.iload 8, 2) := by decide +kernel
theorem dX9_bestFar_94 : decode cX9_bestFar 94 = .ok (.putfield 163, 3) := by decide +kernel
theorem dX9_bestFar_97 : decode cX9_bestFar 97 = .ok (.iinc 8 1, 3) := by decide +kernel
theorem dX9_bestFar_100 : decode cX9_bestFar 100 = .ok (.goto (-91), 3) := by decide +kernel
theorem dX9_bestFar_103 : decode cX9_bestFar 103 = .ok (.iload 6, 2) := by decide +kernel
theorem dX9_bestFar_105 : decode cX9_bestFar 105 = .ok (.ireturn, 1) := by decide +kernel
theorem dX9_interdict_0 : decode cX9_interdict 0 = .ok (.iload_n 1, 1) := by decide +kernel
theorem dX9_interdict_1 : decode cX9_interdict 1 = .ok (.iload_n 2, 1) := by decide +kernel
theorem dX9_interdict_2 : decode cX9_interdict 2 = .ok (.invokestatic 53, 3) := by decide +kernel
theorem dX9_interdict_5 : decode cX9_interdict 5 = .ok (.ifCond .eq 12, 3) := by decide +kernel
theorem dX9_interdict_8 : decode cX9_interdict 8 = .ok (.iload_n 3, 1) := by decide +kernel
theorem dX9_interdict_9 : decode cX9_interdict 9 = .ok (.iconst 0, 1) := by decide +kernel
theorem dX9_interdict_10 : decode cX9_interdict 10 = .ok (.iconst 5, 1) := by decide +kernel
theorem dX9_interdict_11 : decode cX9_interdict 11 = .ok (.invokestatic 38, 3) := by decide +kernel
theorem dX9_interdict_14 : decode cX9_interdict 14 = .ok (.ifCond .ne 6, 3) := by decide +kernel
theorem dX9_interdict_17 : decode cX9_interdict 17 = .ok (.bipush (-2), 2) := by decide +kernel
theorem dX9_interdict_19 : decode cX9_interdict 19 = .ok (.ireturn, 1) := by decide +kernel
theorem dX9_interdict_20 : decode cX9_interdict 20 = .ok (.aload_n 0, 1) := by decide +kernel
theorem dX9_interdict_21 : decode cX9_interdict 21 = .ok (.iload_n 1, 1) := by decide +kernel
theorem dX9_interdict_22 : decode cX9_interdict 22 = .ok (.iload_n 2, 1) := by decide +kernel
theorem dX9_interdict_23 : decode cX9_interdict 23 = .ok (.iload_n 3, 1) := by decide +kernel
theorem dX9_interdict_24 : decode cX9_interdict 24 = .ok (.iconst 0, 1) := by decide +kernel
theorem dX9_interdict_25 : decode cX9_interdict 25 = .ok (.iconst 0, 1) := by decide +kernel
theorem dX9_interdict_26 : decode cX9_interdict 26 = .ok (.invokevirtual 166, 3) := by decide +kernel
theorem dX9_interdict_29 : decode cX9_interdict 29 = .ok (.istore 4, 2) := by decide +kernel
theorem dX9_interdict_31 : decode cX9_interdict 31 = .ok (.aload_n 0, 1) := by decide +kernel
theorem dX9_interdict_32 : decode cX9_interdict 32 = .ok (.aload_n 0, 1) := by decide +kernel
theorem dX9_interdict_33 : decode cX9_interdict 33 = .ok (.getfield 163, 3) := by decide +kernel
theorem dX9_interdict_36 : decode cX9_interdict 36 = .ok (.putfield 16, 3) := by decide +kernel
theorem dX9_interdict_39 : decode cX9_interdict 39 = .ok (.iload 4, 2) := by decide +kernel
theorem dX9_interdict_41 : decode cX9_interdict 41 = .ok (.ireturn, 1) := by decide +kernel
theorem dX9_step_0 : decode cX9_step 0 = .ok (.iconst (-1), 1) := by decide +kernel
theorem dX9_step_1 : decode cX9_step 1 = .ok (.istore 5, 2) := by decide +kernel
theorem dX9_step_3 : decode cX9_step 3 = .ok (.iconst 0, 1) := by decide +kernel
theorem dX9_step_4 : decode cX9_step 4 = .ok (.istore 6, 2) := by decide +kernel
theorem dX9_step_6 : decode cX9_step 6 = .ok (.iconst 0, 1) := by decide +kernel
theorem dX9_step_7 : decode cX9_step 7 = .ok (.istore 7, 2) := by decide +kernel
theorem dX9_step_9 : decode cX9_step 9 = .ok (.iload 7, 2) := by decide +kernel
theorem dX9_step_11 : decode cX9_step 11 = .ok (.aload_n 0, 1) := by decide +kernel
theorem dX9_step_12 : decode cX9_step 12 = .ok (.getfield 7, 3) := by decide +kernel
theorem dX9_step_15 : decode cX9_step 15 = .ok (.bipush 80, 2) := by decide +kernel
theorem dX9_step_17 : decode cX9_step 17 = .ok (.iaload, 1) := by decide +kernel
theorem dX9_step_18 : decode cX9_step 18 = .ok (.if_icmp .ge 122, 3) := by decide +kernel
theorem dX9_step_21 : decode cX9_step 21 = .ok (.iload 4, 2) := by decide +kernel
theorem dX9_step_23 : decode cX9_step 23 = .ok (.iload 7, 2) := by decide +kernel
theorem dX9_step_25 : decode cX9_step 25 = .ok (.invokestatic 42, 3) := by decide +kernel
theorem dX9_step_28 : decode cX9_step 28 = .ok (.ifCond .ne 106, 3) := by decide +kernel
theorem dX9_step_31 : decode cX9_step 31 = .ok (.aload_n 0, 1) := by decide +kernel
theorem dX9_step_32 : decode cX9_step 32 = .ok (.iload 4, 2) := by decide +kernel
theorem dX9_step_34 : decode cX9_step 34 = .ok (.iconst 1, 1) := by decide +kernel
theorem dX9_step_35 : decode cX9_step 35 = .ok (.iload 7, 2) := by decide +kernel
theorem dX9_step_37 : decode cX9_step 37 = .ok (.ishl, 1) := by decide +kernel
theorem dX9_step_38 : decode cX9_step 38 = .ok (.ior, 1) := by decide +kernel
theorem dX9_step_39 : decode cX9_step 39 = .ok (.invokevirtual 118, 3) := by decide +kernel
theorem dX9_step_42 : decode cX9_step 42 = .ok (.iload_n 3, 1) := by decide +kernel
theorem dX9_step_43 : decode cX9_step 43 = .ok (.if_icmp .gt 91, 3) := by decide +kernel
theorem dX9_step_46 : decode cX9_step 46 = .ok (.aload_n 0, 1) := by decide +kernel
theorem dX9_step_47 : decode cX9_step 47 = .ok (.iload_n 1, 1) := by decide +kernel
theorem dX9_step_48 : decode cX9_step 48 = .ok (.iload_n 2, 1) := by decide +kernel
theorem dX9_step_49 : decode cX9_step 49 = .ok (.iload 4, 2) := by decide +kernel
theorem dX9_step_51 : decode cX9_step 51 = .ok (.iconst 1, 1) := by decide +kernel
theorem dX9_step_52 : decode cX9_step 52 = .ok (.iload 7, 2) := by decide +kernel
theorem dX9_step_54 : decode cX9_step 54 = .ok (.ishl, 1) := by decide +kernel
theorem dX9_step_55 : decode cX9_step 55 = .ok (.ior, 1) := by decide +kernel
theorem dX9_step_56 : decode cX9_step 56 = .ok (.iconst 0, 1) := by decide +kernel
theorem dX9_step_57 : decode cX9_step 57 = .ok (.invokevirtual 134, 3) := by decide +kernel
theorem dX9_step_60 : decode cX9_step 60 = .ok (.istore 8, 2) := by decide +kernel
theorem dX9_step_62 : decode cX9_step 62 = .ok (.iload 5, 2) := by decide +kernel
theorem dX9_step_64 : decode cX9_step 64 = .ok (.iconst (-1), 1) := by decide +kernel
theorem dX9_step_65 : decode cX9_step 65 = .ok (.if_icmp .eq 34, 3) := by decide +kernel
theorem dX9_step_68 : decode cX9_step 68 = .ok (.iload 8, 2) := by decide +kernel
theorem dX9_step_70 : decode cX9_step 70 = .ok (.iload 6, 2) := by decide +kernel
theorem dX9_step_72 : decode cX9_step 72 = .ok (.if_icmp .gt 27, 3) := by decide +kernel
theorem dX9_step_75 : decode cX9_step 75 = .ok (.iload 8, 2) := by decide +kernel
theorem dX9_step_77 : decode cX9_step 77 = .ok (.iload 6, 2) := by decide +kernel
theorem dX9_step_79 : decode cX9_step 79 = .ok (.if_icmp .ne 24, 3) := by decide +kernel
theorem dX9_step_82 : decode cX9_step 82 = .ok (.aload_n 0, 1) := by decide +kernel
theorem dX9_step_83 : decode cX9_step 83 = .ok (.iload 7, 2) := by decide +kernel
theorem dX9_step_85 : decode cX9_step 85 = .ok (.iconst 4, 1) := by decide +kernel
theorem dX9_step_86 : decode cX9_step 86 = .ok (.invokevirtual 46, 3) := by decide +kernel
theorem dX9_step_89 : decode cX9_step 89 = .ok (.aload_n 0, 1) := by decide +kernel
theorem dX9_step_90 : decode cX9_step 90 = .ok (.iload 5, 2) := by decide +kernel
theorem dX9_step_92 : decode cX9_step 92 = .ok (.iconst 4, 1) := by decide +kernel
theorem dX9_step_93 : decode cX9_step 93 = .ok (.invokevirtual 46, 3) := by decide +kernel
theorem dX9_step_96 : decode cX9_step 96 = .ok (.if_icmp .ge 7, 3) := by decide +kernel
theorem dX9_step_99 : decode cX9_step 99 = .ok (.iconst 1, 1) := by decide +kernel
theorem dX9_step_100 : decode cX9_step 100 = .ok (.goto 4, 3) := by decide +kernel
theorem dX9_step_103 : decode cX9_step 103 = .ok (.iconst 0, 1) := by decide +kernel
theorem dX9_step_104 : decode cX9_step 104 = .ok (.istore 9, 2) := by decide +kernel
theorem dX9_step_106 : decode cX9_step 106 = .ok (.iload 9, 2) := by decide +kernel
theorem dX9_step_108 : decode cX9_step 108 = .ok (.ifCond .eq 8, 3) := by decide +kernel
theorem dX9_step_111 : decode cX9_step 111 = .ok (.iload 7, 2) := by decide +kernel
theorem dX9_step_113 : decode cX9_step 113 = .ok (.goto 5, 3) := by decide +kernel
theorem dX9_step_116 : decode cX9_step 116 = .ok (.iload 5, 2) := by decide +kernel
theorem dX9_step_118 : decode cX9_step 118 = .ok (.istore 5, 2) := by decide +kernel
theorem dX9_step_120 : decode cX9_step 120 = .ok (.iload 9, 2) := by decide +kernel
theorem dX9_step_122 : decode cX9_step 122 = .ok (.ifCond .eq 8, 3) := by decide +kernel
theorem dX9_step_125 : decode cX9_step 125 = .ok (.iload 8, 2) := by decide +kernel
theorem dX9_step_127 : decode cX9_step 127 = .ok (.goto 5, 3) := by decide +kernel
theorem dX9_step_130 : decode cX9_step 130 = .ok (.iload 6, 2) := by decide +kernel
theorem dX9_step_132 : decode cX9_step 132 = .ok (.istore 6, 2) := by decide +kernel
theorem dX9_step_134 : decode cX9_step 134 = .ok (.iinc 7 1, 3) := by decide +kernel
theorem dX9_step_137 : decode cX9_step 137 = .ok (.goto (-128), 3) := by decide +kernel
theorem dX9_step_140 : decode cX9_step 140 = .ok (.iload 5, 2) := by decide +kernel
theorem dX9_step_142 : decode cX9_step 142 = .ok (.ireturn, 1) := by decide +kernel
theorem dX9_greedy_0 : decode cX9_greedy 0 = .ok (.iload_n 1, 1) := by decide +kernel
theorem dX9_greedy_1 : decode cX9_greedy 1 = .ok (.iload_n 2, 1) := by decide +kernel
theorem dX9_greedy_2 : decode cX9_greedy 2 = .ok (.invokestatic 53, 3) := by decide +kernel
theorem dX9_greedy_5 : decode cX9_greedy 5 = .ok (.ifCond .eq 13, 3) := by decide +kernel
theorem dX9_greedy_8 : decode cX9_greedy 8 = .ok (.iload_n 3, 1) := by decide +kernel
theorem dX9_greedy_9 : decode cX9_greedy 9 = .ok (.iconst 0, 1) := by decide +kernel
theorem dX9_greedy_10 : decode cX9_greedy 10 = .ok (.bipush 20, 2) := by decide +kernel
theorem dX9_greedy_12 : decode cX9_greedy 12 = .ok (.invokestatic 38, 3) := by decide +kernel
theorem dX9_greedy_15 : decode cX9_greedy 15 = .ok (.ifCond .ne 6, 3) := by decide +kernel
theorem dX9_greedy_18 : decode cX9_greedy 18 = .ok (.bipush (-2), 2) := by decide +kernel
theorem dX9_greedy_20 : decode cX9_greedy 20 = .ok (.ireturn, 1) := by decide +kernel
theorem dX9_greedy_21 : decode cX9_greedy 21 = .ok (.iconst 0, 1) := by decide +kernel
theorem dX9_greedy_22 : decode cX9_greedy 22 = .ok (.istore 4, 2) := by decide +kernel
theorem dX9_greedy_24 : decode cX9_greedy 24 = .ok (.aload_n 0, 1) := by decide +kernel
theorem dX9_greedy_25 : decode cX9_greedy 25 = .ok (.iload_n 1, 1) := by decide +kernel
theorem dX9_greedy_26 : decode cX9_greedy 26 = .ok (.iload_n 2, 1) := by decide +kernel
theorem dX9_greedy_27 : decode cX9_greedy 27 = .ok (.iconst 0, 1) := by decide +kernel
theorem dX9_greedy_28 : decode cX9_greedy 28 = .ok (.iconst 0, 1) := by decide +kernel
theorem dX9_greedy_29 : decode cX9_greedy 29 = .ok (.invokevirtual 134, 3) := by decide +kernel
theorem dX9_greedy_32 : decode cX9_greedy 32 = .ok (.istore 5, 2) := by decide +kernel
theorem dX9_greedy_34 : decode cX9_greedy 34 = .ok (.iconst 1, 1) := by decide +kernel
theorem dX9_greedy_35 : decode cX9_greedy 35 = .ok (.istore 6, 2) := by decide +kernel
theorem dX9_greedy_37 : decode cX9_greedy 37 = .ok (.iload 6, 2) := by decide +kernel
theorem dX9_greedy_39 : decode cX9_greedy 39 = .ok (.ifCond .eq 91, 3) := by decide +kernel
theorem dX9_greedy_42 : decode cX9_greedy 42 = .ok (.aload_n 0, 1) := by decide +kernel
theorem dX9_greedy_43 : decode cX9_greedy 43 = .ok (.iload_n 1, 1) := by decide +kernel
theorem dX9_greedy_44 : decode cX9_greedy 44 = .ok (.iload_n 2, 1) := by decide +kernel
theorem dX9_greedy_45 : decode cX9_greedy 45 = .ok (.iload_n 3, 1) := by decide +kernel
theorem dX9_greedy_46 : decode cX9_greedy 46 = .ok (.iload 4, 2) := by decide +kernel
theorem dX9_greedy_48 : decode cX9_greedy 48 = .ok (.invokevirtual 170, 3) := by decide +kernel
theorem dX9_greedy_51 : decode cX9_greedy 51 = .ok (.istore 7, 2) := by decide +kernel
theorem dX9_greedy_53 : decode cX9_greedy 53 = .ok (.iload 7, 2) := by decide +kernel
theorem dX9_greedy_55 : decode cX9_greedy 55 = .ok (.iconst (-1), 1) := by decide +kernel
theorem dX9_greedy_56 : decode cX9_greedy 56 = .ok (.if_icmp .ne 8, 3) := by decide +kernel
theorem dX9_greedy_59 : decode cX9_greedy 59 = .ok (.iload 5, 2) := by decide +kernel
theorem dX9_greedy_61 : decode cX9_greedy 61 = .ok (.goto 17, 3) := by decide +kernel
theorem dX9_greedy_64 : decode cX9_greedy 64 = .ok (.aload_n 0, 1) := by decide +kernel
theorem dX9_greedy_65 : decode cX9_greedy 65 = .ok (.iload_n 1, 1) := by decide +kernel
theorem dX9_greedy_66 : decode cX9_greedy 66 = .ok (.iload_n 2, 1) := by decide +kernel
theorem dX9_greedy_67 : decode cX9_greedy 67 = .ok (.iload 4, 2) := by decide +kernel
theorem dX9_greedy_69 : decode cX9_greedy 69 = .ok (.iconst 1, 1) := by decide +kernel
theorem dX9_greedy_70 : decode cX9_greedy 70 = .ok (.iload 7, 2) := by decide +kernel
theorem dX9_greedy_72 : decode cX9_greedy 72 = .ok (.ishl, 1) := by decide +kernel
theorem dX9_greedy_73 : decode cX9_greedy 73 = .ok (.ior, 1) := by decide +kernel
theorem dX9_greedy_74 : decode cX9_greedy 74 = .ok (.iconst 0, 1) := by decide +kernel
theorem dX9_greedy_75 : decode cX9_greedy 75 = .ok (.invokevirtual 134, 3) := by decide +kernel
theorem dX9_greedy_78 : decode cX9_greedy 78 = .ok (.istore 8, 2) := by decide +kernel
theorem dX9_greedy_80 : decode cX9_greedy 80 = .ok (.iload 8, 2) := by decide +kernel
theorem dX9_greedy_82 : decode cX9_greedy 82 = .ok (.iload 5, 2) := by decide +kernel
theorem dX9_greedy_84 : decode cX9_greedy 84 = .ok (.if_icmp .le 7, 3) := by decide +kernel
theorem dX9_greedy_87 : decode cX9_greedy 87 = .ok (.iconst 1, 1) := by decide +kernel
theorem dX9_greedy_88 : decode cX9_greedy 88 = .ok (.goto 4, 3) := by decide +kernel
theorem dX9_greedy_91 : decode cX9_greedy 91 = .ok (.iconst 0, 1) := by decide +kernel
theorem dX9_greedy_92 : decode cX9_greedy 92 = .ok (.istore 6, 2) := by decide +kernel
theorem dX9_greedy_94 : decode cX9_greedy 94 = .ok (.iload 6, 2) := by decide +kernel
theorem dX9_greedy_96 : decode cX9_greedy 96 = .ok (.ifCond .eq 13, 3) := by decide +kernel
theorem dX9_greedy_99 : decode cX9_greedy 99 = .ok (.iload 4, 2) := by decide +kernel
theorem dX9_greedy_101 : decode cX9_greedy 101 = .ok (.iconst 1, 1) := by decide +kernel
theorem dX9_greedy_102 : decode cX9_greedy 102 = .ok (.iload 7, 2) := by decide +kernel
theorem dX9_greedy_104 : decode cX9_greedy 104 = .ok (.ishl, 1) := by decide +kernel
theorem dX9_greedy_105 : decode cX9_greedy 105 = .ok (.ior, 1) := by decide +kernel
theorem dX9_greedy_106 : decode cX9_greedy 106 = .ok (.goto 5, 3) := by decide +kernel
theorem dX9_greedy_109 : decode cX9_greedy 109 = .ok (.iload 4, 2) := by decide +kernel
theorem dX9_greedy_111 : decode cX9_greedy 111 = .ok (.istore 4, 2) := by decide +kernel
theorem dX9_greedy_113 : decode cX9_greedy 113 = .ok (.iload 6, 2) := by decide +kernel
theorem dX9_greedy_115 : decode cX9_greedy 115 = .ok (.ifCond .eq 8, 3) := by decide +kernel
theorem dX9_greedy_118 : decode cX9_greedy 118 = .ok (.iload 8, 2) := by decide +kernel
theorem dX9_greedy_120 : decode cX9_greedy 120 = .ok (.goto 5, 3) := by decide +kernel
theorem dX9_greedy_123 : decode cX9_greedy 123 = .ok (.iload 5, 2) := by decide +kernel
theorem dX9_greedy_125 : decode cX9_greedy 125 = .ok (.istore 5, 2) := by decide +kernel
theorem dX9_greedy_127 : decode cX9_greedy 127 = .ok (.goto (-90), 3) := by decide +kernel
theorem dX9_greedy_130 : decode cX9_greedy 130 = .ok (.aload_n 0, 1) := by decide +kernel
theorem dX9_greedy_131 : decode cX9_greedy 131 = .ok (.iload 4, 2) := by decide +kernel
theorem dX9_greedy_133 : decode cX9_greedy 133 = .ok (.putfield 16, 3) := by decide +kernel
theorem dX9_greedy_136 : decode cX9_greedy 136 = .ok (.iload 5, 2) := by decide +kernel
theorem dX9_greedy_138 : decode cX9_greedy 138 = .ok (.ireturn, 1) := by decide +kernel
theorem dX9_budgetFor_0 : decode cX9_budgetFor 0 = .ok (.iload_n 1, 1) := by decide +kernel
theorem dX9_budgetFor_1 : decode cX9_budgetFor 1 = .ok (.iload_n 2, 1) := by decide +kernel
theorem dX9_budgetFor_2 : decode cX9_budgetFor 2 = .ok (.invokestatic 53, 3) := by decide +kernel
theorem dX9_budgetFor_5 : decode cX9_budgetFor 5 = .ok (.ifCond .eq 14, 3) := by decide +kernel
theorem dX9_budgetFor_8 : decode cX9_budgetFor 8 = .ok (.iload_n 3, 1) := by decide +kernel
theorem dX9_budgetFor_9 : decode cX9_budgetFor 9 = .ok (.iconst 0, 1) := by decide +kernel
theorem dX9_budgetFor_10 : decode cX9_budgetFor 10 = .ok (.sipush 9999, 3) := by decide +kernel
theorem dX9_budgetFor_13 : decode cX9_budgetFor 13 = .ok (.invokestatic 38, 3) := by decide +kernel
theorem dX9_budgetFor_16 : decode cX9_budgetFor 16 = .ok (.ifCond .ne 6, 3) := by decide +kernel
theorem dX9_budgetFor_19 : decode cX9_budgetFor 19 = .ok (.bipush (-2), 2) := by decide +kernel
theorem dX9_budgetFor_21 : decode cX9_budgetFor 21 = .ok (.ireturn, 1) := by decide +kernel
theorem dX9_budgetFor_22 : decode cX9_budgetFor 22 = .ok (.iconst 0, 1) := by decide +kernel
theorem dX9_budgetFor_23 : decode cX9_budgetFor 23 = .ok (.istore 4, 2) := by decide +kernel
theorem dX9_budgetFor_25 : decode cX9_budgetFor 25 = .ok (.iload 4, 2) := by decide +kernel
theorem dX9_budgetFor_27 : decode cX9_budgetFor 27 = .ok (.iconst 5, 1) := by decide +kernel
theorem dX9_budgetFor_28 : decode cX9_budgetFor 28 = .ok (.if_icmp .gt 65, 3) := by decide +kernel
theorem dX9_budgetFor_31 : decode cX9_budgetFor 31 = .ok (.iconst 0, 1) := by decide +kernel
theorem dX9_budgetFor_32 : decode cX9_budgetFor 32 = .ok (.istore 5, 2) := by decide +kernel
theorem dX9_budgetFor_34 : decode cX9_budgetFor 34 = .ok (.iload 5, 2) := by decide +kernel
theorem dX9_budgetFor_36 : decode cX9_budgetFor 36 = .ok (.iconst 1, 1) := by decide +kernel
theorem dX9_budgetFor_37 : decode cX9_budgetFor 37 = .ok (.aload_n 0, 1) := by decide +kernel
theorem dX9_budgetFor_38 : decode cX9_budgetFor 38 = .ok (.getfield 7, 3) := by decide +kernel
theorem dX9_budgetFor_41 : decode cX9_budgetFor 41 = .ok (.bipush 80, 2) := by decide +kernel
theorem dX9_budgetFor_43 : decode cX9_budgetFor 43 = .ok (.iaload, 1) := by decide +kernel
theorem dX9_budgetFor_44 : decode cX9_budgetFor 44 = .ok (.ishl, 1) := by decide +kernel
theorem dX9_budgetFor_45 : decode cX9_budgetFor 45 = .ok (.if_icmp .ge 42, 3) := by decide +kernel
theorem dX9_budgetFor_48 : decode cX9_budgetFor 48 = .ok (.aload_n 0, 1) := by decide +kernel
theorem dX9_budgetFor_49 : decode cX9_budgetFor 49 = .ok (.iload 5, 2) := by decide +kernel
theorem dX9_budgetFor_51 : decode cX9_budgetFor 51 = .ok (.invokevirtual 118, 3) := by decide +kernel
theorem dX9_budgetFor_54 : decode cX9_budgetFor 54 = .ok (.iload 4, 2) := by decide +kernel
theorem dX9_budgetFor_56 : decode cX9_budgetFor 56 = .ok (.if_icmp .ne 25, 3) := by decide +kernel
theorem dX9_budgetFor_59 : decode cX9_budgetFor 59 = .ok (.aload_n 0, 1) := by decide +kernel
theorem dX9_budgetFor_60 : decode cX9_budgetFor 60 = .ok (.iload_n 1, 1) := by decide +kernel
theorem dX9_budgetFor_61 : decode cX9_budgetFor 61 = .ok (.iload_n 2, 1) := by decide +kernel
theorem dX9_budgetFor_62 : decode cX9_budgetFor 62 = .ok (.iload 5, 2) := by decide +kernel
theorem dX9_budgetFor_64 : decode cX9_budgetFor 64 = .ok (.iconst 0, 1) := by decide +kernel
theorem dX9_budgetFor_65 : decode cX9_budgetFor 65 = .ok (.invokevirtual 134, 3) := by decide +kernel
theorem dX9_budgetFor_68 : decode cX9_budgetFor 68 = .ok (.iload_n 3, 1) := by decide +kernel
theorem dX9_budgetFor_69 : decode cX9_budgetFor 69 = .ok (.if_icmp .lt 12, 3) := by decide +kernel
theorem dX9_budgetFor_72 : decode cX9_budgetFor 72 = .ok (.aload_n 0, 1) := by decide +kernel
theorem dX9_budgetFor_73 : decode cX9_budgetFor 73 = .ok (.iload 5, 2) := by decide +kernel
theorem dX9_budgetFor_75 : decode cX9_budgetFor 75 = .ok (.putfield 16, 3) := by decide +kernel
theorem dX9_budgetFor_78 : decode cX9_budgetFor 78 = .ok (.iload 4, 2) := by decide +kernel
theorem dX9_budgetFor_80 : decode cX9_budgetFor 80 = .ok (.ireturn, 1) := by decide +kernel
theorem dX9_budgetFor_81 : decode cX9_budgetFor 81 = .ok (.iinc 5 1, 3) := by decide +kernel
theorem dX9_budgetFor_84 : decode cX9_budgetFor 84 = .ok (.goto (-50), 3) := by decide +kernel
theorem dX9_budgetFor_87 : decode cX9_budgetFor 87 = .ok (.iinc 4 1, 3) := by decide +kernel
theorem dX9_budgetFor_90 : decode cX9_budgetFor 90 = .ok (.goto (-65), 3) := by decide +kernel
theorem dX9_budgetFor_93 : decode cX9_budgetFor 93 = .ok (.iconst (-1), 1) := by decide +kernel
theorem dX9_budgetFor_94 : decode cX9_budgetFor 94 = .ok (.ireturn, 1) := by decide +kernel
theorem dX9_blockade_0 : decode cX9_blockade 0 = .ok (.iload_n 1, 1) := by decide +kernel
theorem dX9_blockade_1 : decode cX9_blockade 1 = .ok (.iload_n 2, 1) := by decide +kernel
theorem dX9_blockade_2 : decode cX9_blockade 2 = .ok (.invokestatic 53, 3) := by decide +kernel
theorem dX9_blockade_5 : decode cX9_blockade 5 = .ok (.ifCond .ne 6, 3) := by decide +kernel
theorem dX9_blockade_8 : decode cX9_blockade 8 = .ok (.bipush (-2), 2) := by decide +kernel
theorem dX9_blockade_10 : decode cX9_blockade 10 = .ok (.ireturn, 1) := by decide +kernel
theorem dX9_blockade_11 : decode cX9_blockade 11 = .ok (.iconst (-1), 1) := by decide +kernel
theorem dX9_blockade_12 : decode cX9_blockade 12 = .ok (.istore_n 3, 1) := by decide +kernel
theorem dX9_blockade_13 : decode cX9_blockade 13 = .ok (.iconst 0, 1) := by decide +kernel
theorem dX9_blockade_14 : decode cX9_blockade 14 = .ok (.istore 4, 2) := by decide +kernel
theorem dX9_blockade_16 : decode cX9_blockade 16 = .ok (.iload 4, 2) := by decide +kernel
theorem dX9_blockade_18 : decode cX9_blockade 18 = .ok (.sipush 256, 3) := by decide +kernel
theorem dX9_blockade_21 : decode cX9_blockade 21 = .ok (.if_icmp .ge 170, 3) := by decide +kernel
theorem dX9_blockade_24 : decode cX9_blockade 24 = .ok (.iload 4, 2) := by decide +kernel
theorem dX9_blockade_26 : decode cX9_blockade 26 = .ok (.iload_n 1, 1) := by decide +kernel
theorem dX9_blockade_27 : decode cX9_blockade 27 = .ok (.ishr, 1) := by decide +kernel
theorem dX9_blockade_28 : decode cX9_blockade 28 = .ok (.iconst 1, 1) := by decide +kernel
theorem dX9_blockade_29 : decode cX9_blockade 29 = .ok (.iand, 1) := by decide +kernel
theorem dX9_blockade_30 : decode cX9_blockade 30 = .ok (.iconst 1, 1) := by decide +kernel
theorem dX9_blockade_31 : decode cX9_blockade 31 = .ok (.if_icmp .ne 16, 3) := by decide +kernel
theorem dX9_blockade_34 : decode cX9_blockade 34 = .ok (.iload 4, 2) := by decide +kernel
theorem dX9_blockade_36 : decode cX9_blockade 36 = .ok (.iload_n 2, 1) := by decide +kernel
theorem dX9_blockade_37 : decode cX9_blockade 37 = .ok (.ishr, 1) := by decide +kernel
theorem dX9_blockade_38 : decode cX9_blockade 38 = .ok (.iconst 1, 1) := by decide +kernel
theorem dX9_blockade_39 : decode cX9_blockade 39 = .ok (.iand, 1) := by decide +kernel
theorem dX9_blockade_40 : decode cX9_blockade 40 = .ok (.ifCond .ne 7, 3) := by decide +kernel
theorem dX9_blockade_43 : decode cX9_blockade 43 = .ok (.iconst 1, 1) := by decide +kernel
theorem dX9_blockade_44 : decode cX9_blockade 44 = .ok (.goto 4, 3) := by decide +kernel
theorem dX9_blockade_47 : decode cX9_blockade 47 = .ok (.iconst 0, 1) := by decide +kernel
theorem dX9_blockade_48 : decode cX9_blockade 48 = .ok (.istore 5, 2) := by decide +kernel
theorem dX9_blockade_50 : decode cX9_blockade 50 = .ok (.iconst 0, 1) := by decide +kernel
theorem dX9_blockade_51 : decode cX9_blockade 51 = .ok (.istore 6, 2) := by decide +kernel
theorem dX9_blockade_53 : decode cX9_blockade 53 = .ok (.iconst 0, 1) := by decide +kernel
theorem dX9_blockade_54 : decode cX9_blockade 54 = .ok (.istore 7, 2) := by decide +kernel
theorem dX9_blockade_56 : decode cX9_blockade 56 = .ok (.iload 7, 2) := by decide +kernel
theorem dX9_blockade_58 : decode cX9_blockade 58 = .ok (.aload_n 0, 1) := by decide +kernel
theorem dX9_blockade_59 : decode cX9_blockade 59 = .ok (.getfield 7, 3) := by decide +kernel
theorem dX9_blockade_62 : decode cX9_blockade 62 = .ok (.bipush 80, 2) := by decide +kernel
theorem dX9_blockade_64 : decode cX9_blockade 64 = .ok (.iaload, 1) := by decide +kernel
theorem dX9_blockade_65 : decode cX9_blockade 65 = .ok (.if_icmp .ge 97, 3) := by decide +kernel
theorem dX9_blockade_68 : decode cX9_blockade 68 = .ok (.iload 5, 2) := by decide +kernel
theorem dX9_blockade_70 : decode cX9_blockade 70 = .ok (.ifCond .eq 92, 3) := by decide +kernel
theorem dX9_blockade_73 : decode cX9_blockade 73 = .ok (.iload 4, 2) := by decide +kernel
theorem dX9_blockade_75 : decode cX9_blockade 75 = .ok (.aload_n 0, 1) := by decide +kernel
theorem dX9_blockade_76 : decode cX9_blockade 76 = .ok (.iload 7, 2) := by decide +kernel
theorem dX9_blockade_78 : decode cX9_blockade 78 = .ok (.iconst 0, 1) := by decide +kernel
theorem dX9_blockade_79 : decode cX9_blockade 79 = .ok (.invokevirtual 46, 3) := by decide +kernel
theorem dX9_blockade_82 : decode cX9_blockade 82 = .ok (.ishr, 1) := by decide +kernel
theorem dX9_blockade_83 : decode cX9_blockade 83 = .ok (.iconst 1, 1) := by decide +kernel
theorem dX9_blockade_84 : decode cX9_blockade 84 = .ok (.iand, 1) := by decide +kernel
theorem dX9_blockade_85 : decode cX9_blockade 85 = .ok (.iconst 1, 1) := by decide +kernel
theorem dX9_blockade_86 : decode cX9_blockade 86 = .ok (.if_icmp .ne 22, 3) := by decide +kernel
theorem dX9_blockade_89 : decode cX9_blockade 89 = .ok (.iload 4, 2) := by decide +kernel
theorem dX9_blockade_91 : decode cX9_blockade 91 = .ok (.aload_n 0, 1) := by decide +kernel
theorem dX9_blockade_92 : decode cX9_blockade 92 = .ok (.iload 7, 2) := by decide +kernel
theorem dX9_blockade_94 : decode cX9_blockade 94 = .ok (.iconst 1, 1) := by decide +kernel
theorem dX9_blockade_95 : decode cX9_blockade 95 = .ok (.invokevirtual 46, 3) := by decide +kernel
theorem dX9_blockade_98 : decode cX9_blockade 98 = .ok (.ishr, 1) := by decide +kernel
theorem dX9_blockade_99 : decode cX9_blockade 99 = .ok (.iconst 1, 1) := by decide +kernel
theorem dX9_blockade_100 : decode cX9_blockade 100 = .ok (.iand, 1) := by decide +kernel
theorem dX9_blockade_101 : decode cX9_blockade 101 = .ok (.ifCond .ne 7, 3) := by decide +kernel
theorem dX9_blockade_104 : decode cX9_blockade 104 = .ok (.iconst 1, 1) := by decide +kernel
theorem dX9_blockade_105 : decode cX9_blockade 105 = .ok (.goto 4, 3) := by decide +kernel
theorem dX9_blockade_108 : decode cX9_blockade 108 = .ok (.iconst 0, 1) := by decide +kernel
theorem dX9_blockade_109 : decode cX9_blockade 109 = .ok (.istore 8, 2) := by decide +kernel
theorem dX9_blockade_111 : decode cX9_blockade 111 = .ok (.iload 8, 2) := by decide +kernel
theorem dX9_blockade_113 : decode cX9_blockade 113 = .ok (.ifCond .eq 15, 3) := by decide +kernel
theorem dX9_blockade_116 : decode cX9_blockade 116 = .ok (.aload_n 0, 1) := by decide +kernel
theorem dX9_blockade_117 : decode cX9_blockade 117 = .ok (.iload 7, 2) := by decide +kernel
theorem dX9_blockade_119 : decode cX9_blockade 119 = .ok (.iconst 3, 1) := by decide +kernel
theorem dX9_blockade_120 : decode cX9_blockade 120 = .ok (.invokevirtual 46, 3) := by decide +kernel
theorem dX9_blockade_123 : decode cX9_blockade 123 = .ok (.bipush 100, 2) := by decide +kernel
theorem dX9_blockade_125 : decode cX9_blockade 125 = .ok (.if_icmp .ne 7, 3) := by decide +kernel
theorem dX9_blockade_128 : decode cX9_blockade 128 = .ok (.iconst 1, 1) := by decide +kernel
theorem dX9_blockade_129 : decode cX9_blockade 129 = .ok (.goto 4, 3) := by decide +kernel
theorem dX9_blockade_132 : decode cX9_blockade 132 = .ok (.iconst 0, 1) := by decide +kernel
theorem dX9_blockade_133 : decode cX9_blockade 133 = .ok (.istore 5, 2) := by decide +kernel
theorem dX9_blockade_135 : decode cX9_blockade 135 = .ok (.iload 6, 2) := by decide +kernel
theorem dX9_blockade_137 : decode cX9_blockade 137 = .ok (.iload 8, 2) := by decide +kernel
theorem dX9_blockade_139 : decode cX9_blockade 139 = .ok (.ifCond .eq 13, 3) := by decide +kernel
theorem dX9_blockade_142 : decode cX9_blockade 142 = .ok (.aload_n 0, 1) := by decide +kernel
theorem dX9_blockade_143 : decode cX9_blockade 143 = .ok (.iload 7, 2) := by decide +kernel
theorem dX9_blockade_145 : decode cX9_blockade 145 = .ok (.iconst 4, 1) := by decide +kernel
theorem dX9_blockade_146 : decode cX9_blockade 146 = .ok (.invokevirtual 46, 3) := by decide +kernel
theorem dX9_blockade_149 : decode cX9_blockade 149 = .ok (.goto 4, 3) := by decide +kernel
theorem dX9_blockade_152 : decode cX9_blockade 152 = .ok (.iconst 0, 1) := by decide +kernel
theorem dX9_blockade_153 : decode cX9_blockade 153 = .ok (.iadd, 1) := by decide +kernel
theorem dX9_blockade_154 : decode cX9_blockade 154 = .ok (.istore 6, 2) := by decide +kernel
theorem dX9_blockade_156 : decode cX9_blockade 156 = .ok (.iinc 7 1, 3) := by decide +kernel
theorem dX9_blockade_159 : decode cX9_blockade 159 = .ok (.goto (-103), 3) := by decide +kernel
theorem dX9_blockade_162 : decode cX9_blockade 162 = .ok (.iload 5, 2) := by decide +kernel
theorem dX9_blockade_164 : decode cX9_blockade 164 = .ok (.ifCond .eq 19, 3) := by decide +kernel
theorem dX9_blockade_167 : decode cX9_blockade 167 = .ok (.iload_n 3, 1) := by decide +kernel
theorem dX9_blockade_168 : decode cX9_blockade 168 = .ok (.iconst (-1), 1) := by decide +kernel
theorem dX9_blockade_169 : decode cX9_blockade 169 = .ok (.if_icmp .eq 9, 3) := by decide +kernel
theorem dX9_blockade_172 : decode cX9_blockade 172 = .ok (.iload 6, 2) := by decide +kernel
theorem dX9_blockade_174 : decode cX9_blockade 174 = .ok (.iload_n 3, 1) := by decide +kernel
theorem dX9_blockade_175 : decode cX9_blockade 175 = .ok (.if_icmp .ge 8, 3) := by decide +kernel
theorem dX9_blockade_178 : decode cX9_blockade 178 = .ok (.iload 6, 2) := by decide +kernel
theorem dX9_blockade_180 : decode cX9_blockade 180 = .ok (.goto 4, 3) := by decide +kernel
theorem dX9_blockade_183 : decode cX9_blockade 183 = .ok (.iload_n 3, 1) := by decide +kernel
theorem dX9_blockade_184 : decode cX9_blockade 184 = .ok (.istore_n 3, 1) := by decide +kernel
theorem dX9_blockade_185 : decode cX9_blockade 185 = .ok (.iinc 4 1, 3) := by decide +kernel
theorem dX9_blockade_188 : decode cX9_blockade 188 = .ok (.goto (-172), 3) := by decide +kernel
theorem dX9_blockade_191 : decode cX9_blockade 191 = .ok (.iload_n 3, 1) := by decide +kernel
theorem dX9_blockade_192 : decode cX9_blockade 192 = .ok (.ireturn, 1) := by decide +kernel
theorem dX9_respond_0 : decode cX9_respond 0 = .ok (.iload_n 1, 1) := by decide +kernel
theorem dX9_respond_1 : decode cX9_respond 1 = .ok (.iload_n 2, 1) := by decide +kernel
theorem dX9_respond_2 : decode cX9_respond 2 = .ok (.invokestatic 53, 3) := by decide +kernel
theorem dX9_respond_5 : decode cX9_respond 5 = .ok (.ifCond .eq 21, 3) := by decide +kernel
theorem dX9_respond_8 : decode cX9_respond 8 = .ok (.aload_n 0, 1) := by decide +kernel
theorem dX9_respond_9 : decode cX9_respond 9 = .ok (.iload_n 3, 1) := by decide +kernel
theorem dX9_respond_10 : decode cX9_respond 10 = .ok (.invokevirtual 121, 3) := by decide +kernel
theorem dX9_respond_13 : decode cX9_respond 13 = .ok (.ifCond .eq 13, 3) := by decide +kernel
theorem dX9_respond_16 : decode cX9_respond 16 = .ok (.iload 4, 2) := by decide +kernel
theorem dX9_respond_18 : decode cX9_respond 18 = .ok (.iconst 0, 1) := by decide +kernel
theorem dX9_respond_19 : decode cX9_respond 19 = .ok (.iconst 3, 1) := by decide +kernel
theorem dX9_respond_20 : decode cX9_respond 20 = .ok (.invokestatic 38, 3) := by decide +kernel
theorem dX9_respond_23 : decode cX9_respond 23 = .ok (.ifCond .ne 6, 3) := by decide +kernel
theorem dX9_respond_26 : decode cX9_respond 26 = .ok (.bipush (-2), 2) := by decide +kernel
theorem dX9_respond_28 : decode cX9_respond 28 = .ok (.ireturn, 1) := by decide +kernel
theorem dX9_respond_29 : decode cX9_respond 29 = .ok (.aload_n 0, 1) := by decide +kernel
theorem dX9_respond_30 : decode cX9_respond 30 = .ok (.iload_n 1, 1) := by decide +kernel
theorem dX9_respond_31 : decode cX9_respond 31 = .ok (.iload_n 2, 1) := by decide +kernel
theorem dX9_respond_32 : decode cX9_respond 32 = .ok (.iload_n 3, 1) := by decide +kernel
theorem dX9_respond_33 : decode cX9_respond 33 = .ok (.iload 4, 2) := by decide +kernel
theorem dX9_respond_35 : decode cX9_respond 35 = .ok (.invokevirtual 134, 3) := by decide +kernel
theorem dX9_respond_38 : decode cX9_respond 38 = .ok (.ireturn, 1) := by decide +kernel
theorem dX9_interdictResponse_0 : decode cX9_interdictResponse 0 = .ok (.iload_n 1, 1) := by decide +kernel
theorem dX9_interdictResponse_1 : decode cX9_interdictResponse 1 = .ok (.iload_n 2, 1) := by decide +kernel
theorem dX9_interdictResponse_2 : decode cX9_interdictResponse 2 = .ok (.invokestatic 53, 3) := by decide +kernel
theorem dX9_interdictResponse_5 : decode cX9_interdictResponse 5 = .ok (.ifCond .eq 22, 3) := by decide +kernel
theorem dX9_interdictResponse_8 : decode cX9_interdictResponse 8 = .ok (.iload_n 3, 1) := by decide +kernel
theorem dX9_interdictResponse_9 : decode cX9_interdictResponse 9 = .ok (.iconst 0, 1) := by decide +kernel
theorem dX9_interdictResponse_10 : decode cX9_interdictResponse 10 = .ok (.iconst 5, 1) := by decide +kernel
theorem dX9_interdictResponse_11 : decode cX9_interdictResponse 11 = .ok (.invokestatic 38, 3) := by decide +kernel
theorem dX9_interdictResponse_14 : decode cX9_interdictResponse 14 = .ok (.ifCond .eq 13, 3) := by decide +kernel
theorem dX9_interdictResponse_17 : decode cX9_interdictResponse 17 = .ok (.iload 4, 2) := by decide +kernel
theorem dX9_interdictResponse_19 : decode cX9_interdictResponse 19 = .ok (.iconst 0, 1) := by decide +kernel
theorem dX9_interdictResponse_20 : decode cX9_interdictResponse 20 = .ok (.iconst 3, 1) := by decide +kernel
theorem dX9_interdictResponse_21 : decode cX9_interdictResponse 21 = .ok (.invokestatic 38, 3) := by decide +kernel
theorem dX9_interdictResponse_24 : decode cX9_interdictResponse 24 = .ok (.ifCond .ne 6, 3) := by decide +kernel
theorem dX9_interdictResponse_27 : decode cX9_interdictResponse 27 = .ok (.bipush (-2), 2) := by decide +kernel
theorem dX9_interdictResponse_29 : decode cX9_interdictResponse 29 = .ok (.ireturn, 1) := by decide +kernel
theorem dX9_interdictResponse_30 : decode cX9_interdictResponse 30 = .ok (.aload_n 0, 1) := by decide +kernel
theorem dX9_interdictResponse_31 : decode cX9_interdictResponse 31 = .ok (.iload_n 1, 1) := by decide +kernel
theorem dX9_interdictResponse_32 : decode cX9_interdictResponse 32 = .ok (.iload_n 2, 1) := by decide +kernel
theorem dX9_interdictResponse_33 : decode cX9_interdictResponse 33 = .ok (.iload_n 3, 1) := by decide +kernel
theorem dX9_interdictResponse_34 : decode cX9_interdictResponse 34 = .ok (.iconst 0, 1) := by decide +kernel
theorem dX9_interdictResponse_35 : decode cX9_interdictResponse 35 = .ok (.iload 4, 2) := by decide +kernel
theorem dX9_interdictResponse_37 : decode cX9_interdictResponse 37 = .ok (.invokevirtual 166, 3) := by decide +kernel
theorem dX9_interdictResponse_40 : decode cX9_interdictResponse 40 = .ok (.istore 5, 2) := by decide +kernel
theorem dX9_interdictResponse_42 : decode cX9_interdictResponse 42 = .ok (.aload_n 0, 1) := by decide +kernel
theorem dX9_interdictResponse_43 : decode cX9_interdictResponse 43 = .ok (.aload_n 0, 1) := by decide +kernel
theorem dX9_interdictResponse_44 : decode cX9_interdictResponse 44 = .ok (.getfield 163, 3) := by decide +kernel
theorem dX9_interdictResponse_47 : decode cX9_interdictResponse 47 = .ok (.putfield 16, 3) := by decide +kernel
theorem dX9_interdictResponse_50 : decode cX9_interdictResponse 50 = .ok (.iload 5, 2) := by decide +kernel
theorem dX9_interdictResponse_52 : decode cX9_interdictResponse 52 = .ok (.ireturn, 1) := by decide +kernel
