/-! decode rows -/
theorem dX0_init_0 : decode cX0_init 0 = .ok (.aload_n 0, 1) := by decide +kernel
theorem dX0_init_1 : decode cX0_init 1 = .ok (.invokespecial 3, 3) := by decide +kernel
theorem dX0_init_4 : decode cX0_init 4 = .ok (.aload_n 0, 1) := by decide +kernel
theorem dX0_init_5 : decode cX0_init 5 = .ok (.iconst 0, 1) := by decide +kernel
theorem dX0_init_6 : decode cX0_init 6 = .ok (.putfield 9, 3) := by decide +kernel
theorem dX0_init_9 : decode cX0_init 9 = .ok (.aload_n 0, 1) := by decide +kernel
theorem dX0_init_10 : decode cX0_init 10 = .ok (.iconst 0, 1) := by decide +kernel
theorem dX0_init_11 : decode cX0_init 11 = .ok (.putfield 15, 3) := by decide +kernel
theorem dX0_init_14 : decode cX0_init 14 = .ok (.aload_n 0, 1) := by decide +kernel
theorem dX0_init_15 : decode cX0_init 15 = .ok (.iconst 0, 1) := by decide +kernel
theorem dX0_init_16 : decode cX0_init 16 = .ok (.putfield 18, 3) := by decide +kernel
theorem dX0_init_19 : decode cX0_init 19 = .ok (.aload_n 0, 1) := by decide +kernel
theorem dX0_init_20 : decode cX0_init 20 = .ok (.iconst 0, 1) := by decide +kernel
theorem dX0_init_21 : decode cX0_init 21 = .ok (.putfield 21, 3) := by decide +kernel
theorem dX0_init_24 : decode cX0_init 24 = .ok (.aload_n 0, 1) := by decide +kernel
theorem dX0_init_25 : decode cX0_init 25 = .ok (.iconst 0, 1) := by decide +kernel
theorem dX0_init_26 : decode cX0_init 26 = .ok (.putfield 24, 3) := by decide +kernel
theorem dX0_init_29 : decode cX0_init 29 = .ok (.aload_n 0, 1) := by decide +kernel
theorem dX0_init_30 : decode cX0_init 30 = .ok (.iconst 0, 1) := by decide +kernel
theorem dX0_init_31 : decode cX0_init 31 = .ok (.putfield 27, 3) := by decide +kernel
theorem dX0_init_34 : decode cX0_init 34 = .ok (.aload_n 0, 1) := by decide +kernel
theorem dX0_init_35 : decode cX0_init 35 = .ok (.iconst 0, 1) := by decide +kernel
theorem dX0_init_36 : decode cX0_init 36 = .ok (.putfield 31, 3) := by decide +kernel
theorem dX0_init_39 : decode cX0_init 39 = .ok (.aload_n 0, 1) := by decide +kernel
theorem dX0_init_40 : decode cX0_init 40 = .ok (.iconst 0, 1) := by decide +kernel
theorem dX0_init_41 : decode cX0_init 41 = .ok (.putfield 34, 3) := by decide +kernel
theorem dX0_init_44 : decode cX0_init 44 = .ok (.aload_n 0, 1) := by decide +kernel
theorem dX0_init_45 : decode cX0_init 45 = .ok (.iconst 0, 1) := by decide +kernel
theorem dX0_init_46 : decode cX0_init 46 = .ok (.putfield 37, 3) := by decide +kernel
theorem dX0_init_49 : decode cX0_init 49 = .ok (.aload_n 0, 1) := by decide +kernel
theorem dX0_init_50 : decode cX0_init 50 = .ok (.iconst 0, 1) := by decide +kernel
theorem dX0_init_51 : decode cX0_init 51 = .ok (.putfield 40, 3) := by decide +kernel
theorem dX0_init_54 : decode cX0_init 54 = .ok (.aload_n 0, 1) := by decide +kernel
theorem dX0_init_55 : decode cX0_init 55 = .ok (.aload_n 1, 1) := by decide +kernel
theorem dX0_init_56 : decode cX0_init 56 = .ok (.putfield 43, 3) := by decide +kernel
theorem dX0_init_59 : decode cX0_init 59 = .ok (.aload_n 0, 1) := by decide +kernel
theorem dX0_init_60 : decode cX0_init 60 = .ok (.aload_n 2, 1) := by decide +kernel
theorem dX0_init_61 : decode cX0_init 61 = .ok (.putfield 47, 3) := by decide +kernel
theorem dX0_init_64 : decode cX0_init 64 = .ok (.return_, 1) := by decide +kernel
theorem dX0_seekBest_0 : decode cX0_seekBest 0 = .ok (.aload_n 0, 1) := by decide +kernel
theorem dX0_seekBest_1 : decode cX0_seekBest 1 = .ok (.iload_n 1, 1) := by decide +kernel
theorem dX0_seekBest_2 : decode cX0_seekBest 2 = .ok (.putfield 9, 3) := by decide +kernel
theorem dX0_seekBest_5 : decode cX0_seekBest 5 = .ok (.aload_n 0, 1) := by decide +kernel
theorem dX0_seekBest_6 : decode cX0_seekBest 6 = .ok (.iload_n 2, 1) := by decide +kernel
theorem dX0_seekBest_7 : decode cX0_seekBest 7 = .ok (.putfield 15, 3) := by decide +kernel
theorem dX0_seekBest_10 : decode cX0_seekBest 10 = .ok (.aload_n 0, 1) := by decide +kernel
theorem dX0_seekBest_11 : decode cX0_seekBest 11 = .ok (.iload_n 3, 1) := by decide +kernel
theorem dX0_seekBest_12 : decode cX0_seekBest 12 = .ok (.putfield 18, 3) := by decide +kernel
theorem dX0_seekBest_15 : decode cX0_seekBest 15 = .ok (.aload_n 0, 1) := by decide +kernel
theorem dX0_seekBest_16 : decode cX0_seekBest 16 = .ok (.iload 4, 2) := by decide +kernel
theorem dX0_seekBest_18 : decode cX0_seekBest 18 = .ok (.putfield 21, 3) := by decide +kernel
theorem dX0_seekBest_21 : decode cX0_seekBest 21 = .ok (.aload_n 0, 1) := by decide +kernel
theorem dX0_seekBest_22 : decode cX0_seekBest 22 = .ok (.iload 5, 2) := by decide +kernel
theorem dX0_seekBest_24 : decode cX0_seekBest 24 = .ok (.putfield 24, 3) := by decide +kernel
theorem dX0_seekBest_27 : decode cX0_seekBest 27 = .ok (.aload_n 0, 1) := by decide +kernel
theorem dX0_seekBest_28 : decode cX0_seekBest 28 = .ok (.iconst 0, 1) := by decide +kernel
theorem dX0_seekBest_29 : decode cX0_seekBest 29 = .ok (.putfield 27, 3) := by decide +kernel
theorem dX0_seekBest_32 : decode cX0_seekBest 32 = .ok (.aload_n 0, 1) := by decide +kernel
theorem dX0_seekBest_33 : decode cX0_seekBest 33 = .ok (.iconst (-1), 1) := by decide +kernel
theorem dX0_seekBest_34 : decode cX0_seekBest 34 = .ok (.putfield 31, 3) := by decide +kernel
theorem dX0_seekBest_37 : decode cX0_seekBest 37 = .ok (.aload_n 0, 1) := by decide +kernel
theorem dX0_seekBest_38 : decode cX0_seekBest 38 = .ok (.iconst 0, 1) := by decide +kernel
theorem dX0_seekBest_39 : decode cX0_seekBest 39 = .ok (.iconst 0, 1) := by decide +kernel
theorem dX0_seekBest_40 : decode cX0_seekBest 40 = .ok (.iload 6, 2) := by decide +kernel
theorem dX0_seekBest_42 : decode cX0_seekBest 42 = .ok (.iconst 0, 1) := by decide +kernel
theorem dX0_seekBest_43 : decode cX0_seekBest 43 = .ok (.invokevirtual 51, 3) := by decide +kernel
theorem dX0_seekBest_46 : decode cX0_seekBest 46 = .ok (.return_, 1) := by decide +kernel
theorem dX0_seekHelpful_0 : decode cX0_seekHelpful 0 = .ok (.aload_n 0, 1) := by decide +kernel
theorem dX0_seekHelpful_1 : decode cX0_seekHelpful 1 = .ok (.iload_n 1, 1) := by decide +kernel
theorem dX0_seekHelpful_2 : decode cX0_seekHelpful 2 = .ok (.putfield 9, 3) := by decide +kernel
theorem dX0_seekHelpful_5 : decode cX0_seekHelpful 5 = .ok (.aload_n 0, 1) := by decide +kernel
theorem dX0_seekHelpful_6 : decode cX0_seekHelpful 6 = .ok (.iload_n 2, 1) := by decide +kernel
theorem dX0_seekHelpful_7 : decode cX0_seekHelpful 7 = .ok (.putfield 15, 3) := by decide +kernel
theorem dX0_seekHelpful_10 : decode cX0_seekHelpful 10 = .ok (.aload_n 0, 1) := by decide +kernel
theorem dX0_seekHelpful_11 : decode cX0_seekHelpful 11 = .ok (.iload_n 3, 1) := by decide +kernel
theorem dX0_seekHelpful_12 : decode cX0_seekHelpful 12 = .ok (.putfield 18, 3) := by decide +kernel
theorem dX0_seekHelpful_15 : decode cX0_seekHelpful 15 = .ok (.aload_n 0, 1) := by decide +kernel
theorem dX0_seekHelpful_16 : decode cX0_seekHelpful 16 = .ok (.iconst 0, 1) := by decide +kernel
theorem dX0_seekHelpful_17 : decode cX0_seekHelpful 17 = .ok (.putfield 21, 3) := by decide +kernel
theorem dX0_seekHelpful_20 : decode cX0_seekHelpful 20 = .ok (.aload_n 0, 1) := by decide +kernel
theorem dX0_seekHelpful_21 : decode cX0_seekHelpful 21 = .ok (.sipush 9999, 3) := by decide +kernel
theorem dX0_seekHelpful_24 : decode cX0_seekHelpful 24 = .ok (.putfield 24, 3) := by decide +kernel
theorem dX0_seekHelpful_27 : decode cX0_seekHelpful 27 = .ok (.aload_n 0, 1) := by decide +kernel
theorem dX0_seekHelpful_28 : decode cX0_seekHelpful 28 = .ok (.iconst 1, 1) := by decide +kernel
theorem dX0_seekHelpful_29 : decode cX0_seekHelpful 29 = .ok (.putfield 27, 3) := by decide +kernel
theorem dX0_seekHelpful_32 : decode cX0_seekHelpful 32 = .ok (.aload_n 0, 1) := by decide +kernel
theorem dX0_seekHelpful_33 : decode cX0_seekHelpful 33 = .ok (.iconst 0, 1) := by decide +kernel
theorem dX0_seekHelpful_34 : decode cX0_seekHelpful 34 = .ok (.putfield 40, 3) := by decide +kernel
theorem dX0_seekHelpful_37 : decode cX0_seekHelpful 37 = .ok (.aload_n 0, 1) := by decide +kernel
theorem dX0_seekHelpful_38 : decode cX0_seekHelpful 38 = .ok (.iconst 0, 1) := by decide +kernel
theorem dX0_seekHelpful_39 : decode cX0_seekHelpful 39 = .ok (.iconst 0, 1) := by decide +kernel
theorem dX0_seekHelpful_40 : decode cX0_seekHelpful 40 = .ok (.iconst 0, 1) := by decide +kernel
theorem dX0_seekHelpful_41 : decode cX0_seekHelpful 41 = .ok (.iconst 0, 1) := by decide +kernel
theorem dX0_seekHelpful_42 : decode cX0_seekHelpful 42 = .ok (.invokevirtual 51, 3) := by decide +kernel
theorem dX0_seekHelpful_45 : decode cX0_seekHelpful 45 = .ok (.return_, 1) := by decide +kernel
theorem dX0_grow_0 : decode cX0_grow 0 = .ok (.aload_n 0, 1) := by decide +kernel
theorem dX0_grow_1 : decode cX0_grow 1 = .ok (.getfield 47, 3) := by decide +kernel
theorem dX0_grow_4 : decode cX0_grow 4 = .ok (.aload_n 0, 1) := by decide +kernel
theorem dX0_grow_5 : decode cX0_grow 5 = .ok (.getfield 9, 3) := by decide +kernel
theorem dX0_grow_8 : decode cX0_grow 8 = .ok (.iload_n 1, 1) := by decide +kernel
theorem dX0_grow_9 : decode cX0_grow 9 = .ok (.aload_n 0, 1) := by decide +kernel
theorem dX0_grow_10 : decode cX0_grow 10 = .ok (.getfield 21, 3) := by decide +kernel
theorem dX0_grow_13 : decode cX0_grow 13 = .ok (.invokevirtual 55, 3) := by decide +kernel
theorem dX0_grow_16 : decode cX0_grow 16 = .ok (.aload_n 0, 1) := by decide +kernel
theorem dX0_grow_17 : decode cX0_grow 17 = .ok (.getfield 47, 3) := by decide +kernel
theorem dX0_grow_20 : decode cX0_grow 20 = .ok (.aload_n 0, 1) := by decide +kernel
theorem dX0_grow_21 : decode cX0_grow 21 = .ok (.getfield 15, 3) := by decide +kernel
theorem dX0_grow_24 : decode cX0_grow 24 = .ok (.invokevirtual 61, 3) := by decide +kernel
theorem dX0_grow_27 : decode cX0_grow 27 = .ok (.istore 5, 2) := by decide +kernel
theorem dX0_grow_29 : decode cX0_grow 29 = .ok (.aload_n 0, 1) := by decide +kernel
theorem dX0_grow_30 : decode cX0_grow 30 = .ok (.getfield 47, 3) := by decide +kernel
theorem dX0_grow_33 : decode cX0_grow 33 = .ok (.aload_n 0, 1) := by decide +kernel
theorem dX0_grow_34 : decode cX0_grow 34 = .ok (.getfield 15, 3) := by decide +kernel
theorem dX0_grow_37 : decode cX0_grow 37 = .ok (.invokevirtual 65, 3) := by decide +kernel
theorem dX0_grow_40 : decode cX0_grow 40 = .ok (.iload_n 1, 1) := by decide +kernel
theorem dX0_grow_41 : decode cX0_grow 41 = .ok (.iconst (-1), 1) := by decide +kernel
theorem dX0_grow_42 : decode cX0_grow 42 = .ok (.ixor, 1) := by decide +kernel
theorem dX0_grow_43 : decode cX0_grow 43 = .ok (.iand, 1) := by decide +kernel
theorem dX0_grow_44 : decode cX0_grow 44 = .ok (.iload_n 3, 1) := by decide +kernel
theorem dX0_grow_45 : decode cX0_grow 45 = .ok (.iconst (-1), 1) := by decide +kernel
theorem dX0_grow_46 : decode cX0_grow 46 = .ok (.ixor, 1) := by decide +kernel
theorem dX0_grow_47 : decode cX0_grow 47 = .ok (.iand, 1) := by decide +kernel
theorem dX0_grow_48 : decode cX0_grow 48 = .ok (.istore 6, 2) := by decide +kernel
theorem dX0_grow_50 : decode cX0_grow 50 = .ok (.aload_n 0, 1) := by decide +kernel
theorem dX0_grow_51 : decode cX0_grow 51 = .ok (.getfield 27, 3) := by decide +kernel
theorem dX0_grow_54 : decode cX0_grow 54 = .ok (.ifCond .eq 13, 3) := by decide +kernel
theorem dX0_grow_57 : decode cX0_grow 57 = .ok (.aload_n 0, 1) := by decide +kernel
theorem dX0_grow_58 : decode cX0_grow 58 = .ok (.iload_n 1, 1) := by decide +kernel
theorem dX0_grow_59 : decode cX0_grow 59 = .ok (.iload 5, 2) := by decide +kernel
theorem dX0_grow_61 : decode cX0_grow 61 = .ok (.invokevirtual 68, 3) := by decide +kernel
theorem dX0_grow_64 : decode cX0_grow 64 = .ok (.goto 11, 3) := by decide +kernel
theorem dX0_grow_67 : decode cX0_grow 67 = .ok (.aload_n 0, 1) := by decide +kernel
theorem dX0_grow_68 : decode cX0_grow 68 = .ok (.iload_n 1, 1) := by decide +kernel
theorem dX0_grow_69 : decode cX0_grow 69 = .ok (.iload_n 2, 1) := by decide +kernel
theorem dX0_grow_70 : decode cX0_grow 70 = .ok (.iload 5, 2) := by decide +kernel
theorem dX0_grow_72 : decode cX0_grow 72 = .ok (.invokevirtual 72, 3) := by decide +kernel
theorem dX0_grow_75 : decode cX0_grow 75 = .ok (.iload 5, 2) := by decide +kernel
theorem dX0_grow_77 : decode cX0_grow 77 = .ok (.aload_n 0, 1) := by decide +kernel
theorem dX0_grow_78 : decode cX0_grow 78 = .ok (.getfield 24, 3) := by decide +kernel
theorem dX0_grow_81 : decode cX0_grow 81 = .ok (.if_icmp .ge 10, 3) := by decide +kernel
theorem dX0_grow_84 : decode cX0_grow 84 = .ok (.iload 4, 2) := by decide +kernel
theorem dX0_grow_86 : decode cX0_grow 86 = .ok (.bipush 16, 2) := by decide +kernel
theorem dX0_grow_88 : decode cX0_grow 88 = .ok (.if_icmp .lt 4, 3) := by decide +kernel
theorem dX0_grow_91 : decode cX0_grow 91 = .ok (.return_, 1) := by decide +kernel
theorem dX0_grow_92 : decode cX0_grow 92 = .ok (.iload_n 3, 1) := by decide +kernel
theorem dX0_grow_93 : decode cX0_grow 93 = .ok (.istore 7, 2) := by decide +kernel
theorem dX0_grow_95 : decode cX0_grow 95 = .ok (.iconst 0, 1) := by decide +kernel
theorem dX0_grow_96 : decode cX0_grow 96 = .ok (.istore 8, 2) := by decide +kernel
theorem dX0_grow_98 : decode cX0_grow 98 = .ok (.iload 8, 2) := by decide +kernel
theorem dX0_grow_100 : decode cX0_grow 100 = .ok (.aload_n 0, 1) := by decide +kernel
theorem dX0_grow_101 : decode cX0_grow 101 = .ok (.getfield 43, 3) := by decide +kernel
theorem dX0_grow_104 : decode cX0_grow 104 = .ok (.getfield 75, 3) := by decide +kernel
theorem dX0_grow_107 : decode cX0_grow 107 = .ok (.if_icmp .ge 68, 3) := by decide +kernel
theorem dX0_grow_110 : decode cX0_grow 110 = .ok (.iload 6, 2) := by decide +kernel
theorem dX0_grow_112 : decode cX0_grow 112 = .ok (.iload 8, 2) := by decide +kernel
theorem dX0_grow_114 : decode cX0_grow 114 = .ok (.ishr, 1) := by decide +kernel
theorem dX0_grow_115 : decode cX0_grow 115 = .ok (.iconst 1, 1) := by decide +kernel
theorem dX0_grow_116 : decode cX0_grow 116 = .ok (.iand, 1) := by decide +kernel
theorem dX0_grow_117 : decode cX0_grow 117 = .ok (.ifCond .eq 52, 3) := by decide +kernel
theorem dX0_grow_120 : decode cX0_grow 120 = .ok (.iload_n 2, 1) := by decide +kernel
theorem dX0_grow_121 : decode cX0_grow 121 = .ok (.aload_n 0, 1) := by decide +kernel
theorem dX0_grow_122 : decode cX0_grow 122 = .ok (.getfield 43, 3) := by decide +kernel
theorem dX0_grow_125 : decode cX0_grow 125 = .ok (.iload 8, 2) := by decide +kernel
theorem dX0_grow_127 : decode cX0_grow 127 = .ok (.invokevirtual 80, 3) := by decide +kernel
theorem dX0_grow_130 : decode cX0_grow 130 = .ok (.iadd, 1) := by decide +kernel
theorem dX0_grow_131 : decode cX0_grow 131 = .ok (.istore 9, 2) := by decide +kernel
theorem dX0_grow_133 : decode cX0_grow 133 = .ok (.iload 9, 2) := by decide +kernel
theorem dX0_grow_135 : decode cX0_grow 135 = .ok (.aload_n 0, 1) := by decide +kernel
theorem dX0_grow_136 : decode cX0_grow 136 = .ok (.getfield 18, 3) := by decide +kernel
theorem dX0_grow_139 : decode cX0_grow 139 = .ok (.if_icmp .gt 21, 3) := by decide +kernel
theorem dX0_grow_142 : decode cX0_grow 142 = .ok (.aload_n 0, 1) := by decide +kernel
theorem dX0_grow_143 : decode cX0_grow 143 = .ok (.iload_n 1, 1) := by decide +kernel
theorem dX0_grow_144 : decode cX0_grow 144 = .ok (.iconst 1, 1) := by decide +kernel
theorem dX0_grow_145 : decode cX0_grow 145 = .ok (.iload 8, 2) := by decide +kernel
theorem dX0_grow_147 : decode cX0_grow 147 = .ok (.ishl, 1) := by decide +kernel
theorem dX0_grow_148 : decode cX0_grow 148 = .ok (.ior, 1) := by decide +kernel
theorem dX0_grow_149 : decode cX0_grow 149 = .ok (.iload 9, 2) := by decide +kernel
theorem dX0_grow_151 : decode cX0_grow 151 = .ok (.iload 7, 2) := by decide +kernel
theorem dX0_grow_153 : decode cX0_grow 153 = .ok (.iload 4, 2) := by decide +kernel
theorem dX0_grow_155 : decode cX0_grow 155 = .ok (.iconst 1, 1) := by decide +kernel
theorem dX0_grow_156 : decode cX0_grow 156 = .ok (.iadd, 1) := by decide +kernel
theorem dX0_grow_157 : decode cX0_grow 157 = .ok (.invokevirtual 51, 3) := by decide +kernel
theorem dX0_grow_160 : decode cX0_grow 160 = .ok (.iload 7, 2) := by decide +kernel
theorem dX0_grow_162 : decode cX0_grow 162 = .ok (.iconst 1, 1) := by decide +kernel
theorem dX0_grow_163 : decode cX0_grow 163 = .ok (.iload 8, 2) := by decide +kernel
theorem dX0_grow_165 : decode cX0_grow 165 = .ok (.ishl, 1) := by decide +kernel
theorem dX0_grow_166 : decode cX0_grow 166 = .ok (.ior, 1) := by decide +kernel
theorem dX0_grow_167 : decode cX0_grow 167 = .ok (.istore 7, 2) := by decide +kernel
theorem dX0_grow_169 : decode cX0_grow 169 = .ok (.iinc 8 1, 3) := by decide +kernel
theorem dX0_grow_172 : decode cX0_grow 172 = .ok (.goto (-74), 3) := by decide +kernel
theorem dX0_grow_175 : decode cX0_grow 175 = .ok (.return_, 1) := by decide +kernel
theorem dX0_weigh_0 : decode cX0_weigh 0 = .ok (.iload_n 3, 1) := by decide +kernel
theorem dX0_weigh_1 : decode cX0_weigh 1 = .ok (.aload_n 0, 1) := by decide +kernel
theorem dX0_weigh_2 : decode cX0_weigh 2 = .ok (.getfield 24, 3) := by decide +kernel
theorem dX0_weigh_5 : decode cX0_weigh 5 = .ok (.invokestatic 83, 3) := by decide +kernel
theorem dX0_weigh_8 : decode cX0_weigh 8 = .ok (.istore 4, 2) := by decide +kernel
theorem dX0_weigh_10 : decode cX0_weigh 10 = .ok (.iload 4, 2) := by decide +kernel
theorem dX0_weigh_12 : decode cX0_weigh 12 = .ok (.aload_n 0, 1) := by decide +kernel
theorem dX0_weigh_13 : decode cX0_weigh 13 = .ok (.getfield 31, 3) := by decide +kernel
theorem dX0_weigh_16 : decode cX0_weigh 16 = .ok (.if_icmp .gt 21, 3) := by decide +kernel
theorem dX0_weigh_19 : decode cX0_weigh 19 = .ok (.iload 4, 2) := by decide +kernel
theorem dX0_weigh_21 : decode cX0_weigh 21 = .ok (.aload_n 0, 1) := by decide +kernel
theorem dX0_weigh_22 : decode cX0_weigh 22 = .ok (.getfield 31, 3) := by decide +kernel
theorem dX0_weigh_25 : decode cX0_weigh 25 = .ok (.if_icmp .ne 28, 3) := by decide +kernel
theorem dX0_weigh_28 : decode cX0_weigh 28 = .ok (.aload_n 0, 1) := by decide +kernel
theorem dX0_weigh_29 : decode cX0_weigh 29 = .ok (.iload_n 1, 1) := by decide +kernel
theorem dX0_weigh_30 : decode cX0_weigh 30 = .ok (.iload_n 2, 1) := by decide +kernel
theorem dX0_weigh_31 : decode cX0_weigh 31 = .ok (.invokevirtual 89, 3) := by decide +kernel
theorem dX0_weigh_34 : decode cX0_weigh 34 = .ok (.ifCond .eq 19, 3) := by decide +kernel
theorem dX0_weigh_37 : decode cX0_weigh 37 = .ok (.aload_n 0, 1) := by decide +kernel
theorem dX0_weigh_38 : decode cX0_weigh 38 = .ok (.iload 4, 2) := by decide +kernel
theorem dX0_weigh_40 : decode cX0_weigh 40 = .ok (.putfield 31, 3) := by decide +kernel
theorem dX0_weigh_43 : decode cX0_weigh 43 = .ok (.aload_n 0, 1) := by decide +kernel
theorem dX0_weigh_44 : decode cX0_weigh 44 = .ok (.iload_n 2, 1) := by decide +kernel
theorem dX0_weigh_45 : decode cX0_weigh 45 = .ok (.putfield 34, 3) := by decide +kernel
theorem dX0_weigh_48 : decode cX0_weigh 48 = .ok (.aload_n 0, 1) := by decide +kernel
theorem dX0_weigh_49 : decode cX0_weigh 49 = .ok (.iload_n 1, 1) := by decide +kernel
theorem dX0_weigh_50 : decode cX0_weigh 50 = .ok (.putfield 37, 3) := by decide +kernel
theorem dX0_weigh_53 : decode cX0_weigh 53 = .ok (.return_, 1) := by decide +kernel
theorem dX0_isCheaper_0 : decode cX0_isCheaper 0 = .ok (.iload_n 2, 1) := by decide +kernel
theorem dX0_isCheaper_1 : decode cX0_isCheaper 1 = .ok (.aload_n 0, 1) := by decide +kernel
theorem dX0_isCheaper_2 : decode cX0_isCheaper 2 = .ok (.getfield 34, 3) := by decide +kernel
theorem dX0_isCheaper_5 : decode cX0_isCheaper 5 = .ok (.if_icmp .lt 19, 3) := by decide +kernel
theorem dX0_isCheaper_8 : decode cX0_isCheaper 8 = .ok (.iload_n 2, 1) := by decide +kernel
theorem dX0_isCheaper_9 : decode cX0_isCheaper 9 = .ok (.aload_n 0, 1) := by decide +kernel
theorem dX0_isCheaper_10 : decode cX0_isCheaper 10 = .ok (.getfield 34, 3) := by decide +kernel
theorem dX0_isCheaper_13 : decode cX0_isCheaper 13 = .ok (.if_icmp .ne 15, 3) := by decide +kernel
theorem dX0_isCheaper_16 : decode cX0_isCheaper 16 = .ok (.iload_n 1, 1) := by decide +kernel
theorem dX0_isCheaper_17 : decode cX0_isCheaper 17 = .ok (.aload_n 0, 1) := by decide +kernel
theorem dX0_isCheaper_18 : decode cX0_isCheaper 18 = .ok (.getfield 37, 3) := by decide +kernel
theorem dX0_isCheaper_21 : decode cX0_isCheaper 21 = .ok (.if_icmp .ge 7, 3) := by decide +kernel
theorem dX0_isCheaper_24 : decode cX0_isCheaper 24 = .ok (.iconst 1, 1) := by decide +kernel
theorem dX0_isCheaper_25 : decode cX0_isCheaper 25 = .ok (.goto 4, 3) := by decide +kernel
theorem dX0_isCheaper_28 : decode cX0_isCheaper 28 = .ok (.iconst 0, 1) := by decide +kernel
theorem dX0_isCheaper_29 : decode cX0_isCheaper 29 = .ok (.ireturn, 1) := by decide +kernel
theorem dX0_markHelpful_0 : decode cX0_markHelpful 0 = .ok (.iload_n 1, 1) := by decide +kernel
theorem dX0_markHelpful_1 : decode cX0_markHelpful 1 = .ok (.aload_n 0, 1) := by decide +kernel
theorem dX0_markHelpful_2 : decode cX0_markHelpful 2 = .ok (.getfield 40, 3) := by decide +kernel
theorem dX0_markHelpful_5 : decode cX0_markHelpful 5 = .ok (.iconst (-1), 1) := by decide +kernel
theorem dX0_markHelpful_6 : decode cX0_markHelpful 6 = .ok (.ixor, 1) := by decide +kernel
theorem dX0_markHelpful_7 : decode cX0_markHelpful 7 = .ok (.iand, 1) := by decide +kernel
theorem dX0_markHelpful_8 : decode cX0_markHelpful 8 = .ok (.istore_n 3, 1) := by decide +kernel
theorem dX0_markHelpful_9 : decode cX0_markHelpful 9 = .ok (.iconst 0, 1) := by decide +kernel
theorem dX0_markHelpful_10 : decode cX0_markHelpful 10 = .ok (.istore 4, 2) := by decide +kernel
theorem dX0_markHelpful_12 : decode cX0_markHelpful 12 = .ok (.iload 4, 2) := by decide +kernel
theorem dX0_markHelpful_14 : decode cX0_markHelpful 14 = .ok (.aload_n 0, 1) := by decide +kernel
theorem dX0_markHelpful_15 : decode cX0_markHelpful 15 = .ok (.getfield 43, 3) := by decide +kernel
theorem dX0_markHelpful_18 : decode cX0_markHelpful 18 = .ok (.getfield 75, 3) := by decide +kernel
theorem dX0_markHelpful_21 : decode cX0_markHelpful 21 = .ok (.if_icmp .ge 66, 3) := by decide +kernel
theorem dX0_markHelpful_24 : decode cX0_markHelpful 24 = .ok (.iconst 1, 1) := by decide +kernel
theorem dX0_markHelpful_25 : decode cX0_markHelpful 25 = .ok (.iload 4, 2) := by decide +kernel
theorem dX0_markHelpful_27 : decode cX0_markHelpful 27 = .ok (.ishl, 1) := by decide +kernel
theorem dX0_markHelpful_28 : decode cX0_markHelpful 28 = .ok (.istore 5, 2) := by decide +kernel
theorem dX0_markHelpful_30 : decode cX0_markHelpful 30 = .ok (.iload_n 3, 1) := by decide +kernel
theorem dX0_markHelpful_31 : decode cX0_markHelpful 31 = .ok (.iload 5, 2) := by decide +kernel
theorem dX0_markHelpful_33 : decode cX0_markHelpful 33 = .ok (.iand, 1) := by decide +kernel
theorem dX0_markHelpful_34 : decode cX0_markHelpful 34 = .ok (.ifCond .eq 47, 3) := by decide +kernel
theorem dX0_markHelpful_37 : decode cX0_markHelpful 37 = .ok (.aload_n 0, 1) := by decide +kernel
theorem dX0_markHelpful_38 : decode cX0_markHelpful 38 = .ok (.getfield 47, 3) := by decide +kernel
theorem dX0_markHelpful_41 : decode cX0_markHelpful 41 = .ok (.aload_n 0, 1) := by decide +kernel
theorem dX0_markHelpful_42 : decode cX0_markHelpful 42 = .ok (.getfield 9, 3) := by decide +kernel
theorem dX0_markHelpful_45 : decode cX0_markHelpful 45 = .ok (.iload_n 1, 1) := by decide +kernel
theorem dX0_markHelpful_46 : decode cX0_markHelpful 46 = .ok (.iload 5, 2) := by decide +kernel
theorem dX0_markHelpful_48 : decode cX0_markHelpful 48 = .ok (.iconst (-1), 1) := by decide +kernel
theorem dX0_markHelpful_49 : decode cX0_markHelpful 49 = .ok (.ixor, 1) := by decide +kernel
theorem dX0_markHelpful_50 : decode cX0_markHelpful 50 = .ok (.iand, 1) := by decide +kernel
theorem dX0_markHelpful_51 : decode cX0_markHelpful 51 = .ok (.iconst 0, 1) := by decide +kernel
theorem dX0_markHelpful_52 : decode cX0_markHelpful 52 = .ok (.invokevirtual 55, 3) := by decide +kernel
theorem dX0_markHelpful_55 : decode cX0_markHelpful 55 = .ok (.aload_n 0, 1) := by decide +kernel
theorem dX0_markHelpful_56 : decode cX0_markHelpful 56 = .ok (.getfield 47, 3) := by decide +kernel
theorem dX0_markHelpful_59 : decode cX0_markHelpful 59 = .ok (.aload_n 0, 1) := by decide +kernel
theorem dX0_markHelpful_60 : decode cX0_markHelpful 60 = .ok (.getfield 15, 3) := by decide +kernel
theorem dX0_markHelpful_63 : decode cX0_markHelpful 63 = .ok (.invokevirtual 61, 3) := by decide +kernel
theorem dX0_markHelpful_66 : decode cX0_markHelpful 66 = .ok (.iload_n 2, 1) := by decide +kernel
theorem dX0_markHelpful_67 : decode cX0_markHelpful 67 = .ok (.if_icmp .ge 14, 3) := by decide +kernel
theorem dX0_markHelpful_70 : decode cX0_markHelpful 70 = .ok (.aload_n 0, 1) := by decide +kernel
theorem dX0_markHelpful_71 : decode cX0_markHelpful 71 = .ok (.dup, 1) := by decide +kernel
theorem dX0_markHelpful_72 : decode cX0_markHelpful 72 = .ok (.getfield 40, 3) := by decide +kernel
theorem dX0_markHelpful_75 : decode cX0_markHelpful 75 = .ok (.iload 5, 2) := by decide +kernel
theorem dX0_markHelpful_77 : decode cX0_markHelpful 77 = .ok (.ior, 1) := by decide +kernel
theorem dX0_markHelpful_78 : decode cX0_markHelpful 78 = .ok (.putfield 40, 3) := by decide +kernel
theorem dX0_markHelpful_81 : decode cX0_markHelpful 81 = .ok (.iinc 4 1, 3) := by decide +kernel
theorem dX0_markHelpful_84 : decode cX0_markHelpful 84 = .ok (.goto (-72), 3) := by decide +kernel
theorem dX0_markHelpful_87 : decode cX0_markHelpful 87 = .ok (.return_, 1) := by decide +kernel
theorem dX1_init_0 : decode cX1_init 0 = .ok (.aload_n 0, 1) := by decide +kernel
theorem dX1_init_1 : decode cX1_init 1 = .ok (.invokespecial 3, 3) := by decide +kernel
theorem dX1_init_4 : decode cX1_init 4 = .ok (.aload_n 0, 1) := by decide +kernel
theorem dX1_init_5 : decode cX1_init 5 = .ok (.iconst 0, 1) := by decide +kernel
theorem dX1_init_6 : decode cX1_init 6 = .ok (.putfield 9, 3) := by decide +kernel
theorem dX1_init_9 : decode cX1_init 9 = .ok (.aload_n 0, 1) := by decide +kernel
theorem dX1_init_10 : decode cX1_init 10 = .ok (.iconst 0, 1) := by decide +kernel
theorem dX1_init_11 : decode cX1_init 11 = .ok (.putfield 15, 3) := by decide +kernel
theorem dX1_init_14 : decode cX1_init 14 = .ok (.aload_n 0, 1) := by decide +kernel
theorem dX1_init_15 : decode cX1_init 15 = .ok (.iconst 0, 1) := by decide +kernel
theorem dX1_init_16 : decode cX1_init 16 = .ok (.putfield 18, 3) := by decide +kernel
theorem dX1_init_19 : decode cX1_init 19 = .ok (.aload_n 0, 1) := by decide +kernel
theorem dX1_init_20 : decode cX1_init 20 = .ok (.iconst 0, 1) := by decide +kernel
theorem dX1_init_21 : decode cX1_init 21 = .ok (.putfield 21, 3) := by decide +kernel
theorem dX1_init_24 : decode cX1_init 24 = .ok (.aload_n 0, 1) := by decide +kernel
theorem dX1_init_25 : decode cX1_init 25 = .ok (.iconst 0, 1) := by decide +kernel
theorem dX1_init_26 : decode cX1_init 26 = .ok (.putfield 24, 3) := by decide +kernel
theorem dX1_init_29 : decode cX1_init 29 = .ok (.aload_n 0, 1) := by decide +kernel
theorem dX1_init_30 : decode cX1_init 30 = .ok (.iconst 0, 1) := by decide +kernel
theorem dX1_init_31 : decode cX1_init 31 = .ok (.putfield 27, 3) := by decide +kernel
theorem dX1_init_34 : decode cX1_init 34 = .ok (.aload_n 0, 1) := by decide +kernel
theorem dX1_init_35 : decode cX1_init 35 = .ok (.aload_n 1, 1) := by decide +kernel
theorem dX1_init_36 : decode cX1_init 36 = .ok (.putfield 30, 3) := by decide +kernel
theorem dX1_init_39 : decode cX1_init 39 = .ok (.aload_n 0, 1) := by decide +kernel
theorem dX1_init_40 : decode cX1_init 40 = .ok (.aload_n 2, 1) := by decide +kernel
theorem dX1_init_41 : decode cX1_init 41 = .ok (.putfield 34, 3) := by decide +kernel
theorem dX1_init_44 : decode cX1_init 44 = .ok (.return_, 1) := by decide +kernel
theorem dX1_seek_0 : decode cX1_seek 0 = .ok (.aload_n 0, 1) := by decide +kernel
theorem dX1_seek_1 : decode cX1_seek 1 = .ok (.iload_n 1, 1) := by decide +kernel
theorem dX1_seek_2 : decode cX1_seek 2 = .ok (.putfield 9, 3) := by decide +kernel
theorem dX1_seek_5 : decode cX1_seek 5 = .ok (.aload_n 0, 1) := by decide +kernel
theorem dX1_seek_6 : decode cX1_seek 6 = .ok (.iload_n 2, 1) := by decide +kernel
theorem dX1_seek_7 : decode cX1_seek 7 = .ok (.putfield 15, 3) := by decide +kernel
theorem dX1_seek_10 : decode cX1_seek 10 = .ok (.aload_n 0, 1) := by decide +kernel
theorem dX1_seek_11 : decode cX1_seek 11 = .ok (.iload_n 3, 1) := by decide +kernel
theorem dX1_seek_12 : decode cX1_seek 12 = .ok (.putfield 18, 3) := by decide +kernel
theorem dX1_seek_15 : decode cX1_seek 15 = .ok (.aload_n 0, 1) := by decide +kernel
theorem dX1_seek_16 : decode cX1_seek 16 = .ok (.iload 4, 2) := by decide +kernel
theorem dX1_seek_18 : decode cX1_seek 18 = .ok (.putfield 21, 3) := by decide +kernel
theorem dX1_seek_21 : decode cX1_seek 21 = .ok (.aload_n 0, 1) := by decide +kernel
theorem dX1_seek_22 : decode cX1_seek 22 = .ok (.iconst (-1), 1) := by decide +kernel
theorem dX1_seek_23 : decode cX1_seek 23 = .ok (.putfield 27, 3) := by decide +kernel
theorem dX1_seek_26 : decode cX1_seek 26 = .ok (.aload_n 0, 1) := by decide +kernel
theorem dX1_seek_27 : decode cX1_seek 27 = .ok (.iconst 0, 1) := by decide +kernel
theorem dX1_seek_28 : decode cX1_seek 28 = .ok (.iconst 0, 1) := by decide +kernel
theorem dX1_seek_29 : decode cX1_seek 29 = .ok (.invokevirtual 38, 3) := by decide +kernel
theorem dX1_seek_32 : decode cX1_seek 32 = .ok (.aload_n 0, 1) := by decide +kernel
theorem dX1_seek_33 : decode cX1_seek 33 = .ok (.getfield 24, 3) := by decide +kernel
theorem dX1_seek_36 : decode cX1_seek 36 = .ok (.ireturn, 1) := by decide +kernel
theorem dX1_hold_0 : decode cX1_hold 0 = .ok (.aload_n 0, 1) := by decide +kernel
theorem dX1_hold_1 : decode cX1_hold 1 = .ok (.getfield 34, 3) := by decide +kernel
theorem dX1_hold_4 : decode cX1_hold 4 = .ok (.aload_n 0, 1) := by decide +kernel
theorem dX1_hold_5 : decode cX1_hold 5 = .ok (.getfield 9, 3) := by decide +kernel
theorem dX1_hold_8 : decode cX1_hold 8 = .ok (.aload_n 0, 1) := by decide +kernel
theorem dX1_hold_9 : decode cX1_hold 9 = .ok (.getfield 15, 3) := by decide +kernel
theorem dX1_hold_12 : decode cX1_hold 12 = .ok (.aload_n 0, 1) := by decide +kernel
theorem dX1_hold_13 : decode cX1_hold 13 = .ok (.getfield 18, 3) := by decide +kernel
theorem dX1_hold_16 : decode cX1_hold 16 = .ok (.iconst 0, 1) := by decide +kernel
theorem dX1_hold_17 : decode cX1_hold 17 = .ok (.sipush 9999, 3) := by decide +kernel
theorem dX1_hold_20 : decode cX1_hold 20 = .ok (.iload_n 1, 1) := by decide +kernel
theorem dX1_hold_21 : decode cX1_hold 21 = .ok (.invokevirtual 42, 3) := by decide +kernel
theorem dX1_hold_24 : decode cX1_hold 24 = .ok (.aload_n 0, 1) := by decide +kernel
theorem dX1_hold_25 : decode cX1_hold 25 = .ok (.getfield 34, 3) := by decide +kernel
theorem dX1_hold_28 : decode cX1_hold 28 = .ok (.getfield 48, 3) := by decide +kernel
theorem dX1_hold_31 : decode cX1_hold 31 = .ok (.istore_n 3, 1) := by decide +kernel
theorem dX1_hold_32 : decode cX1_hold 32 = .ok (.aload_n 0, 1) := by decide +kernel
theorem dX1_hold_33 : decode cX1_hold 33 = .ok (.getfield 27, 3) := by decide +kernel
theorem dX1_hold_36 : decode cX1_hold 36 = .ok (.iconst (-1), 1) := by decide +kernel
theorem dX1_hold_37 : decode cX1_hold 37 = .ok (.if_icmp .eq 19, 3) := by decide +kernel
theorem dX1_hold_40 : decode cX1_hold 40 = .ok (.aload_n 0, 1) := by decide +kernel
theorem dX1_hold_41 : decode cX1_hold 41 = .ok (.iload_n 1, 1) := by decide +kernel
theorem dX1_hold_42 : decode cX1_hold 42 = .ok (.iload_n 2, 1) := by decide +kernel
theorem dX1_hold_43 : decode cX1_hold 43 = .ok (.aload_n 0, 1) := by decide +kernel
theorem dX1_hold_44 : decode cX1_hold 44 = .ok (.getfield 34, 3) := by decide +kernel
theorem dX1_hold_47 : decode cX1_hold 47 = .ok (.getfield 49, 3) := by decide +kernel
theorem dX1_hold_50 : decode cX1_hold 50 = .ok (.invokevirtual 50, 3) := by decide +kernel
theorem dX1_hold_53 : decode cX1_hold 53 = .ok (.ifCond .eq 19, 3) := by decide +kernel
theorem dX1_hold_56 : decode cX1_hold 56 = .ok (.aload_n 0, 1) := by decide +kernel
theorem dX1_hold_57 : decode cX1_hold 57 = .ok (.iload_n 1, 1) := by decide +kernel
theorem dX1_hold_58 : decode cX1_hold 58 = .ok (.putfield 27, 3) := by decide +kernel
theorem dX1_hold_61 : decode cX1_hold 61 = .ok (.aload_n 0, 1) := by decide +kernel
theorem dX1_hold_62 : decode cX1_hold 62 = .ok (.aload_n 0, 1) := by decide +kernel
theorem dX1_hold_63 : decode cX1_hold 63 = .ok (.getfield 34, 3) := by decide +kernel
theorem dX1_hold_66 : decode cX1_hold 66 = .ok (.getfield 49, 3) := by decide +kernel
theorem dX1_hold_69 : decode cX1_hold 69 = .ok (.putfield 24, 3) := by decide +kernel
theorem dX1_hold_72 : decode cX1_hold 72 = .ok (.iload_n 2, 1) := by decide +kernel
theorem dX1_hold_73 : decode cX1_hold 73 = .ok (.aload_n 0, 1) := by decide +kernel
theorem dX1_hold_74 : decode cX1_hold 74 = .ok (.getfield 21, 3) := by decide +kernel
theorem dX1_hold_77 : decode cX1_hold 77 = .ok (.if_icmp .ge 8, 3) := by decide +kernel
theorem dX1_hold_80 : decode cX1_hold 80 = .ok (.iload_n 2, 1) := by decide +kernel
theorem dX1_hold_81 : decode cX1_hold 81 = .ok (.iconst 2, 1) := by decide +kernel
theorem dX1_hold_82 : decode cX1_hold 82 = .ok (.if_icmp .lt 4, 3) := by decide +kernel
theorem dX1_hold_85 : decode cX1_hold 85 = .ok (.return_, 1) := by decide +kernel
theorem dX1_hold_86 : decode cX1_hold 86 = .ok (.iconst 0, 1) := by decide +kernel
theorem dX1_hold_87 : decode cX1_hold 87 = .ok (.istore 4, 2) := by decide +kernel
theorem dX1_hold_89 : decode cX1_hold 89 = .ok (.iload 4, 2) := by decide +kernel
theorem dX1_hold_91 : decode cX1_hold 91 = .ok (.aload_n 0, 1) := by decide +kernel
theorem dX1_hold_92 : decode cX1_hold 92 = .ok (.getfield 30, 3) := by decide +kernel
theorem dX1_hold_95 : decode cX1_hold 95 = .ok (.getfield 54, 3) := by decide +kernel
theorem dX1_hold_98 : decode cX1_hold 98 = .ok (.if_icmp .ge 31, 3) := by decide +kernel
theorem dX1_hold_101 : decode cX1_hold 101 = .ok (.iload_n 3, 1) := by decide +kernel
theorem dX1_hold_102 : decode cX1_hold 102 = .ok (.iload 4, 2) := by decide +kernel
theorem dX1_hold_104 : decode cX1_hold 104 = .ok (.ishr, 1) := by decide +kernel
theorem dX1_hold_105 : decode cX1_hold 105 = .ok (.iconst 1, 1) := by decide +kernel
theorem dX1_hold_106 : decode cX1_hold 106 = .ok (.iand, 1) := by decide +kernel
theorem dX1_hold_107 : decode cX1_hold 107 = .ok (.ifCond .eq 16, 3) := by decide +kernel
theorem dX1_hold_110 : decode cX1_hold 110 = .ok (.aload_n 0, 1) := by decide +kernel
theorem dX1_hold_111 : decode cX1_hold 111 = .ok (.iload_n 1, 1) := by decide +kernel
theorem dX1_hold_112 : decode cX1_hold 112 = .ok (.iconst 1, 1) := by decide +kernel
theorem dX1_hold_113 : decode cX1_hold 113 = .ok (.iload 4, 2) := by decide +kernel
theorem dX1_hold_115 : decode cX1_hold 115 = .ok (.ishl, 1) := by decide +kernel
theorem dX1_hold_116 : decode cX1_hold 116 = .ok (.ior, 1) := by decide +kernel
theorem dX1_hold_117 : decode cX1_hold 117 = .ok (.iload_n 2, 1) := by decide +kernel
theorem dX1_hold_118 : decode cX1_hold 118 = .ok (.iconst 1, 1) := by decide +kernel
theorem dX1_hold_119 : decode cX1_hold 119 = .ok (.iadd, 1) := by decide +kernel
theorem dX1_hold_120 : decode cX1_hold 120 = .ok (.invokevirtual 38, 3) := by decide +kernel
theorem dX1_hold_123 : decode cX1_hold 123 = .ok (.iinc 4 1, 3) := by decide +kernel
theorem dX1_hold_126 : decode cX1_hold 126 = .ok (.goto (-37), 3) := by decide +kernel
theorem dX1_hold_129 : decode cX1_hold 129 = .ok (.return_, 1) := by decide +kernel
theorem dX1_isBetter_0 : decode cX1_isBetter 0 = .ok (.iload_n 3, 1) := by decide +kernel
theorem dX1_isBetter_1 : decode cX1_isBetter 1 = .ok (.aload_n 0, 1) := by decide +kernel
theorem dX1_isBetter_2 : decode cX1_isBetter 2 = .ok (.getfield 24, 3) := by decide +kernel
theorem dX1_isBetter_5 : decode cX1_isBetter 5 = .ok (.if_icmp .eq 17, 3) := by decide +kernel
theorem dX1_isBetter_8 : decode cX1_isBetter 8 = .ok (.iload_n 3, 1) := by decide +kernel
theorem dX1_isBetter_9 : decode cX1_isBetter 9 = .ok (.aload_n 0, 1) := by decide +kernel
theorem dX1_isBetter_10 : decode cX1_isBetter 10 = .ok (.getfield 24, 3) := by decide +kernel
theorem dX1_isBetter_13 : decode cX1_isBetter 13 = .ok (.if_icmp .ge 7, 3) := by decide +kernel
theorem dX1_isBetter_16 : decode cX1_isBetter 16 = .ok (.iconst 1, 1) := by decide +kernel
theorem dX1_isBetter_17 : decode cX1_isBetter 17 = .ok (.goto 4, 3) := by decide +kernel
theorem dX1_isBetter_20 : decode cX1_isBetter 20 = .ok (.iconst 0, 1) := by decide +kernel
theorem dX1_isBetter_21 : decode cX1_isBetter 21 = .ok (.ireturn, 1) := by decide +kernel
theorem dX1_isBetter_22 : decode cX1_isBetter 22 = .ok (.aload_n 0, 1) := by decide +kernel
theorem dX1_isBetter_23 : decode cX1_isBetter 23 = .ok (.getfield 27, 3) := by decide +kernel
theorem dX1_isBetter_26 : decode cX1_isBetter 26 = .ok (.invokestatic 59, 3) := by decide +kernel
theorem dX1_isBetter_29 : decode cX1_isBetter 29 = .ok (.istore 4, 2) := by decide +kernel
theorem dX1_isBetter_31 : decode cX1_isBetter 31 = .ok (.iload_n 2, 1) := by decide +kernel
theorem dX1_isBetter_32 : decode cX1_isBetter 32 = .ok (.iload 4, 2) := by decide +kernel
theorem dX1_isBetter_34 : decode cX1_isBetter 34 = .ok (.if_icmp .lt 17, 3) := by decide +kernel
theorem dX1_isBetter_37 : decode cX1_isBetter 37 = .ok (.iload_n 2, 1) := by decide +kernel
theorem dX1_isBetter_38 : decode cX1_isBetter 38 = .ok (.iload 4, 2) := by decide +kernel
theorem dX1_isBetter_40 : decode cX1_isBetter 40 = .ok (.if_icmp .ne 15, 3) := by decide +kernel
theorem dX1_isBetter_43 : decode cX1_isBetter 43 = .ok (.iload_n 1, 1) := by decide +kernel
theorem dX1_isBetter_44 : decode cX1_isBetter 44 = .ok (.aload_n 0, 1) := by decide +kernel
theorem dX1_isBetter_45 : decode cX1_isBetter 45 = .ok (.getfield 27, 3) := by decide +kernel
theorem dX1_isBetter_48 : decode cX1_isBetter 48 = .ok (.if_icmp .ge 7, 3) := by decide +kernel
theorem dX1_isBetter_51 : decode cX1_isBetter 51 = .ok (.iconst 1, 1) := by decide +kernel
theorem dX1_isBetter_52 : decode cX1_isBetter 52 = .ok (.goto 4, 3) := by decide +kernel
theorem dX1_isBetter_55 : decode cX1_isBetter 55 = .ok (.iconst 0, 1) := by decide +kernel
theorem dX1_isBetter_56 : decode cX1_isBetter 56 = .ok (.ireturn, 1) := by decide +kernel
theorem dX2_init_0 : decode cX2_init 0 = .ok (.aload_n 0, 1) := by decide +kernel
theorem dX2_init_1 : decode cX2_init 1 = .ok (.invokespecial 3, 3) := by decide +kernel
theorem dX2_init_4 : decode cX2_init 4 = .ok (.aload_n 0, 1) := by decide +kernel
theorem dX2_init_5 : decode cX2_init 5 = .ok (.bipush 16, 2) := by decide +kernel
theorem dX2_init_7 : decode cX2_init 7 = .ok (.newarray .int, 2) := by decide +kernel
theorem dX2_init_9 : decode cX2_init 9 = .ok (.putfield 9, 3) := by decide +kernel
theorem dX2_init_12 : decode cX2_init 12 = .ok (.aload_n 0, 1) := by decide +kernel
theorem dX2_init_13 : decode cX2_init 13 = .ok (.iconst 0, 1) := by decide +kernel
theorem dX2_init_14 : decode cX2_init 14 = .ok (.putfield 15, 3) := by decide +kernel
theorem dX2_init_17 : decode cX2_init 17 = .ok (.aload_n 0, 1) := by decide +kernel
theorem dX2_init_18 : decode cX2_init 18 = .ok (.iconst 0, 1) := by decide +kernel
theorem dX2_init_19 : decode cX2_init 19 = .ok (.putfield 19, 3) := by decide +kernel
theorem dX2_init_22 : decode cX2_init 22 = .ok (.return_, 1) := by decide +kernel
theorem dX2_pack_0 : decode cX2_pack 0 = .ok (.iload_n 0, 1) := by decide +kernel
theorem dX2_pack_1 : decode cX2_pack 1 = .ok (.iload_n 1, 1) := by decide +kernel
theorem dX2_pack_2 : decode cX2_pack 2 = .ok (.iconst 3, 1) := by decide +kernel
theorem dX2_pack_3 : decode cX2_pack 3 = .ok (.ishl, 1) := by decide +kernel
theorem dX2_pack_4 : decode cX2_pack 4 = .ok (.ior, 1) := by decide +kernel
theorem dX2_pack_5 : decode cX2_pack 5 = .ok (.iload_n 2, 1) := by decide +kernel
theorem dX2_pack_6 : decode cX2_pack 6 = .ok (.bipush 6, 2) := by decide +kernel
theorem dX2_pack_8 : decode cX2_pack 8 = .ok (.ishl, 1) := by decide +kernel
theorem dX2_pack_9 : decode cX2_pack 9 = .ok (.ior, 1) := by decide +kernel
theorem dX2_pack_10 : decode cX2_pack 10 = .ok (.iload_n 3, 1) := by decide +kernel
theorem dX2_pack_11 : decode cX2_pack 11 = .ok (.bipush 13, 2) := by decide +kernel
theorem dX2_pack_13 : decode cX2_pack 13 = .ok (.ishl, 1) := by decide +kernel
theorem dX2_pack_14 : decode cX2_pack 14 = .ok (.ior, 1) := by decide +kernel
theorem dX2_pack_15 : decode cX2_pack 15 = .ok (.iload 4, 2) := by decide +kernel
theorem dX2_pack_17 : decode cX2_pack 17 = .ok (.bipush 20, 2) := by decide +kernel
theorem dX2_pack_19 : decode cX2_pack 19 = .ok (.ishl, 1) := by decide +kernel
theorem dX2_pack_20 : decode cX2_pack 20 = .ok (.ior, 1) := by decide +kernel
theorem dX2_pack_21 : decode cX2_pack 21 = .ok (.ireturn, 1) := by decide +kernel
theorem dX2_isValue_0 : decode cX2_isValue 0 = .ok (.iload_n 0, 1) := by decide +kernel
theorem dX2_isValue_1 : decode cX2_isValue 1 = .ok (.tableswitch 77 2 4 #[27, 43, 60], 27) := by decide +kernel
theorem dX2_isValue_28 : decode cX2_isValue 28 = .ok (.iload_n 1, 1) := by decide +kernel
theorem dX2_isValue_29 : decode cX2_isValue 29 = .ok (.ifCond .lt 13, 3) := by decide +kernel
theorem dX2_isValue_32 : decode cX2_isValue 32 = .ok (.iload_n 1, 1) := by decide +kernel
theorem dX2_isValue_33 : decode cX2_isValue 33 = .ok (.bipush 99, 2) := by decide +kernel
theorem dX2_isValue_35 : decode cX2_isValue 35 = .ok (.if_icmp .gt 7, 3) := by decide +kernel
theorem dX2_isValue_38 : decode cX2_isValue 38 = .ok (.iconst 1, 1) := by decide +kernel
theorem dX2_isValue_39 : decode cX2_isValue 39 = .ok (.goto 4, 3) := by decide +kernel
theorem dX2_isValue_42 : decode cX2_isValue 42 = .ok (.iconst 0, 1) := by decide +kernel
theorem dX2_isValue_43 : decode cX2_isValue 43 = .ok (.ireturn, 1) := by decide +kernel
theorem dX2_isValue_44 : decode cX2_isValue 44 = .ok (.iload_n 1, 1) := by decide +kernel
theorem dX2_isValue_45 : decode cX2_isValue 45 = .ok (.iconst 1, 1) := by decide +kernel
theorem dX2_isValue_46 : decode cX2_isValue 46 = .ok (.if_icmp .lt 13, 3) := by decide +kernel
theorem dX2_isValue_49 : decode cX2_isValue 49 = .ok (.iload_n 1, 1) := by decide +kernel
theorem dX2_isValue_50 : decode cX2_isValue 50 = .ok (.bipush 100, 2) := by decide +kernel
theorem dX2_isValue_52 : decode cX2_isValue 52 = .ok (.if_icmp .gt 7, 3) := by decide +kernel
theorem dX2_isValue_55 : decode cX2_isValue 55 = .ok (.iconst 1, 1) := by decide +kernel
theorem dX2_isValue_56 : decode cX2_isValue 56 = .ok (.goto 4, 3) := by decide +kernel
theorem dX2_isValue_59 : decode cX2_isValue 59 = .ok (.iconst 0, 1) := by decide +kernel
theorem dX2_isValue_60 : decode cX2_isValue 60 = .ok (.ireturn, 1) := by decide +kernel
theorem dX2_isValue_61 : decode cX2_isValue 61 = .ok (.iload_n 1, 1) := by decide +kernel
theorem dX2_isValue_62 : decode cX2_isValue 62 = .ok (.iconst 1, 1) := by decide +kernel
theorem dX2_isValue_63 : decode cX2_isValue 63 = .ok (.if_icmp .lt 13, 3) := by decide +kernel
theorem dX2_isValue_66 : decode cX2_isValue 66 = .ok (.iload_n 1, 1) := by decide +kernel
theorem dX2_isValue_67 : decode cX2_isValue 67 = .ok (.bipush 9, 2) := by decide +kernel
theorem dX2_isValue_69 : decode cX2_isValue 69 = .ok (.if_icmp .gt 7, 3) := by decide +kernel
theorem dX2_isValue_72 : decode cX2_isValue 72 = .ok (.iconst 1, 1) := by decide +kernel
theorem dX2_isValue_73 : decode cX2_isValue 73 = .ok (.goto 4, 3) := by decide +kernel
theorem dX2_isValue_76 : decode cX2_isValue 76 = .ok (.iconst 0, 1) := by decide +kernel
theorem dX2_isValue_77 : decode cX2_isValue 77 = .ok (.ireturn, 1) := by decide +kernel
theorem dX2_isValue_78 : decode cX2_isValue 78 = .ok (.iconst 0, 1) := by decide +kernel
theorem dX2_isValue_79 : decode cX2_isValue 79 = .ok (.ireturn, 1) := by decide +kernel
theorem dX2_has_0 : decode cX2_has 0 = .ok (.iload_n 1, 1) := by decide +kernel
theorem dX2_has_1 : decode cX2_has 1 = .ok (.ifCond .lt 15, 3) := by decide +kernel
theorem dX2_has_4 : decode cX2_has 4 = .ok (.iload_n 1, 1) := by decide +kernel
theorem dX2_has_5 : decode cX2_has 5 = .ok (.aload_n 0, 1) := by decide +kernel
theorem dX2_has_6 : decode cX2_has 6 = .ok (.getfield 15, 3) := by decide +kernel
theorem dX2_has_9 : decode cX2_has 9 = .ok (.if_icmp .ge 7, 3) := by decide +kernel
theorem dX2_has_12 : decode cX2_has 12 = .ok (.iconst 1, 1) := by decide +kernel
theorem dX2_has_13 : decode cX2_has 13 = .ok (.goto 4, 3) := by decide +kernel
theorem dX2_has_16 : decode cX2_has 16 = .ok (.iconst 0, 1) := by decide +kernel
theorem dX2_has_17 : decode cX2_has 17 = .ok (.ireturn, 1) := by decide +kernel
theorem dX2_all_0 : decode cX2_all 0 = .ok (.iconst 1, 1) := by decide +kernel
theorem dX2_all_1 : decode cX2_all 1 = .ok (.aload_n 0, 1) := by decide +kernel
theorem dX2_all_2 : decode cX2_all 2 = .ok (.getfield 15, 3) := by decide +kernel
theorem dX2_all_5 : decode cX2_all 5 = .ok (.ishl, 1) := by decide +kernel
theorem dX2_all_6 : decode cX2_all 6 = .ok (.iconst 1, 1) := by decide +kernel
theorem dX2_all_7 : decode cX2_all 7 = .ok (.isub, 1) := by decide +kernel
theorem dX2_all_8 : decode cX2_all 8 = .ok (.ireturn, 1) := by decide +kernel
theorem dX2_hasAll_0 : decode cX2_hasAll 0 = .ok (.iload_n 1, 1) := by decide +kernel
theorem dX2_hasAll_1 : decode cX2_hasAll 1 = .ok (.aload_n 0, 1) := by decide +kernel
theorem dX2_hasAll_2 : decode cX2_hasAll 2 = .ok (.invokevirtual 22, 3) := by decide +kernel
theorem dX2_hasAll_5 : decode cX2_hasAll 5 = .ok (.iconst (-1), 1) := by decide +kernel
theorem dX2_hasAll_6 : decode cX2_hasAll 6 = .ok (.ixor, 1) := by decide +kernel
theorem dX2_hasAll_7 : decode cX2_hasAll 7 = .ok (.iand, 1) := by decide +kernel
theorem dX2_hasAll_8 : decode cX2_hasAll 8 = .ok (.ifCond .ne 7, 3) := by decide +kernel
theorem dX2_hasAll_11 : decode cX2_hasAll 11 = .ok (.iconst 1, 1) := by decide +kernel
theorem dX2_hasAll_12 : decode cX2_hasAll 12 = .ok (.goto 4, 3) := by decide +kernel
theorem dX2_hasAll_15 : decode cX2_hasAll 15 = .ok (.iconst 0, 1) := by decide +kernel
theorem dX2_hasAll_16 : decode cX2_hasAll 16 = .ok (.ireturn, 1) := by decide +kernel
theorem dX2_part_0 : decode cX2_part 0 = .ok (.aload_n 0, 1) := by decide +kernel
theorem dX2_part_1 : decode cX2_part 1 = .ok (.iload_n 1, 1) := by decide +kernel
theorem dX2_part_2 : decode cX2_part 2 = .ok (.invokevirtual 26, 3) := by decide +kernel
theorem dX2_part_5 : decode cX2_part 5 = .ok (.ifCond .eq 12, 3) := by decide +kernel
theorem dX2_part_8 : decode cX2_part 8 = .ok (.iload_n 2, 1) := by decide +kernel
theorem dX2_part_9 : decode cX2_part 9 = .ok (.ifCond .lt 8, 3) := by decide +kernel
theorem dX2_part_12 : decode cX2_part 12 = .ok (.iload_n 2, 1) := by decide +kernel
theorem dX2_part_13 : decode cX2_part 13 = .ok (.iconst 4, 1) := by decide +kernel
theorem dX2_part_14 : decode cX2_part 14 = .ok (.if_icmp .le 5, 3) := by decide +kernel
theorem dX2_part_17 : decode cX2_part 17 = .ok (.iconst 0, 1) := by decide +kernel
theorem dX2_part_18 : decode cX2_part 18 = .ok (.ireturn, 1) := by decide +kernel
theorem dX2_part_19 : decode cX2_part 19 = .ok (.aload_n 0, 1) := by decide +kernel
theorem dX2_part_20 : decode cX2_part 20 = .ok (.getfield 9, 3) := by decide +kernel
theorem dX2_part_23 : decode cX2_part 23 = .ok (.iload_n 1, 1) := by decide +kernel
theorem dX2_part_24 : decode cX2_part 24 = .ok (.iaload, 1) := by decide +kernel
theorem dX2_part_25 : decode cX2_part 25 = .ok (.getstatic 30, 3) := by decide +kernel
theorem dX2_part_28 : decode cX2_part 28 = .ok (.iload_n 2, 1) := by decide +kernel
theorem dX2_part_29 : decode cX2_part 29 = .ok (.iaload, 1) := by decide +kernel
theorem dX2_part_30 : decode cX2_part 30 = .ok (.ishr, 1) := by decide +kernel
theorem dX2_part_31 : decode cX2_part 31 = .ok (.getstatic 33, 3) := by decide +kernel
theorem dX2_part_34 : decode cX2_part 34 = .ok (.iload_n 2, 1) := by decide +kernel
theorem dX2_part_35 : decode cX2_part 35 = .ok (.iaload, 1) := by decide +kernel
theorem dX2_part_36 : decode cX2_part 36 = .ok (.iand, 1) := by decide +kernel
theorem dX2_part_37 : decode cX2_part 37 = .ok (.ireturn, 1) := by decide +kernel
theorem dX2_setPart_0 : decode cX2_setPart 0 = .ok (.aload_n 0, 1) := by decide +kernel
theorem dX2_setPart_1 : decode cX2_setPart 1 = .ok (.iload_n 1, 1) := by decide +kernel
theorem dX2_setPart_2 : decode cX2_setPart 2 = .ok (.invokevirtual 26, 3) := by decide +kernel
theorem dX2_setPart_5 : decode cX2_setPart 5 = .ok (.ifCond .eq 45, 3) := by decide +kernel
theorem dX2_setPart_8 : decode cX2_setPart 8 = .ok (.iload_n 2, 1) := by decide +kernel
theorem dX2_setPart_9 : decode cX2_setPart 9 = .ok (.iload_n 3, 1) := by decide +kernel
theorem dX2_setPart_10 : decode cX2_setPart 10 = .ok (.invokestatic 36, 3) := by decide +kernel
theorem dX2_setPart_13 : decode cX2_setPart 13 = .ok (.ifCond .eq 37, 3) := by decide +kernel
theorem dX2_setPart_16 : decode cX2_setPart 16 = .ok (.aload_n 0, 1) := by decide +kernel
theorem dX2_setPart_17 : decode cX2_setPart 17 = .ok (.getfield 9, 3) := by decide +kernel
theorem dX2_setPart_20 : decode cX2_setPart 20 = .ok (.iload_n 1, 1) := by decide +kernel
theorem dX2_setPart_21 : decode cX2_setPart 21 = .ok (.aload_n 0, 1) := by decide +kernel
theorem dX2_setPart_22 : decode cX2_setPart 22 = .ok (.getfield 9, 3) := by decide +kernel
theorem dX2_setPart_25 : decode cX2_setPart 25 = .ok (.iload_n 1, 1) := by decide +kernel
theorem dX2_setPart_26 : decode cX2_setPart 26 = .ok (.iaload, 1) := by decide +kernel
theorem dX2_setPart_27 : decode cX2_setPart 27 = .ok (.getstatic 33, 3) := by decide +kernel
theorem dX2_setPart_30 : decode cX2_setPart 30 = .ok (.iload_n 2, 1) := by decide +kernel
theorem dX2_setPart_31 : decode cX2_setPart 31 = .ok (.iaload, 1) := by decide +kernel
theorem dX2_setPart_32 : decode cX2_setPart 32 = .ok (.getstatic 30, 3) := by decide +kernel
theorem dX2_setPart_35 : decode cX2_setPart 35 = .ok (.iload_n 2, 1) := by decide +kernel
theorem dX2_setPart_36 : decode cX2_setPart 36 = .ok (.iaload, 1) := by decide +kernel
theorem dX2_setPart_37 : decode cX2_setPart 37 = .ok (.ishl, 1) := by decide +kernel
theorem dX2_setPart_38 : decode cX2_setPart 38 = .ok (.iconst (-1), 1) := by decide +kernel
theorem dX2_setPart_39 : decode cX2_setPart 39 = .ok (.ixor, 1) := by decide +kernel
theorem dX2_setPart_40 : decode cX2_setPart 40 = .ok (.iand, 1) := by decide +kernel
theorem dX2_setPart_41 : decode cX2_setPart 41 = .ok (.iload_n 3, 1) := by decide +kernel
theorem dX2_setPart_42 : decode cX2_setPart 42 = .ok (.getstatic 30, 3) := by decide +kernel
theorem dX2_setPart_45 : decode cX2_setPart 45 = .ok (.iload_n 2, 1) := by decide +kernel
theorem dX2_setPart_46 : decode cX2_setPart 46 = .ok (.iaload, 1) := by decide +kernel
theorem dX2_setPart_47 : decode cX2_setPart 47 = .ok (.ishl, 1) := by decide +kernel
theorem dX2_setPart_48 : decode cX2_setPart 48 = .ok (.ior, 1) := by decide +kernel
theorem dX2_setPart_49 : decode cX2_setPart 49 = .ok (.iastore, 1) := by decide +kernel
theorem dX2_setPart_50 : decode cX2_setPart 50 = .ok (.return_, 1) := by decide +kernel
theorem dX2_from_0 : decode cX2_from 0 = .ok (.aload_n 0, 1) := by decide +kernel
theorem dX2_from_1 : decode cX2_from 1 = .ok (.iload_n 1, 1) := by decide +kernel
theorem dX2_from_2 : decode cX2_from 2 = .ok (.invokevirtual 26, 3) := by decide +kernel
theorem dX2_from_5 : decode cX2_from 5 = .ok (.ifCond .eq 15, 3) := by decide +kernel
theorem dX2_from_8 : decode cX2_from 8 = .ok (.aload_n 0, 1) := by decide +kernel
theorem dX2_from_9 : decode cX2_from 9 = .ok (.getfield 9, 3) := by decide +kernel
theorem dX2_from_12 : decode cX2_from 12 = .ok (.iload_n 1, 1) := by decide +kernel
theorem dX2_from_13 : decode cX2_from 13 = .ok (.iaload, 1) := by decide +kernel
theorem dX2_from_14 : decode cX2_from 14 = .ok (.bipush 7, 2) := by decide +kernel
theorem dX2_from_16 : decode cX2_from 16 = .ok (.iand, 1) := by decide +kernel
theorem dX2_from_17 : decode cX2_from 17 = .ok (.goto 4, 3) := by decide +kernel
theorem dX2_from_20 : decode cX2_from 20 = .ok (.iconst 0, 1) := by decide +kernel
theorem dX2_from_21 : decode cX2_from 21 = .ok (.ireturn, 1) := by decide +kernel
theorem dX2_to_0 : decode cX2_to 0 = .ok (.aload_n 0, 1) := by decide +kernel
theorem dX2_to_1 : decode cX2_to 1 = .ok (.iload_n 1, 1) := by decide +kernel
theorem dX2_to_2 : decode cX2_to 2 = .ok (.invokevirtual 26, 3) := by decide +kernel
theorem dX2_to_5 : decode cX2_to 5 = .ok (.ifCond .eq 17, 3) := by decide +kernel
theorem dX2_to_8 : decode cX2_to 8 = .ok (.aload_n 0, 1) := by decide +kernel
theorem dX2_to_9 : decode cX2_to 9 = .ok (.getfield 9, 3) := by decide +kernel
theorem dX2_to_12 : decode cX2_to 12 = .ok (.iload_n 1, 1) := by decide +kernel
theorem dX2_to_13 : decode cX2_to 13 = .ok (.iaload, 1) := by decide +kernel
theorem dX2_to_14 : decode cX2_to 14 = .ok (.iconst 3, 1) := by decide +kernel
theorem dX2_to_15 : decode cX2_to 15 = .ok (.ishr, 1) := by decide +kernel
theorem dX2_to_16 : decode cX2_to 16 = .ok (.bipush 7, 2) := by decide +kernel
theorem dX2_to_18 : decode cX2_to 18 = .ok (.iand, 1) := by decide +kernel
theorem dX2_to_19 : decode cX2_to 19 = .ok (.goto 4, 3) := by decide +kernel
theorem dX2_to_22 : decode cX2_to 22 = .ok (.iconst 0, 1) := by decide +kernel
theorem dX2_to_23 : decode cX2_to 23 = .ok (.ireturn, 1) := by decide +kernel
theorem dX2_cost_0 : decode cX2_cost 0 = .ok (.aload_n 0, 1) := by decide +kernel
theorem dX2_cost_1 : decode cX2_cost 1 = .ok (.iload_n 1, 1) := by decide +kernel
theorem dX2_cost_2 : decode cX2_cost 2 = .ok (.invokevirtual 26, 3) := by decide +kernel
theorem dX2_cost_5 : decode cX2_cost 5 = .ok (.ifCond .eq 18, 3) := by decide +kernel
theorem dX2_cost_8 : decode cX2_cost 8 = .ok (.aload_n 0, 1) := by decide +kernel
theorem dX2_cost_9 : decode cX2_cost 9 = .ok (.getfield 9, 3) := by decide +kernel
theorem dX2_cost_12 : decode cX2_cost 12 = .ok (.iload_n 1, 1) := by decide +kernel
theorem dX2_cost_13 : decode cX2_cost 13 = .ok (.iaload, 1) := by decide +kernel
theorem dX2_cost_14 : decode cX2_cost 14 = .ok (.bipush 20, 2) := by decide +kernel
theorem dX2_cost_16 : decode cX2_cost 16 = .ok (.ishr, 1) := by decide +kernel
theorem dX2_cost_17 : decode cX2_cost 17 = .ok (.bipush 15, 2) := by decide +kernel
theorem dX2_cost_19 : decode cX2_cost 19 = .ok (.iand, 1) := by decide +kernel
theorem dX2_cost_20 : decode cX2_cost 20 = .ok (.goto 4, 3) := by decide +kernel
theorem dX2_cost_23 : decode cX2_cost 23 = .ok (.iconst 0, 1) := by decide +kernel
theorem dX2_cost_24 : decode cX2_cost 24 = .ok (.ireturn, 1) := by decide +kernel
theorem dX2_plainLength_0 : decode cX2_plainLength 0 = .ok (.aload_n 0, 1) := by decide +kernel
theorem dX2_plainLength_1 : decode cX2_plainLength 1 = .ok (.iload_n 1, 1) := by decide +kernel
theorem dX2_plainLength_2 : decode cX2_plainLength 2 = .ok (.invokevirtual 26, 3) := by decide +kernel
theorem dX2_plainLength_5 : decode cX2_plainLength 5 = .ok (.ifCond .eq 18, 3) := by decide +kernel
theorem dX2_plainLength_8 : decode cX2_plainLength 8 = .ok (.aload_n 0, 1) := by decide +kernel
theorem dX2_plainLength_9 : decode cX2_plainLength 9 = .ok (.getfield 9, 3) := by decide +kernel
theorem dX2_plainLength_12 : decode cX2_plainLength 12 = .ok (.iload_n 1, 1) := by decide +kernel
theorem dX2_plainLength_13 : decode cX2_plainLength 13 = .ok (.iaload, 1) := by decide +kernel
theorem dX2_plainLength_14 : decode cX2_plainLength 14 = .ok (.bipush 6, 2) := by decide +kernel
theorem dX2_plainLength_16 : decode cX2_plainLength 16 = .ok (.ishr, 1) := by decide +kernel
theorem dX2_plainLength_17 : decode cX2_plainLength 17 = .ok (.bipush 127, 2) := by decide +kernel
theorem dX2_plainLength_19 : decode cX2_plainLength 19 = .ok (.iand, 1) := by decide +kernel
theorem dX2_plainLength_20 : decode cX2_plainLength 20 = .ok (.goto 4, 3) := by decide +kernel
theorem dX2_plainLength_23 : decode cX2_plainLength 23 = .ok (.iconst 0, 1) := by decide +kernel
theorem dX2_plainLength_24 : decode cX2_plainLength 24 = .ok (.ireturn, 1) := by decide +kernel
theorem dX2_fillLengths_0 : decode cX2_fillLengths 0 = .ok (.iconst 0, 1) := by decide +kernel
theorem dX2_fillLengths_1 : decode cX2_fillLengths 1 = .ok (.istore_n 3, 1) := by decide +kernel
theorem dX2_fillLengths_2 : decode cX2_fillLengths 2 = .ok (.iload_n 3, 1) := by decide +kernel
theorem dX2_fillLengths_3 : decode cX2_fillLengths 3 = .ok (.aload_n 0, 1) := by decide +kernel
theorem dX2_fillLengths_4 : decode cX2_fillLengths 4 = .ok (.getfield 15, 3) := by decide +kernel
theorem dX2_fillLengths_7 : decode cX2_fillLengths 7 = .ok (.if_icmp .ge 72, 3) := by decide +kernel
theorem dX2_fillLengths_10 : decode cX2_fillLengths 10 = .ok (.iload_n 3, 1) := by decide +kernel
theorem dX2_fillLengths_11 : decode cX2_fillLengths 11 = .ok (.aload_n 2, 1) := by decide +kernel
theorem dX2_fillLengths_12 : decode cX2_fillLengths 12 = .ok (.arraylength, 1) := by decide +kernel
theorem dX2_fillLengths_13 : decode cX2_fillLengths 13 = .ok (.if_icmp .ge 66, 3) := by decide +kernel
theorem dX2_fillLengths_16 : decode cX2_fillLengths 16 = .ok (.aload_n 0, 1) := by decide +kernel
theorem dX2_fillLengths_17 : decode cX2_fillLengths 17 = .ok (.getfield 9, 3) := by decide +kernel
theorem dX2_fillLengths_20 : decode cX2_fillLengths 20 = .ok (.iload_n 3, 1) := by decide +kernel
theorem dX2_fillLengths_21 : decode cX2_fillLengths 21 = .ok (.iaload, 1) := by decide +kernel
theorem dX2_fillLengths_22 : decode cX2_fillLengths 22 = .ok (.istore 4, 2) := by decide +kernel
theorem dX2_fillLengths_24 : decode cX2_fillLengths 24 = .ok (.iload_n 1, 1) := by decide +kernel
theorem dX2_fillLengths_25 : decode cX2_fillLengths 25 = .ok (.iload_n 3, 1) := by decide +kernel
theorem dX2_fillLengths_26 : decode cX2_fillLengths 26 = .ok (.ishr, 1) := by decide +kernel
theorem dX2_fillLengths_27 : decode cX2_fillLengths 27 = .ok (.iconst 1, 1) := by decide +kernel
theorem dX2_fillLengths_28 : decode cX2_fillLengths 28 = .ok (.iand, 1) := by decide +kernel
theorem dX2_fillLengths_29 : decode cX2_fillLengths 29 = .ok (.ifCond .eq 14, 3) := by decide +kernel
theorem dX2_fillLengths_32 : decode cX2_fillLengths 32 = .ok (.iload 4, 2) := by decide +kernel
theorem dX2_fillLengths_34 : decode cX2_fillLengths 34 = .ok (.bipush 13, 2) := by decide +kernel
theorem dX2_fillLengths_36 : decode cX2_fillLengths 36 = .ok (.ishr, 1) := by decide +kernel
theorem dX2_fillLengths_37 : decode cX2_fillLengths 37 = .ok (.bipush 127, 2) := by decide +kernel
theorem dX2_fillLengths_39 : decode cX2_fillLengths 39 = .ok (.iand, 1) := by decide +kernel
theorem dX2_fillLengths_40 : decode cX2_fillLengths 40 = .ok (.goto 4, 3) := by decide +kernel
theorem dX2_fillLengths_43 : decode cX2_fillLengths 43 = .ok (.iconst 0, 1) := by decide +kernel
theorem dX2_fillLengths_44 : decode cX2_fillLengths 44 = .ok (.istore 5, 2) := by decide +kernel
theorem dX2_fillLengths_46 : decode cX2_fillLengths 46 = .ok (.aload_n 2, 1) := by decide +kernel
theorem dX2_fillLengths_47 : decode cX2_fillLengths 47 = .ok (.iload_n 3, 1) := by decide +kernel
theorem dX2_fillLengths_48 : decode cX2_fillLengths 48 = .ok (.iload 5, 2) := by decide +kernel
theorem dX2_fillLengths_50 : decode cX2_fillLengths 50 = .ok (.bipush 100, 2) := by decide +kernel
theorem dX2_fillLengths_52 : decode cX2_fillLengths 52 = .ok (.if_icmp .ne 9, 3) := by decide +kernel
theorem dX2_fillLengths_55 : decode cX2_fillLengths 55 = .ok (.sipush 9999, 3) := by decide +kernel
theorem dX2_fillLengths_58 : decode cX2_fillLengths 58 = .ok (.goto 14, 3) := by decide +kernel
theorem dX2_fillLengths_61 : decode cX2_fillLengths 61 = .ok (.iload 4, 2) := by decide +kernel
theorem dX2_fillLengths_63 : decode cX2_fillLengths 63 = .ok (.bipush 6, 2) := by decide +kernel
theorem dX2_fillLengths_65 : decode cX2_fillLengths 65 = .ok (.ishr, 1) := by decide +kernel
theorem dX2_fillLengths_66 : decode cX2_fillLengths 66 = .ok (.bipush 127, 2) := by decide +kernel
theorem dX2_fillLengths_68 : decode cX2_fillLengths 68 = .ok (.iand, 1) := by decide +kernel
theorem dX2_fillLengths_69 : decode cX2_fillLengths 69 = .ok (.iload 5, 2) := by decide +kernel
theorem dX2_fillLengths_71 : decode cX2_fillLengths 71 = .ok (.iadd, 1) := by decide +kernel
theorem dX2_fillLengths_72 : decode cX2_fillLengths 72 = .ok (.iastore, 1) := by decide +kernel
theorem dX2_fillLengths_73 : decode cX2_fillLengths 73 = .ok (.iinc 3 1, 3) := by decide +kernel
theorem dX2_fillLengths_76 : decode cX2_fillLengths 76 = .ok (.goto (-74), 3) := by decide +kernel
theorem dX2_fillLengths_79 : decode cX2_fillLengths 79 = .ok (.return_, 1) := by decide +kernel
theorem dX2_append_0 : decode cX2_append 0 = .ok (.aload_n 0, 1) := by decide +kernel
theorem dX2_append_1 : decode cX2_append 1 = .ok (.getfield 15, 3) := by decide +kernel
theorem dX2_append_4 : decode cX2_append 4 = .ok (.bipush 16, 2) := by decide +kernel
theorem dX2_append_6 : decode cX2_append 6 = .ok (.if_icmp .ge 23, 3) := by decide +kernel
theorem dX2_append_9 : decode cX2_append 9 = .ok (.aload_n 0, 1) := by decide +kernel
theorem dX2_append_10 : decode cX2_append 10 = .ok (.getfield 9, 3) := by decide +kernel
theorem dX2_append_13 : decode cX2_append 13 = .ok (.aload_n 0, 1) := by decide +kernel
theorem dX2_append_14 : decode cX2_append 14 = .ok (.getfield 15, 3) := by decide +kernel
theorem dX2_append_17 : decode cX2_append 17 = .ok (.iload_n 1, 1) := by decide +kernel
theorem dX2_append_18 : decode cX2_append 18 = .ok (.iastore, 1) := by decide +kernel
theorem dX2_append_19 : decode cX2_append 19 = .ok (.aload_n 0, 1) := by decide +kernel
theorem dX2_append_20 : decode cX2_append 20 = .ok (.dup, 1) := by decide +kernel
theorem dX2_append_21 : decode cX2_append 21 = .ok (.getfield 15, 3) := by decide +kernel
theorem dX2_append_24 : decode cX2_append 24 = .ok (.iconst 1, 1) := by decide +kernel
theorem dX2_append_25 : decode cX2_append 25 = .ok (.iadd, 1) := by decide +kernel
theorem dX2_append_26 : decode cX2_append 26 = .ok (.putfield 15, 3) := by decide +kernel
theorem dX2_append_29 : decode cX2_append 29 = .ok (.return_, 1) := by decide +kernel
theorem dX2_delete_0 : decode cX2_delete 0 = .ok (.aload_n 0, 1) := by decide +kernel
theorem dX2_delete_1 : decode cX2_delete 1 = .ok (.iload_n 1, 1) := by decide +kernel
theorem dX2_delete_2 : decode cX2_delete 2 = .ok (.invokevirtual 26, 3) := by decide +kernel
theorem dX2_delete_5 : decode cX2_delete 5 = .ok (.ifCond .ne 4, 3) := by decide +kernel
theorem dX2_delete_8 : decode cX2_delete 8 = .ok (.return_, 1) := by decide +kernel
theorem dX2_delete_9 : decode cX2_delete 9 = .ok (.iload_n 1, 1) := by decide +kernel
theorem dX2_delete_10 : decode cX2_delete 10 = .ok (.istore_n 2, 1) := by decide +kernel
theorem dX2_delete_11 : decode cX2_delete 11 = .ok (.iload_n 2, 1) := by decide +kernel
theorem dX2_delete_12 : decode cX2_delete 12 = .ok (.iconst 1, 1) := by decide +kernel
theorem dX2_delete_13 : decode cX2_delete 13 = .ok (.iadd, 1) := by decide +kernel
theorem dX2_delete_14 : decode cX2_delete 14 = .ok (.aload_n 0, 1) := by decide +kernel
theorem dX2_delete_15 : decode cX2_delete 15 = .ok (.getfield 15, 3) := by decide +kernel
theorem dX2_delete_18 : decode cX2_delete 18 = .ok (.if_icmp .ge 23, 3) := by decide +kernel
theorem dX2_delete_21 : decode cX2_delete 21 = .ok (.aload_n 0, 1) := by decide +kernel
theorem dX2_delete_22 : decode cX2_delete 22 = .ok (.getfield 9, 3) := by decide +kernel
theorem dX2_delete_25 : decode cX2_delete 25 = .ok (.iload_n 2, 1) := by decide +kernel
theorem dX2_delete_26 : decode cX2_delete 26 = .ok (.aload_n 0, 1) := by decide +kernel
theorem dX2_delete_27 : decode cX2_delete 27 = .ok (.getfield 9, 3) := by decide +kernel
theorem dX2_delete_30 : decode cX2_delete 30 = .ok (.iload_n 2, 1) := by decide +kernel
theorem dX2_delete_31 : decode cX2_delete 31 = .ok (.iconst 1, 1) := by decide +kernel
theorem dX2_delete_32 : decode cX2_delete 32 = .ok (.iadd, 1) := by decide +kernel
theorem dX2_delete_33 : decode cX2_delete 33 = .ok (.iaload, 1) := by decide +kernel
theorem dX2_delete_34 : decode cX2_delete 34 = .ok (.iastore, 1) := by decide +kernel
theorem dX2_delete_35 : decode cX2_delete 35 = .ok (.iinc 2 1, 3) := by decide +kernel
theorem dX2_delete_38 : decode cX2_delete 38 = .ok (.goto (-27), 3) := by decide +kernel
theorem dX2_delete_41 : decode cX2_delete 41 = .ok (.aload_n 0, 1) := by decide +kernel
theorem dX2_delete_42 : decode cX2_delete 42 = .ok (.dup, 1) := by decide +kernel
theorem dX2_delete_43 : decode cX2_delete 43 = .ok (.getfield 15, 3) := by decide +kernel
theorem dX2_delete_46 : decode cX2_delete 46 = .ok (.iconst 1, 1) := by decide +kernel
theorem dX2_delete_47 : decode cX2_delete 47 = .ok (.isub, 1) := by decide +kernel
theorem dX2_delete_48 : decode cX2_delete 48 = .ok (.putfield 15, 3) := by decide +kernel
theorem dX2_delete_51 : decode cX2_delete 51 = .ok (.aload_n 0, 1) := by decide +kernel
theorem dX2_delete_52 : decode cX2_delete 52 = .ok (.getfield 19, 3) := by decide +kernel
theorem dX2_delete_55 : decode cX2_delete 55 = .ok (.iconst 1, 1) := by decide +kernel
theorem dX2_delete_56 : decode cX2_delete 56 = .ok (.iload_n 1, 1) := by decide +kernel
theorem dX2_delete_57 : decode cX2_delete 57 = .ok (.ishl, 1) := by decide +kernel
theorem dX2_delete_58 : decode cX2_delete 58 = .ok (.iconst 1, 1) := by decide +kernel
theorem dX2_delete_59 : decode cX2_delete 59 = .ok (.isub, 1) := by decide +kernel
theorem dX2_delete_60 : decode cX2_delete 60 = .ok (.iand, 1) := by decide +kernel
theorem dX2_delete_61 : decode cX2_delete 61 = .ok (.istore_n 2, 1) := by decide +kernel
theorem dX2_delete_62 : decode cX2_delete 62 = .ok (.aload_n 0, 1) := by decide +kernel
theorem dX2_delete_63 : decode cX2_delete 63 = .ok (.iload_n 2, 1) := by decide +kernel
theorem dX2_delete_64 : decode cX2_delete 64 = .ok (.aload_n 0, 1) := by decide +kernel
theorem dX2_delete_65 : decode cX2_delete 65 = .ok (.getfield 19, 3) := by decide +kernel
theorem dX2_delete_68 : decode cX2_delete 68 = .ok (.iload_n 1, 1) := by decide +kernel
theorem dX2_delete_69 : decode cX2_delete 69 = .ok (.iconst 1, 1) := by decide +kernel
theorem dX2_delete_70 : decode cX2_delete 70 = .ok (.iadd, 1) := by decide +kernel
theorem dX2_delete_71 : decode cX2_delete 71 = .ok (.ishr, 1) := by decide +kernel
theorem dX2_delete_72 : decode cX2_delete 72 = .ok (.iload_n 1, 1) := by decide +kernel
theorem dX2_delete_73 : decode cX2_delete 73 = .ok (.ishl, 1) := by decide +kernel
theorem dX2_delete_74 : decode cX2_delete 74 = .ok (.ior, 1) := by decide +kernel
theorem dX2_delete_75 : decode cX2_delete 75 = .ok (.putfield 19, 3) := by decide +kernel
theorem dX2_delete_78 : decode cX2_delete 78 = .ok (.return_, 1) := by decide +kernel
theorem dX2_empty_0 : decode cX2_empty 0 = .ok (.aload_n 0, 1) := by decide +kernel
theorem dX2_empty_1 : decode cX2_empty 1 = .ok (.iconst 0, 1) := by decide +kernel
theorem dX2_empty_2 : decode cX2_empty 2 = .ok (.putfield 15, 3) := by decide +kernel
theorem dX2_empty_5 : decode cX2_empty 5 = .ok (.aload_n 0, 1) := by decide +kernel
theorem dX2_empty_6 : decode cX2_empty 6 = .ok (.iconst 0, 1) := by decide +kernel
theorem dX2_empty_7 : decode cX2_empty 7 = .ok (.putfield 19, 3) := by decide +kernel
theorem dX2_empty_10 : decode cX2_empty 10 = .ok (.return_, 1) := by decide +kernel
theorem dX2_costOfSet_0 : decode cX2_costOfSet 0 = .ok (.iconst 0, 1) := by decide +kernel
theorem dX2_costOfSet_1 : decode cX2_costOfSet 1 = .ok (.istore_n 2, 1) := by decide +kernel
theorem dX2_costOfSet_2 : decode cX2_costOfSet 2 = .ok (.iconst 0, 1) := by decide +kernel
theorem dX2_costOfSet_3 : decode cX2_costOfSet 3 = .ok (.istore_n 3, 1) := by decide +kernel
theorem dX2_costOfSet_4 : decode cX2_costOfSet 4 = .ok (.iload_n 3, 1) := by decide +kernel
theorem dX2_costOfSet_5 : decode cX2_costOfSet 5 = .ok (.aload_n 0, 1) := by decide +kernel
theorem dX2_costOfSet_6 : decode cX2_costOfSet 6 = .ok (.getfield 15, 3) := by decide +kernel
theorem dX2_costOfSet_9 : decode cX2_costOfSet 9 = .ok (.if_icmp .ge 25, 3) := by decide +kernel
theorem dX2_costOfSet_12 : decode cX2_costOfSet 12 = .ok (.iload_n 1, 1) := by decide +kernel
theorem dX2_costOfSet_13 : decode cX2_costOfSet 13 = .ok (.iload_n 3, 1) := by decide +kernel
theorem dX2_costOfSet_14 : decode cX2_costOfSet 14 = .ok (.ishr, 1) := by decide +kernel
theorem dX2_costOfSet_15 : decode cX2_costOfSet 15 = .ok (.iconst 1, 1) := by decide +kernel
theorem dX2_costOfSet_16 : decode cX2_costOfSet 16 = .ok (.iand, 1) := by decide +kernel
theorem dX2_costOfSet_17 : decode cX2_costOfSet 17 = .ok (.ifCond .eq 11, 3) := by decide +kernel
theorem dX2_costOfSet_20 : decode cX2_costOfSet 20 = .ok (.iload_n 2, 1) := by decide +kernel
theorem dX2_costOfSet_21 : decode cX2_costOfSet 21 = .ok (.aload_n 0, 1) := by decide +kernel
theorem dX2_costOfSet_22 : decode cX2_costOfSet 22 = .ok (.iload_n 3, 1) := by decide +kernel
theorem dX2_costOfSet_23 : decode cX2_costOfSet 23 = .ok (.invokevirtual 40, 3) := by decide +kernel
theorem dX2_costOfSet_26 : decode cX2_costOfSet 26 = .ok (.iadd, 1) := by decide +kernel
theorem dX2_costOfSet_27 : decode cX2_costOfSet 27 = .ok (.istore_n 2, 1) := by decide +kernel
theorem dX2_costOfSet_28 : decode cX2_costOfSet 28 = .ok (.iinc 3 1, 3) := by decide +kernel
theorem dX2_costOfSet_31 : decode cX2_costOfSet 31 = .ok (.goto (-27), 3) := by decide +kernel
theorem dX2_costOfSet_34 : decode cX2_costOfSet 34 = .ok (.iload_n 2, 1) := by decide +kernel
theorem dX2_costOfSet_35 : decode cX2_costOfSet 35 = .ok (.ireturn, 1) := by decide +kernel
theorem dX2_sumOfLengths_0 : decode cX2_sumOfLengths 0 = .ok (.iconst 0, 1) := by decide +kernel
theorem dX2_sumOfLengths_1 : decode cX2_sumOfLengths 1 = .ok (.istore_n 1, 1) := by decide +kernel
theorem dX2_sumOfLengths_2 : decode cX2_sumOfLengths 2 = .ok (.iconst 0, 1) := by decide +kernel
theorem dX2_sumOfLengths_3 : decode cX2_sumOfLengths 3 = .ok (.istore_n 2, 1) := by decide +kernel
theorem dX2_sumOfLengths_4 : decode cX2_sumOfLengths 4 = .ok (.iload_n 2, 1) := by decide +kernel
theorem dX2_sumOfLengths_5 : decode cX2_sumOfLengths 5 = .ok (.aload_n 0, 1) := by decide +kernel
theorem dX2_sumOfLengths_6 : decode cX2_sumOfLengths 6 = .ok (.getfield 15, 3) := by decide +kernel
theorem dX2_sumOfLengths_9 : decode cX2_sumOfLengths 9 = .ok (.if_icmp .ge 17, 3) := by decide +kernel
theorem dX2_sumOfLengths_12 : decode cX2_sumOfLengths 12 = .ok (.iload_n 1, 1) := by decide +kernel
theorem dX2_sumOfLengths_13 : decode cX2_sumOfLengths 13 = .ok (.aload_n 0, 1) := by decide +kernel
theorem dX2_sumOfLengths_14 : decode cX2_sumOfLengths 14 = .ok (.iload_n 2, 1) := by decide +kernel
theorem dX2_sumOfLengths_15 : decode cX2_sumOfLengths 15 = .ok (.invokevirtual 44, 3) := by decide +kernel
theorem dX2_sumOfLengths_18 : decode cX2_sumOfLengths 18 = .ok (.iadd, 1) := by decide +kernel
theorem dX2_sumOfLengths_19 : decode cX2_sumOfLengths 19 = .ok (.istore_n 1, 1) := by decide +kernel
theorem dX2_sumOfLengths_20 : decode cX2_sumOfLengths 20 = .ok (.iinc 2 1, 3) := by decide +kernel
theorem dX2_sumOfLengths_23 : decode cX2_sumOfLengths 23 = .ok (.goto (-19), 3) := by decide +kernel
theorem dX2_sumOfLengths_26 : decode cX2_sumOfLengths 26 = .ok (.iload_n 1, 1) := by decide +kernel
theorem dX2_sumOfLengths_27 : decode cX2_sumOfLengths 27 = .ok (.ireturn, 1) := by decide +kernel
theorem dX2_costOfBorder_0 : decode cX2_costOfBorder 0 = .ok (.iconst 0, 1) := by decide +kernel
theorem dX2_costOfBorder_1 : decode cX2_costOfBorder 1 = .ok (.istore_n 2, 1) := by decide +kernel
theorem dX2_costOfBorder_2 : decode cX2_costOfBorder 2 = .ok (.iconst 0, 1) := by decide +kernel
theorem dX2_costOfBorder_3 : decode cX2_costOfBorder 3 = .ok (.istore_n 3, 1) := by decide +kernel
theorem dX2_costOfBorder_4 : decode cX2_costOfBorder 4 = .ok (.iload_n 3, 1) := by decide +kernel
theorem dX2_costOfBorder_5 : decode cX2_costOfBorder 5 = .ok (.aload_n 0, 1) := by decide +kernel
theorem dX2_costOfBorder_6 : decode cX2_costOfBorder 6 = .ok (.getfield 15, 3) := by decide +kernel
theorem dX2_costOfBorder_9 : decode cX2_costOfBorder 9 = .ok (.if_icmp .ge 54, 3) := by decide +kernel
theorem dX2_costOfBorder_12 : decode cX2_costOfBorder 12 = .ok (.iload_n 1, 1) := by decide +kernel
theorem dX2_costOfBorder_13 : decode cX2_costOfBorder 13 = .ok (.aload_n 0, 1) := by decide +kernel
theorem dX2_costOfBorder_14 : decode cX2_costOfBorder 14 = .ok (.iload_n 3, 1) := by decide +kernel
theorem dX2_costOfBorder_15 : decode cX2_costOfBorder 15 = .ok (.invokevirtual 47, 3) := by decide +kernel
theorem dX2_costOfBorder_18 : decode cX2_costOfBorder 18 = .ok (.ishr, 1) := by decide +kernel
theorem dX2_costOfBorder_19 : decode cX2_costOfBorder 19 = .ok (.iconst 1, 1) := by decide +kernel
theorem dX2_costOfBorder_20 : decode cX2_costOfBorder 20 = .ok (.iand, 1) := by decide +kernel
theorem dX2_costOfBorder_21 : decode cX2_costOfBorder 21 = .ok (.ifCond .eq 36, 3) := by decide +kernel
theorem dX2_costOfBorder_24 : decode cX2_costOfBorder 24 = .ok (.iload_n 1, 1) := by decide +kernel
theorem dX2_costOfBorder_25 : decode cX2_costOfBorder 25 = .ok (.aload_n 0, 1) := by decide +kernel
theorem dX2_costOfBorder_26 : decode cX2_costOfBorder 26 = .ok (.iload_n 3, 1) := by decide +kernel
theorem dX2_costOfBorder_27 : decode cX2_costOfBorder 27 = .ok (.invokevirtual 50, 3) := by decide +kernel
theorem dX2_costOfBorder_30 : decode cX2_costOfBorder 30 = .ok (.ishr, 1) := by decide +kernel
theorem dX2_costOfBorder_31 : decode cX2_costOfBorder 31 = .ok (.iconst 1, 1) := by decide +kernel
theorem dX2_costOfBorder_32 : decode cX2_costOfBorder 32 = .ok (.iand, 1) := by decide +kernel
theorem dX2_costOfBorder_33 : decode cX2_costOfBorder 33 = .ok (.ifCond .ne 24, 3) := by decide +kernel
theorem dX2_costOfBorder_36 : decode cX2_costOfBorder 36 = .ok (.aload_n 0, 1) := by decide +kernel
theorem dX2_costOfBorder_37 : decode cX2_costOfBorder 37 = .ok (.iload_n 3, 1) := by decide +kernel
theorem dX2_costOfBorder_38 : decode cX2_costOfBorder 38 = .ok (.iconst 3, 1) := by decide +kernel
theorem dX2_costOfBorder_39 : decode cX2_costOfBorder 39 = .ok (.invokevirtual 53, 3) := by decide +kernel
theorem dX2_costOfBorder_42 : decode cX2_costOfBorder 42 = .ok (.bipush 100, 2) := by decide +kernel
theorem dX2_costOfBorder_44 : decode cX2_costOfBorder 44 = .ok (.if_icmp .eq 5, 3) := by decide +kernel
theorem dX2_costOfBorder_47 : decode cX2_costOfBorder 47 = .ok (.iconst (-1), 1) := by decide +kernel
theorem dX2_costOfBorder_48 : decode cX2_costOfBorder 48 = .ok (.ireturn, 1) := by decide +kernel
theorem dX2_costOfBorder_49 : decode cX2_costOfBorder 49 = .ok (.iload_n 2, 1) := by decide +kernel
theorem dX2_costOfBorder_50 : decode cX2_costOfBorder 50 = .ok (.aload_n 0, 1) := by decide +kernel
theorem dX2_costOfBorder_51 : decode cX2_costOfBorder 51 = .ok (.iload_n 3, 1) := by decide +kernel
theorem dX2_costOfBorder_52 : decode cX2_costOfBorder 52 = .ok (.invokevirtual 40, 3) := by decide +kernel
theorem dX2_costOfBorder_55 : decode cX2_costOfBorder 55 = .ok (.iadd, 1) := by decide +kernel
theorem dX2_costOfBorder_56 : decode cX2_costOfBorder 56 = .ok (.istore_n 2, 1) := by decide +kernel
theorem dX2_costOfBorder_57 : decode cX2_costOfBorder 57 = .ok (.iinc 3 1, 3) := by decide +kernel
theorem dX2_costOfBorder_60 : decode cX2_costOfBorder 60 = .ok (.goto (-56), 3) := by decide +kernel
theorem dX2_costOfBorder_63 : decode cX2_costOfBorder 63 = .ok (.iload_n 2, 1) := by decide +kernel
theorem dX2_costOfBorder_64 : decode cX2_costOfBorder 64 = .ok (.ireturn, 1) := by decide +kernel
theorem dX2_copyTo_0 : decode cX2_copyTo 0 = .ok (.iload_n 2, 1) := by decide +kernel
theorem dX2_copyTo_1 : decode cX2_copyTo 1 = .ok (.ifCond .lt 46, 3) := by decide +kernel
theorem dX2_copyTo_4 : decode cX2_copyTo 4 = .ok (.iload_n 2, 1) := by decide +kernel
theorem dX2_copyTo_5 : decode cX2_copyTo 5 = .ok (.aload_n 1, 1) := by decide +kernel
theorem dX2_copyTo_6 : decode cX2_copyTo 6 = .ok (.arraylength, 1) := by decide +kernel
theorem dX2_copyTo_7 : decode cX2_copyTo 7 = .ok (.bipush 18, 2) := by decide +kernel
theorem dX2_copyTo_9 : decode cX2_copyTo 9 = .ok (.isub, 1) := by decide +kernel
theorem dX2_copyTo_10 : decode cX2_copyTo 10 = .ok (.if_icmp .gt 37, 3) := by decide +kernel
theorem dX2_copyTo_13 : decode cX2_copyTo 13 = .ok (.aload_n 0, 1) := by decide +kernel
theorem dX2_copyTo_14 : decode cX2_copyTo 14 = .ok (.getfield 9, 3) := by decide +kernel
theorem dX2_copyTo_17 : decode cX2_copyTo 17 = .ok (.iconst 0, 1) := by decide +kernel
theorem dX2_copyTo_18 : decode cX2_copyTo 18 = .ok (.aload_n 1, 1) := by decide +kernel
theorem dX2_copyTo_19 : decode cX2_copyTo 19 = .ok (.iload_n 2, 1) := by decide +kernel
theorem dX2_copyTo_20 : decode cX2_copyTo 20 = .ok (.bipush 16, 2) := by decide +kernel
theorem dX2_copyTo_22 : decode cX2_copyTo 22 = .ok (.invokestatic 57, 3) := by decide +kernel
theorem dX2_copyTo_25 : decode cX2_copyTo 25 = .ok (.aload_n 1, 1) := by decide +kernel
theorem dX2_copyTo_26 : decode cX2_copyTo 26 = .ok (.iload_n 2, 1) := by decide +kernel
theorem dX2_copyTo_27 : decode cX2_copyTo 27 = .ok (.bipush 16, 2) := by decide +kernel
theorem dX2_copyTo_29 : decode cX2_copyTo 29 = .ok (.iadd, 1) := by decide +kernel
theorem dX2_copyTo_30 : decode cX2_copyTo 30 = .ok (.aload_n 0, 1) := by decide +kernel
theorem dX2_copyTo_31 : decode cX2_copyTo 31 = .ok (.getfield 15, 3) := by decide +kernel
theorem dX2_copyTo_34 : decode cX2_copyTo 34 = .ok (.iastore, 1) := by decide +kernel
theorem dX2_copyTo_35 : decode cX2_copyTo 35 = .ok (.aload_n 1, 1) := by decide +kernel
theorem dX2_copyTo_36 : decode cX2_copyTo 36 = .ok (.iload_n 2, 1) := by decide +kernel
theorem dX2_copyTo_37 : decode cX2_copyTo 37 = .ok (.bipush 16, 2) := by decide +kernel
theorem dX2_copyTo_39 : decode cX2_copyTo 39 = .ok (.iadd, 1) := by decide +kernel
theorem dX2_copyTo_40 : decode cX2_copyTo 40 = .ok (.iconst 1, 1) := by decide +kernel
theorem dX2_copyTo_41 : decode cX2_copyTo 41 = .ok (.iadd, 1) := by decide +kernel
theorem dX2_copyTo_42 : decode cX2_copyTo 42 = .ok (.aload_n 0, 1) := by decide +kernel
theorem dX2_copyTo_43 : decode cX2_copyTo 43 = .ok (.getfield 19, 3) := by decide +kernel
theorem dX2_copyTo_46 : decode cX2_copyTo 46 = .ok (.iastore, 1) := by decide +kernel
theorem dX2_copyTo_47 : decode cX2_copyTo 47 = .ok (.return_, 1) := by decide +kernel
