/-! decode rows -/
theorem dX2_copyFrom_0 : decode cX2_copyFrom 0 = .ok (.iload_n 2, 1) := by decide +kernel
theorem dX2_copyFrom_1 : decode cX2_copyFrom 1 = .ok (.ifCond .lt 46, 3) := by decide +kernel
theorem dX2_copyFrom_4 : decode cX2_copyFrom 4 = .ok (.iload_n 2, 1) := by decide +kernel
theorem dX2_copyFrom_5 : decode cX2_copyFrom 5 = .ok (.aload_n 1, 1) := by decide +kernel
theorem dX2_copyFrom_6 : decode cX2_copyFrom 6 = .ok (.arraylength, 1) := by decide +kernel
theorem dX2_copyFrom_7 : decode cX2_copyFrom 7 = .ok (.bipush 18, 2) := by decide +kernel
theorem dX2_copyFrom_9 : decode cX2_copyFrom 9 = .ok (.isub, 1) := by decide +kernel
theorem dX2_copyFrom_10 : decode cX2_copyFrom 10 = .ok (.if_icmp .gt 37, 3) := by decide +kernel
theorem dX2_copyFrom_13 : decode cX2_copyFrom 13 = .ok (.aload_n 1, 1) := by decide +kernel
theorem dX2_copyFrom_14 : decode cX2_copyFrom 14 = .ok (.iload_n 2, 1) := by decide +kernel
theorem dX2_copyFrom_15 : decode cX2_copyFrom 15 = .ok (.aload_n 0, 1) := by decide +kernel
theorem dX2_copyFrom_16 : decode cX2_copyFrom 16 = .ok (.getfield 9, 3) := by decide +kernel
theorem dX2_copyFrom_19 : decode cX2_copyFrom 19 = .ok (.iconst 0, 1) := by decide +kernel
theorem dX2_copyFrom_20 : decode cX2_copyFrom 20 = .ok (.bipush 16, 2) := by decide +kernel
theorem dX2_copyFrom_22 : decode cX2_copyFrom 22 = .ok (.invokestatic 57, 3) := by decide +kernel
theorem dX2_copyFrom_25 : decode cX2_copyFrom 25 = .ok (.aload_n 0, 1) := by decide +kernel
theorem dX2_copyFrom_26 : decode cX2_copyFrom 26 = .ok (.aload_n 1, 1) := by decide +kernel
theorem dX2_copyFrom_27 : decode cX2_copyFrom 27 = .ok (.iload_n 2, 1) := by decide +kernel
theorem dX2_copyFrom_28 : decode cX2_copyFrom 28 = .ok (.bipush 16, 2) := by decide +kernel
theorem dX2_copyFrom_30 : decode cX2_copyFrom 30 = .ok (.iadd, 1) := by decide +kernel
theorem dX2_copyFrom_31 : decode cX2_copyFrom 31 = .ok (.iaload, 1) := by decide +kernel
theorem dX2_copyFrom_32 : decode cX2_copyFrom 32 = .ok (.putfield 15, 3) := by decide +kernel
theorem dX2_copyFrom_35 : decode cX2_copyFrom 35 = .ok (.aload_n 0, 1) := by decide +kernel
theorem dX2_copyFrom_36 : decode cX2_copyFrom 36 = .ok (.aload_n 1, 1) := by decide +kernel
theorem dX2_copyFrom_37 : decode cX2_copyFrom 37 = .ok (.iload_n 2, 1) := by decide +kernel
theorem dX2_copyFrom_38 : decode cX2_copyFrom 38 = .ok (.bipush 16, 2) := by decide +kernel
theorem dX2_copyFrom_40 : decode cX2_copyFrom 40 = .ok (.iadd, 1) := by decide +kernel
theorem dX2_copyFrom_41 : decode cX2_copyFrom 41 = .ok (.iconst 1, 1) := by decide +kernel
theorem dX2_copyFrom_42 : decode cX2_copyFrom 42 = .ok (.iadd, 1) := by decide +kernel
theorem dX2_copyFrom_43 : decode cX2_copyFrom 43 = .ok (.iaload, 1) := by decide +kernel
theorem dX2_copyFrom_44 : decode cX2_copyFrom 44 = .ok (.putfield 19, 3) := by decide +kernel
theorem dX2_copyFrom_47 : decode cX2_copyFrom 47 = .ok (.return_, 1) := by decide +kernel
theorem dX3_init_0 : decode cX3_init 0 = .ok (.aload_n 0, 1) := by decide +kernel
theorem dX3_init_1 : decode cX3_init 1 = .ok (.invokespecial 3, 3) := by decide +kernel
theorem dX3_init_4 : decode cX3_init 4 = .ok (.aload_n 0, 1) := by decide +kernel
theorem dX3_init_5 : decode cX3_init 5 = .ok (.iconst 0, 1) := by decide +kernel
theorem dX3_init_6 : decode cX3_init 6 = .ok (.putfield 9, 3) := by decide +kernel
theorem dX3_init_9 : decode cX3_init 9 = .ok (.aload_n 0, 1) := by decide +kernel
theorem dX3_init_10 : decode cX3_init 10 = .ok (.aload_n 1, 1) := by decide +kernel
theorem dX3_init_11 : decode cX3_init 11 = .ok (.putfield 15, 3) := by decide +kernel
theorem dX3_init_14 : decode cX3_init 14 = .ok (.aload_n 0, 1) := by decide +kernel
theorem dX3_init_15 : decode cX3_init 15 = .ok (.aload_n 2, 1) := by decide +kernel
theorem dX3_init_16 : decode cX3_init 16 = .ok (.putfield 19, 3) := by decide +kernel
theorem dX3_init_19 : decode cX3_init 19 = .ok (.return_, 1) := by decide +kernel
theorem dX3_seek_0 : decode cX3_seek 0 = .ok (.aload_n 0, 1) := by decide +kernel
theorem dX3_seek_1 : decode cX3_seek 1 = .ok (.iconst 0, 1) := by decide +kernel
theorem dX3_seek_2 : decode cX3_seek 2 = .ok (.putfield 9, 3) := by decide +kernel
theorem dX3_seek_5 : decode cX3_seek 5 = .ok (.iload_n 3, 1) := by decide +kernel
theorem dX3_seek_6 : decode cX3_seek 6 = .ok (.istore 4, 2) := by decide +kernel
theorem dX3_seek_8 : decode cX3_seek 8 = .ok (.aload_n 0, 1) := by decide +kernel
theorem dX3_seek_9 : decode cX3_seek 9 = .ok (.getfield 19, 3) := by decide +kernel
theorem dX3_seek_12 : decode cX3_seek 12 = .ok (.iload_n 1, 1) := by decide +kernel
theorem dX3_seek_13 : decode cX3_seek 13 = .ok (.iload_n 2, 1) := by decide +kernel
theorem dX3_seek_14 : decode cX3_seek 14 = .ok (.iconst 0, 1) := by decide +kernel
theorem dX3_seek_15 : decode cX3_seek 15 = .ok (.iconst 0, 1) := by decide +kernel
theorem dX3_seek_16 : decode cX3_seek 16 = .ok (.invokevirtual 23, 3) := by decide +kernel
theorem dX3_seek_19 : decode cX3_seek 19 = .ok (.istore 5, 2) := by decide +kernel
theorem dX3_seek_21 : decode cX3_seek 21 = .ok (.iconst 0, 1) := by decide +kernel
theorem dX3_seek_22 : decode cX3_seek 22 = .ok (.istore 6, 2) := by decide +kernel
theorem dX3_seek_24 : decode cX3_seek 24 = .ok (.iload 6, 2) := by decide +kernel
theorem dX3_seek_26 : decode cX3_seek 26 = .ok (.bipush 16, 2) := by decide +kernel
theorem dX3_seek_28 : decode cX3_seek 28 = .ok (.if_icmp .ge 173, 3) := by decide +kernel
theorem dX3_seek_31 : decode cX3_seek 31 = .ok (.iconst (-1), 1) := by decide +kernel
theorem dX3_seek_32 : decode cX3_seek 32 = .ok (.istore 7, 2) := by decide +kernel
theorem dX3_seek_34 : decode cX3_seek 34 = .ok (.iload 5, 2) := by decide +kernel
theorem dX3_seek_36 : decode cX3_seek 36 = .ok (.istore 8, 2) := by decide +kernel
theorem dX3_seek_38 : decode cX3_seek 38 = .ok (.iconst 0, 1) := by decide +kernel
theorem dX3_seek_39 : decode cX3_seek 39 = .ok (.istore 9, 2) := by decide +kernel
theorem dX3_seek_41 : decode cX3_seek 41 = .ok (.iload 9, 2) := by decide +kernel
theorem dX3_seek_43 : decode cX3_seek 43 = .ok (.aload_n 0, 1) := by decide +kernel
theorem dX3_seek_44 : decode cX3_seek 44 = .ok (.getfield 15, 3) := by decide +kernel
theorem dX3_seek_47 : decode cX3_seek 47 = .ok (.getfield 29, 3) := by decide +kernel
theorem dX3_seek_50 : decode cX3_seek 50 = .ok (.if_icmp .ge 105, 3) := by decide +kernel
theorem dX3_seek_53 : decode cX3_seek 53 = .ok (.aload_n 0, 1) := by decide +kernel
theorem dX3_seek_54 : decode cX3_seek 54 = .ok (.getfield 9, 3) := by decide +kernel
theorem dX3_seek_57 : decode cX3_seek 57 = .ok (.iload 9, 2) := by decide +kernel
theorem dX3_seek_59 : decode cX3_seek 59 = .ok (.ishr, 1) := by decide +kernel
theorem dX3_seek_60 : decode cX3_seek 60 = .ok (.iconst 1, 1) := by decide +kernel
theorem dX3_seek_61 : decode cX3_seek 61 = .ok (.iand, 1) := by decide +kernel
theorem dX3_seek_62 : decode cX3_seek 62 = .ok (.ifCond .ne 87, 3) := by decide +kernel
theorem dX3_seek_65 : decode cX3_seek 65 = .ok (.aload_n 0, 1) := by decide +kernel
theorem dX3_seek_66 : decode cX3_seek 66 = .ok (.getfield 15, 3) := by decide +kernel
theorem dX3_seek_69 : decode cX3_seek 69 = .ok (.iload 9, 2) := by decide +kernel
theorem dX3_seek_71 : decode cX3_seek 71 = .ok (.invokevirtual 34, 3) := by decide +kernel
theorem dX3_seek_74 : decode cX3_seek 74 = .ok (.iload 4, 2) := by decide +kernel
theorem dX3_seek_76 : decode cX3_seek 76 = .ok (.if_icmp .gt 73, 3) := by decide +kernel
theorem dX3_seek_79 : decode cX3_seek 79 = .ok (.aload_n 0, 1) := by decide +kernel
theorem dX3_seek_80 : decode cX3_seek 80 = .ok (.getfield 19, 3) := by decide +kernel
theorem dX3_seek_83 : decode cX3_seek 83 = .ok (.iload_n 1, 1) := by decide +kernel
theorem dX3_seek_84 : decode cX3_seek 84 = .ok (.iload_n 2, 1) := by decide +kernel
theorem dX3_seek_85 : decode cX3_seek 85 = .ok (.aload_n 0, 1) := by decide +kernel
theorem dX3_seek_86 : decode cX3_seek 86 = .ok (.getfield 9, 3) := by decide +kernel
theorem dX3_seek_89 : decode cX3_seek 89 = .ok (.iconst 1, 1) := by decide +kernel
theorem dX3_seek_90 : decode cX3_seek 90 = .ok (.iload 9, 2) := by decide +kernel
theorem dX3_seek_92 : decode cX3_seek 92 = .ok (.ishl, 1) := by decide +kernel
theorem dX3_seek_93 : decode cX3_seek 93 = .ok (.ior, 1) := by decide +kernel
theorem dX3_seek_94 : decode cX3_seek 94 = .ok (.iconst 0, 1) := by decide +kernel
theorem dX3_seek_95 : decode cX3_seek 95 = .ok (.invokevirtual 23, 3) := by decide +kernel
theorem dX3_seek_98 : decode cX3_seek 98 = .ok (.istore 10, 2) := by decide +kernel
theorem dX3_seek_100 : decode cX3_seek 100 = .ok (.iload 10, 2) := by decide +kernel
theorem dX3_seek_102 : decode cX3_seek 102 = .ok (.iload 8, 2) := by decide +kernel
theorem dX3_seek_104 : decode cX3_seek 104 = .ok (.if_icmp .gt 37, 3) := by decide +kernel
theorem dX3_seek_107 : decode cX3_seek 107 = .ok (.iload 7, 2) := by decide +kernel
theorem dX3_seek_109 : decode cX3_seek 109 = .ok (.iconst (-1), 1) := by decide +kernel
theorem dX3_seek_110 : decode cX3_seek 110 = .ok (.if_icmp .eq 39, 3) := by decide +kernel
theorem dX3_seek_113 : decode cX3_seek 113 = .ok (.iload 10, 2) := by decide +kernel
theorem dX3_seek_115 : decode cX3_seek 115 = .ok (.iload 8, 2) := by decide +kernel
theorem dX3_seek_117 : decode cX3_seek 117 = .ok (.if_icmp .ne 32, 3) := by decide +kernel
theorem dX3_seek_120 : decode cX3_seek 120 = .ok (.aload_n 0, 1) := by decide +kernel
theorem dX3_seek_121 : decode cX3_seek 121 = .ok (.getfield 15, 3) := by decide +kernel
theorem dX3_seek_124 : decode cX3_seek 124 = .ok (.iload 9, 2) := by decide +kernel
theorem dX3_seek_126 : decode cX3_seek 126 = .ok (.invokevirtual 34, 3) := by decide +kernel
theorem dX3_seek_129 : decode cX3_seek 129 = .ok (.aload_n 0, 1) := by decide +kernel
theorem dX3_seek_130 : decode cX3_seek 130 = .ok (.getfield 15, 3) := by decide +kernel
theorem dX3_seek_133 : decode cX3_seek 133 = .ok (.iload 7, 2) := by decide +kernel
theorem dX3_seek_135 : decode cX3_seek 135 = .ok (.invokevirtual 34, 3) := by decide +kernel
theorem dX3_seek_138 : decode cX3_seek 138 = .ok (.if_icmp .ge 11, 3) := by decide +kernel
theorem dX3_seek_141 : decode cX3_seek 141 = .ok (.iload 9, 2) := by decide +kernel
theorem dX3_seek_143 : decode cX3_seek 143 = .ok (.istore 7, 2) := by decide +kernel
theorem dX3_seek_145 : decode cX3_seek 145 = .ok (.iload 10, 2) := by decide +kernel
theorem dX3_seek_147 : decode cX3_seek 147 = .ok (.istore 8, 2) := by decide +kernel
theorem dX3_seek_149 : decode cX3_seek 149 = .ok (.iinc 9 1, 3) := by decide +kernel
theorem dX3_seek_152 : decode cX3_seek 152 = .ok (.goto (-111), 3) := by decide +kernel
theorem dX3_seek_155 : decode cX3_seek 155 = .ok (.iload 7, 2) := by decide +kernel
theorem dX3_seek_157 : decode cX3_seek 157 = .ok (.iconst (-1), 1) := by decide +kernel
theorem dX3_seek_158 : decode cX3_seek 158 = .ok (.if_icmp .ne 6, 3) := by decide +kernel
theorem dX3_seek_161 : decode cX3_seek 161 = .ok (.goto 40, 3) := by decide +kernel
theorem dX3_seek_164 : decode cX3_seek 164 = .ok (.aload_n 0, 1) := by decide +kernel
theorem dX3_seek_165 : decode cX3_seek 165 = .ok (.dup, 1) := by decide +kernel
theorem dX3_seek_166 : decode cX3_seek 166 = .ok (.getfield 9, 3) := by decide +kernel
theorem dX3_seek_169 : decode cX3_seek 169 = .ok (.iconst 1, 1) := by decide +kernel
theorem dX3_seek_170 : decode cX3_seek 170 = .ok (.iload 7, 2) := by decide +kernel
theorem dX3_seek_172 : decode cX3_seek 172 = .ok (.ishl, 1) := by decide +kernel
theorem dX3_seek_173 : decode cX3_seek 173 = .ok (.ior, 1) := by decide +kernel
theorem dX3_seek_174 : decode cX3_seek 174 = .ok (.putfield 9, 3) := by decide +kernel
theorem dX3_seek_177 : decode cX3_seek 177 = .ok (.iload 4, 2) := by decide +kernel
theorem dX3_seek_179 : decode cX3_seek 179 = .ok (.aload_n 0, 1) := by decide +kernel
theorem dX3_seek_180 : decode cX3_seek 180 = .ok (.getfield 15, 3) := by decide +kernel
theorem dX3_seek_183 : decode cX3_seek 183 = .ok (.iload 7, 2) := by decide +kernel
theorem dX3_seek_185 : decode cX3_seek 185 = .ok (.invokevirtual 34, 3) := by decide +kernel
theorem dX3_seek_188 : decode cX3_seek 188 = .ok (.isub, 1) := by decide +kernel
theorem dX3_seek_189 : decode cX3_seek 189 = .ok (.istore 4, 2) := by decide +kernel
theorem dX3_seek_191 : decode cX3_seek 191 = .ok (.iload 8, 2) := by decide +kernel
theorem dX3_seek_193 : decode cX3_seek 193 = .ok (.istore 5, 2) := by decide +kernel
theorem dX3_seek_195 : decode cX3_seek 195 = .ok (.iinc 6 1, 3) := by decide +kernel
theorem dX3_seek_198 : decode cX3_seek 198 = .ok (.goto (-174), 3) := by decide +kernel
theorem dX3_seek_201 : decode cX3_seek 201 = .ok (.iload 5, 2) := by decide +kernel
theorem dX3_seek_203 : decode cX3_seek 203 = .ok (.ireturn, 1) := by decide +kernel
theorem dX4_init_0 : decode cX4_init 0 = .ok (.aload_n 0, 1) := by decide +kernel
theorem dX4_init_1 : decode cX4_init 1 = .ok (.invokespecial 3, 3) := by decide +kernel
theorem dX4_init_4 : decode cX4_init 4 = .ok (.aload_n 0, 1) := by decide +kernel
theorem dX4_init_5 : decode cX4_init 5 = .ok (.sipush 216, 3) := by decide +kernel
theorem dX4_init_8 : decode cX4_init 8 = .ok (.newarray .int, 2) := by decide +kernel
theorem dX4_init_10 : decode cX4_init 10 = .ok (.putfield 11, 3) := by decide +kernel
theorem dX4_init_13 : decode cX4_init 13 = .ok (.aload_n 0, 1) := by decide +kernel
theorem dX4_init_14 : decode cX4_init 14 = .ok (.iconst 0, 1) := by decide +kernel
theorem dX4_init_15 : decode cX4_init 15 = .ok (.putfield 17, 3) := by decide +kernel
theorem dX4_init_18 : decode cX4_init 18 = .ok (.aload_n 0, 1) := by decide +kernel
theorem dX4_init_19 : decode cX4_init 19 = .ok (.iconst 0, 1) := by decide +kernel
theorem dX4_init_20 : decode cX4_init 20 = .ok (.putfield 21, 3) := by decide +kernel
theorem dX4_init_23 : decode cX4_init 23 = .ok (.return_, 1) := by decide +kernel
theorem dX4_keep_0 : decode cX4_keep 0 = .ok (.aload_n 0, 1) := by decide +kernel
theorem dX4_keep_1 : decode cX4_keep 1 = .ok (.getfield 21, 3) := by decide +kernel
theorem dX4_keep_4 : decode cX4_keep 4 = .ok (.bipush 12, 2) := by decide +kernel
theorem dX4_keep_6 : decode cX4_keep 6 = .ok (.if_icmp .ne 26, 3) := by decide +kernel
theorem dX4_keep_9 : decode cX4_keep 9 = .ok (.aload_n 0, 1) := by decide +kernel
theorem dX4_keep_10 : decode cX4_keep 10 = .ok (.aload_n 0, 1) := by decide +kernel
theorem dX4_keep_11 : decode cX4_keep 11 = .ok (.getfield 17, 3) := by decide +kernel
theorem dX4_keep_14 : decode cX4_keep 14 = .ok (.iconst 1, 1) := by decide +kernel
theorem dX4_keep_15 : decode cX4_keep 15 = .ok (.iadd, 1) := by decide +kernel
theorem dX4_keep_16 : decode cX4_keep 16 = .ok (.bipush 12, 2) := by decide +kernel
theorem dX4_keep_18 : decode cX4_keep 18 = .ok (.irem, 1) := by decide +kernel
theorem dX4_keep_19 : decode cX4_keep 19 = .ok (.putfield 17, 3) := by decide +kernel
theorem dX4_keep_22 : decode cX4_keep 22 = .ok (.aload_n 0, 1) := by decide +kernel
theorem dX4_keep_23 : decode cX4_keep 23 = .ok (.dup, 1) := by decide +kernel
theorem dX4_keep_24 : decode cX4_keep 24 = .ok (.getfield 21, 3) := by decide +kernel
theorem dX4_keep_27 : decode cX4_keep 27 = .ok (.iconst 1, 1) := by decide +kernel
theorem dX4_keep_28 : decode cX4_keep 28 = .ok (.isub, 1) := by decide +kernel
theorem dX4_keep_29 : decode cX4_keep 29 = .ok (.putfield 21, 3) := by decide +kernel
theorem dX4_keep_32 : decode cX4_keep 32 = .ok (.aload_n 1, 1) := by decide +kernel
theorem dX4_keep_33 : decode cX4_keep 33 = .ok (.aload_n 0, 1) := by decide +kernel
theorem dX4_keep_34 : decode cX4_keep 34 = .ok (.getfield 11, 3) := by decide +kernel
theorem dX4_keep_37 : decode cX4_keep 37 = .ok (.aload_n 0, 1) := by decide +kernel
theorem dX4_keep_38 : decode cX4_keep 38 = .ok (.getfield 17, 3) := by decide +kernel
theorem dX4_keep_41 : decode cX4_keep 41 = .ok (.aload_n 0, 1) := by decide +kernel
theorem dX4_keep_42 : decode cX4_keep 42 = .ok (.getfield 21, 3) := by decide +kernel
theorem dX4_keep_45 : decode cX4_keep 45 = .ok (.iadd, 1) := by decide +kernel
theorem dX4_keep_46 : decode cX4_keep 46 = .ok (.bipush 12, 2) := by decide +kernel
theorem dX4_keep_48 : decode cX4_keep 48 = .ok (.irem, 1) := by decide +kernel
theorem dX4_keep_49 : decode cX4_keep 49 = .ok (.bipush 18, 2) := by decide +kernel
theorem dX4_keep_51 : decode cX4_keep 51 = .ok (.imul, 1) := by decide +kernel
theorem dX4_keep_52 : decode cX4_keep 52 = .ok (.invokevirtual 24, 3) := by decide +kernel
theorem dX4_keep_55 : decode cX4_keep 55 = .ok (.aload_n 0, 1) := by decide +kernel
theorem dX4_keep_56 : decode cX4_keep 56 = .ok (.dup, 1) := by decide +kernel
theorem dX4_keep_57 : decode cX4_keep 57 = .ok (.getfield 21, 3) := by decide +kernel
theorem dX4_keep_60 : decode cX4_keep 60 = .ok (.iconst 1, 1) := by decide +kernel
theorem dX4_keep_61 : decode cX4_keep 61 = .ok (.iadd, 1) := by decide +kernel
theorem dX4_keep_62 : decode cX4_keep 62 = .ok (.putfield 21, 3) := by decide +kernel
theorem dX4_keep_65 : decode cX4_keep 65 = .ok (.return_, 1) := by decide +kernel
theorem dX4_bringBack_0 : decode cX4_bringBack 0 = .ok (.aload_n 0, 1) := by decide +kernel
theorem dX4_bringBack_1 : decode cX4_bringBack 1 = .ok (.getfield 21, 3) := by decide +kernel
theorem dX4_bringBack_4 : decode cX4_bringBack 4 = .ok (.ifCond .ne 5, 3) := by decide +kernel
theorem dX4_bringBack_7 : decode cX4_bringBack 7 = .ok (.iconst 0, 1) := by decide +kernel
theorem dX4_bringBack_8 : decode cX4_bringBack 8 = .ok (.ireturn, 1) := by decide +kernel
theorem dX4_bringBack_9 : decode cX4_bringBack 9 = .ok (.aload_n 0, 1) := by decide +kernel
theorem dX4_bringBack_10 : decode cX4_bringBack 10 = .ok (.dup, 1) := by decide +kernel
theorem dX4_bringBack_11 : decode cX4_bringBack 11 = .ok (.getfield 21, 3) := by decide +kernel
theorem dX4_bringBack_14 : decode cX4_bringBack 14 = .ok (.iconst 1, 1) := by decide +kernel
theorem dX4_bringBack_15 : decode cX4_bringBack 15 = .ok (.isub, 1) := by decide +kernel
theorem dX4_bringBack_16 : decode cX4_bringBack 16 = .ok (.putfield 21, 3) := by decide +kernel
theorem dX4_bringBack_19 : decode cX4_bringBack 19 = .ok (.aload_n 1, 1) := by decide +kernel
theorem dX4_bringBack_20 : decode cX4_bringBack 20 = .ok (.aload_n 0, 1) := by decide +kernel
theorem dX4_bringBack_21 : decode cX4_bringBack 21 = .ok (.getfield 11, 3) := by decide +kernel
theorem dX4_bringBack_24 : decode cX4_bringBack 24 = .ok (.aload_n 0, 1) := by decide +kernel
theorem dX4_bringBack_25 : decode cX4_bringBack 25 = .ok (.getfield 17, 3) := by decide +kernel
theorem dX4_bringBack_28 : decode cX4_bringBack 28 = .ok (.aload_n 0, 1) := by decide +kernel
theorem dX4_bringBack_29 : decode cX4_bringBack 29 = .ok (.getfield 21, 3) := by decide +kernel
theorem dX4_bringBack_32 : decode cX4_bringBack 32 = .ok (.iadd, 1) := by decide +kernel
theorem dX4_bringBack_33 : decode cX4_bringBack 33 = .ok (.bipush 12, 2) := by decide +kernel
theorem dX4_bringBack_35 : decode cX4_bringBack 35 = .ok (.irem, 1) := by decide +kernel
theorem dX4_bringBack_36 : decode cX4_bringBack 36 = .ok (.bipush 18, 2) := by decide +kernel
theorem dX4_bringBack_38 : decode cX4_bringBack 38 = .ok (.imul, 1) := by decide +kernel
theorem dX4_bringBack_39 : decode cX4_bringBack 39 = .ok (.invokevirtual 28, 3) := by decide +kernel
theorem dX4_bringBack_42 : decode cX4_bringBack 42 = .ok (.iconst 1, 1) := by decide +kernel
theorem dX4_bringBack_43 : decode cX4_bringBack 43 = .ok (.ireturn, 1) := by decide +kernel
theorem dX5_init_0 : decode cX5_init 0 = .ok (.aload_n 0, 1) := by decide +kernel
theorem dX5_init_1 : decode cX5_init 1 = .ok (.invokespecial 3, 3) := by decide +kernel
theorem dX5_init_4 : decode cX5_init 4 = .ok (.aload_n 0, 1) := by decide +kernel
theorem dX5_init_5 : decode cX5_init 5 = .ok (.bipush 16, 2) := by decide +kernel
theorem dX5_init_7 : decode cX5_init 7 = .ok (.newarray .int, 2) := by decide +kernel
theorem dX5_init_9 : decode cX5_init 9 = .ok (.putfield 9, 3) := by decide +kernel
theorem dX5_init_12 : decode cX5_init 12 = .ok (.aload_n 0, 1) := by decide +kernel
theorem dX5_init_13 : decode cX5_init 13 = .ok (.bipush 8, 2) := by decide +kernel
theorem dX5_init_15 : decode cX5_init 15 = .ok (.newarray .int, 2) := by decide +kernel
theorem dX5_init_17 : decode cX5_init 17 = .ok (.putfield 15, 3) := by decide +kernel
theorem dX5_init_20 : decode cX5_init 20 = .ok (.aload_n 0, 1) := by decide +kernel
theorem dX5_init_21 : decode cX5_init 21 = .ok (.bipush 8, 2) := by decide +kernel
theorem dX5_init_23 : decode cX5_init 23 = .ok (.newarray .int, 2) := by decide +kernel
theorem dX5_init_25 : decode cX5_init 25 = .ok (.putfield 18, 3) := by decide +kernel
theorem dX5_init_28 : decode cX5_init 28 = .ok (.aload_n 0, 1) := by decide +kernel
theorem dX5_init_29 : decode cX5_init 29 = .ok (.bipush 8, 2) := by decide +kernel
theorem dX5_init_31 : decode cX5_init 31 = .ok (.newarray .int, 2) := by decide +kernel
theorem dX5_init_33 : decode cX5_init 33 = .ok (.putfield 21, 3) := by decide +kernel
theorem dX5_init_36 : decode cX5_init 36 = .ok (.aload_n 0, 1) := by decide +kernel
theorem dX5_init_37 : decode cX5_init 37 = .ok (.bipush 8, 2) := by decide +kernel
theorem dX5_init_39 : decode cX5_init 39 = .ok (.newarray .int, 2) := by decide +kernel
theorem dX5_init_41 : decode cX5_init 41 = .ok (.putfield 24, 3) := by decide +kernel
theorem dX5_init_44 : decode cX5_init 44 = .ok (.aload_n 0, 1) := by decide +kernel
theorem dX5_init_45 : decode cX5_init 45 = .ok (.bipush 8, 2) := by decide +kernel
theorem dX5_init_47 : decode cX5_init 47 = .ok (.newarray .int, 2) := by decide +kernel
theorem dX5_init_49 : decode cX5_init 49 = .ok (.putfield 27, 3) := by decide +kernel
theorem dX5_init_52 : decode cX5_init 52 = .ok (.aload_n 0, 1) := by decide +kernel
theorem dX5_init_53 : decode cX5_init 53 = .ok (.aload_n 1, 1) := by decide +kernel
theorem dX5_init_54 : decode cX5_init 54 = .ok (.putfield 30, 3) := by decide +kernel
theorem dX5_init_57 : decode cX5_init 57 = .ok (.return_, 1) := by decide +kernel
theorem dX5_measure_0 : decode cX5_measure 0 = .ok (.aload_n 0, 1) := by decide +kernel
theorem dX5_measure_1 : decode cX5_measure 1 = .ok (.iload_n 1, 1) := by decide +kernel
theorem dX5_measure_2 : decode cX5_measure 2 = .ok (.iload_n 3, 1) := by decide +kernel
theorem dX5_measure_3 : decode cX5_measure 3 = .ok (.iload 4, 2) := by decide +kernel
theorem dX5_measure_5 : decode cX5_measure 5 = .ok (.invokevirtual 34, 3) := by decide +kernel
theorem dX5_measure_8 : decode cX5_measure 8 = .ok (.aload_n 0, 1) := by decide +kernel
theorem dX5_measure_9 : decode cX5_measure 9 = .ok (.iload_n 2, 1) := by decide +kernel
theorem dX5_measure_10 : decode cX5_measure 10 = .ok (.invokevirtual 38, 3) := by decide +kernel
theorem dX5_measure_13 : decode cX5_measure 13 = .ok (.ireturn, 1) := by decide +kernel
theorem dX5_distanceTo_0 : decode cX5_distanceTo 0 = .ok (.iload_n 1, 1) := by decide +kernel
theorem dX5_distanceTo_1 : decode cX5_distanceTo 1 = .ok (.ifCond .lt 18, 3) := by decide +kernel
theorem dX5_distanceTo_4 : decode cX5_distanceTo 4 = .ok (.iload_n 1, 1) := by decide +kernel
theorem dX5_distanceTo_5 : decode cX5_distanceTo 5 = .ok (.bipush 8, 2) := by decide +kernel
theorem dX5_distanceTo_7 : decode cX5_distanceTo 7 = .ok (.if_icmp .ge 12, 3) := by decide +kernel
theorem dX5_distanceTo_10 : decode cX5_distanceTo 10 = .ok (.aload_n 0, 1) := by decide +kernel
theorem dX5_distanceTo_11 : decode cX5_distanceTo 11 = .ok (.getfield 15, 3) := by decide +kernel
theorem dX5_distanceTo_14 : decode cX5_distanceTo 14 = .ok (.iload_n 1, 1) := by decide +kernel
theorem dX5_distanceTo_15 : decode cX5_distanceTo 15 = .ok (.iaload, 1) := by decide +kernel
theorem dX5_distanceTo_16 : decode cX5_distanceTo 16 = .ok (.goto 6, 3) := by decide +kernel
theorem dX5_distanceTo_19 : decode cX5_distanceTo 19 = .ok (.sipush 9999, 3) := by decide +kernel
theorem dX5_distanceTo_22 : decode cX5_distanceTo 22 = .ok (.ireturn, 1) := by decide +kernel
theorem dX5_usedTo_0 : decode cX5_usedTo 0 = .ok (.iload_n 1, 1) := by decide +kernel
theorem dX5_usedTo_1 : decode cX5_usedTo 1 = .ok (.ifCond .lt 18, 3) := by decide +kernel
theorem dX5_usedTo_4 : decode cX5_usedTo 4 = .ok (.iload_n 1, 1) := by decide +kernel
theorem dX5_usedTo_5 : decode cX5_usedTo 5 = .ok (.bipush 8, 2) := by decide +kernel
theorem dX5_usedTo_7 : decode cX5_usedTo 7 = .ok (.if_icmp .ge 12, 3) := by decide +kernel
theorem dX5_usedTo_10 : decode cX5_usedTo 10 = .ok (.aload_n 0, 1) := by decide +kernel
theorem dX5_usedTo_11 : decode cX5_usedTo 11 = .ok (.getfield 18, 3) := by decide +kernel
theorem dX5_usedTo_14 : decode cX5_usedTo 14 = .ok (.iload_n 1, 1) := by decide +kernel
theorem dX5_usedTo_15 : decode cX5_usedTo 15 = .ok (.iaload, 1) := by decide +kernel
theorem dX5_usedTo_16 : decode cX5_usedTo 16 = .ok (.goto 4, 3) := by decide +kernel
theorem dX5_usedTo_19 : decode cX5_usedTo 19 = .ok (.iconst 0, 1) := by decide +kernel
theorem dX5_usedTo_20 : decode cX5_usedTo 20 = .ok (.ireturn, 1) := by decide +kernel
theorem dX5_run_0 : decode cX5_run 0 = .ok (.aload_n 0, 1) := by decide +kernel
theorem dX5_run_1 : decode cX5_run 1 = .ok (.getfield 15, 3) := by decide +kernel
theorem dX5_run_4 : decode cX5_run 4 = .ok (.sipush 9999, 3) := by decide +kernel
theorem dX5_run_7 : decode cX5_run 7 = .ok (.invokestatic 42, 3) := by decide +kernel
theorem dX5_run_10 : decode cX5_run 10 = .ok (.aload_n 0, 1) := by decide +kernel
theorem dX5_run_11 : decode cX5_run 11 = .ok (.getfield 18, 3) := by decide +kernel
theorem dX5_run_14 : decode cX5_run 14 = .ok (.iconst 0, 1) := by decide +kernel
theorem dX5_run_15 : decode cX5_run 15 = .ok (.invokestatic 42, 3) := by decide +kernel
theorem dX5_run_18 : decode cX5_run 18 = .ok (.iload_n 1, 1) := by decide +kernel
theorem dX5_run_19 : decode cX5_run 19 = .ok (.ifCond .lt 9, 3) := by decide +kernel
theorem dX5_run_22 : decode cX5_run 22 = .ok (.iload_n 1, 1) := by decide +kernel
theorem dX5_run_23 : decode cX5_run 23 = .ok (.bipush 8, 2) := by decide +kernel
theorem dX5_run_25 : decode cX5_run 25 = .ok (.if_icmp .lt 4, 3) := by decide +kernel
theorem dX5_run_28 : decode cX5_run 28 = .ok (.return_, 1) := by decide +kernel
theorem dX5_run_29 : decode cX5_run 29 = .ok (.aload_n 0, 1) := by decide +kernel
theorem dX5_run_30 : decode cX5_run 30 = .ok (.getfield 15, 3) := by decide +kernel
theorem dX5_run_33 : decode cX5_run 33 = .ok (.iload_n 1, 1) := by decide +kernel
theorem dX5_run_34 : decode cX5_run 34 = .ok (.iconst 0, 1) := by decide +kernel
theorem dX5_run_35 : decode cX5_run 35 = .ok (.iastore, 1) := by decide +kernel
theorem dX5_run_36 : decode cX5_run 36 = .ok (.aload_n 0, 1) := by decide +kernel
theorem dX5_run_37 : decode cX5_run 37 = .ok (.getfield 30, 3) := by decide +kernel
theorem dX5_run_40 : decode cX5_run 40 = .ok (.iload_n 2, 1) := by decide +kernel
theorem dX5_run_41 : decode cX5_run 41 = .ok (.aload_n 0, 1) := by decide +kernel
theorem dX5_run_42 : decode cX5_run 42 = .ok (.getfield 9, 3) := by decide +kernel
theorem dX5_run_45 : decode cX5_run 45 = .ok (.invokevirtual 48, 3) := by decide +kernel
theorem dX5_run_48 : decode cX5_run 48 = .ok (.aload_n 0, 1) := by decide +kernel
theorem dX5_run_49 : decode cX5_run 49 = .ok (.invokevirtual 54, 3) := by decide +kernel
theorem dX5_run_52 : decode cX5_run 52 = .ok (.iconst 0, 1) := by decide +kernel
theorem dX5_run_53 : decode cX5_run 53 = .ok (.istore 4, 2) := by decide +kernel
theorem dX5_run_55 : decode cX5_run 55 = .ok (.iload 4, 2) := by decide +kernel
theorem dX5_run_57 : decode cX5_run 57 = .ok (.iload_n 3, 1) := by decide +kernel
theorem dX5_run_58 : decode cX5_run 58 = .ok (.if_icmp .ge 22, 3) := by decide +kernel
theorem dX5_run_61 : decode cX5_run 61 = .ok (.iload_n 2, 1) := by decide +kernel
theorem dX5_run_62 : decode cX5_run 62 = .ok (.ifCond .eq 18, 3) := by decide +kernel
theorem dX5_run_65 : decode cX5_run 65 = .ok (.aload_n 0, 1) := by decide +kernel
theorem dX5_run_66 : decode cX5_run 66 = .ok (.iload_n 2, 1) := by decide +kernel
theorem dX5_run_67 : decode cX5_run 67 = .ok (.invokevirtual 57, 3) := by decide +kernel
theorem dX5_run_70 : decode cX5_run 70 = .ok (.aload_n 0, 1) := by decide +kernel
theorem dX5_run_71 : decode cX5_run 71 = .ok (.invokevirtual 54, 3) := by decide +kernel
theorem dX5_run_74 : decode cX5_run 74 = .ok (.iinc 4 1, 3) := by decide +kernel
theorem dX5_run_77 : decode cX5_run 77 = .ok (.goto (-22), 3) := by decide +kernel
theorem dX5_run_80 : decode cX5_run 80 = .ok (.return_, 1) := by decide +kernel
theorem dX5_settle_0 : decode cX5_settle 0 = .ok (.iconst 1, 1) := by decide +kernel
theorem dX5_settle_1 : decode cX5_settle 1 = .ok (.istore_n 1, 1) := by decide +kernel
theorem dX5_settle_2 : decode cX5_settle 2 = .ok (.iconst 0, 1) := by decide +kernel
theorem dX5_settle_3 : decode cX5_settle 3 = .ok (.istore_n 2, 1) := by decide +kernel
theorem dX5_settle_4 : decode cX5_settle 4 = .ok (.iload_n 2, 1) := by decide +kernel
theorem dX5_settle_5 : decode cX5_settle 5 = .ok (.bipush 8, 2) := by decide +kernel
theorem dX5_settle_7 : decode cX5_settle 7 = .ok (.if_icmp .ge 118, 3) := by decide +kernel
theorem dX5_settle_10 : decode cX5_settle 10 = .ok (.iload_n 1, 1) := by decide +kernel
theorem dX5_settle_11 : decode cX5_settle 11 = .ok (.ifCond .eq 114, 3) := by decide +kernel
theorem dX5_settle_14 : decode cX5_settle 14 = .ok (.iconst 0, 1) := by decide +kernel
theorem dX5_settle_15 : decode cX5_settle 15 = .ok (.istore_n 1, 1) := by decide +kernel
theorem dX5_settle_16 : decode cX5_settle 16 = .ok (.iconst 0, 1) := by decide +kernel
theorem dX5_settle_17 : decode cX5_settle 17 = .ok (.istore_n 3, 1) := by decide +kernel
theorem dX5_settle_18 : decode cX5_settle 18 = .ok (.iload_n 3, 1) := by decide +kernel
theorem dX5_settle_19 : decode cX5_settle 19 = .ok (.aload_n 0, 1) := by decide +kernel
theorem dX5_settle_20 : decode cX5_settle 20 = .ok (.getfield 30, 3) := by decide +kernel
theorem dX5_settle_23 : decode cX5_settle 23 = .ok (.getfield 61, 3) := by decide +kernel
theorem dX5_settle_26 : decode cX5_settle 26 = .ok (.if_icmp .ge 93, 3) := by decide +kernel
theorem dX5_settle_29 : decode cX5_settle 29 = .ok (.aload_n 0, 1) := by decide +kernel
theorem dX5_settle_30 : decode cX5_settle 30 = .ok (.getfield 30, 3) := by decide +kernel
theorem dX5_settle_33 : decode cX5_settle 33 = .ok (.getfield 65, 3) := by decide +kernel
theorem dX5_settle_36 : decode cX5_settle 36 = .ok (.iload_n 3, 1) := by decide +kernel
theorem dX5_settle_37 : decode cX5_settle 37 = .ok (.iaload, 1) := by decide +kernel
theorem dX5_settle_38 : decode cX5_settle 38 = .ok (.istore 4, 2) := by decide +kernel
theorem dX5_settle_40 : decode cX5_settle 40 = .ok (.iload 4, 2) := by decide +kernel
theorem dX5_settle_42 : decode cX5_settle 42 = .ok (.bipush 7, 2) := by decide +kernel
theorem dX5_settle_44 : decode cX5_settle 44 = .ok (.iand, 1) := by decide +kernel
theorem dX5_settle_45 : decode cX5_settle 45 = .ok (.istore 5, 2) := by decide +kernel
theorem dX5_settle_47 : decode cX5_settle 47 = .ok (.iload 4, 2) := by decide +kernel
theorem dX5_settle_49 : decode cX5_settle 49 = .ok (.iconst 3, 1) := by decide +kernel
theorem dX5_settle_50 : decode cX5_settle 50 = .ok (.ishr, 1) := by decide +kernel
theorem dX5_settle_51 : decode cX5_settle 51 = .ok (.bipush 7, 2) := by decide +kernel
theorem dX5_settle_53 : decode cX5_settle 53 = .ok (.iand, 1) := by decide +kernel
theorem dX5_settle_54 : decode cX5_settle 54 = .ok (.istore 6, 2) := by decide +kernel
theorem dX5_settle_56 : decode cX5_settle 56 = .ok (.aload_n 0, 1) := by decide +kernel
theorem dX5_settle_57 : decode cX5_settle 57 = .ok (.getfield 15, 3) := by decide +kernel
theorem dX5_settle_60 : decode cX5_settle 60 = .ok (.iload 5, 2) := by decide +kernel
theorem dX5_settle_62 : decode cX5_settle 62 = .ok (.iaload, 1) := by decide +kernel
theorem dX5_settle_63 : decode cX5_settle 63 = .ok (.aload_n 0, 1) := by decide +kernel
theorem dX5_settle_64 : decode cX5_settle 64 = .ok (.getfield 9, 3) := by decide +kernel
theorem dX5_settle_67 : decode cX5_settle 67 = .ok (.iload_n 3, 1) := by decide +kernel
theorem dX5_settle_68 : decode cX5_settle 68 = .ok (.iaload, 1) := by decide +kernel
theorem dX5_settle_69 : decode cX5_settle 69 = .ok (.iadd, 1) := by decide +kernel
theorem dX5_settle_70 : decode cX5_settle 70 = .ok (.istore 7, 2) := by decide +kernel
theorem dX5_settle_72 : decode cX5_settle 72 = .ok (.iload 7, 2) := by decide +kernel
theorem dX5_settle_74 : decode cX5_settle 74 = .ok (.aload_n 0, 1) := by decide +kernel
theorem dX5_settle_75 : decode cX5_settle 75 = .ok (.getfield 15, 3) := by decide +kernel
theorem dX5_settle_78 : decode cX5_settle 78 = .ok (.iload 6, 2) := by decide +kernel
theorem dX5_settle_80 : decode cX5_settle 80 = .ok (.iaload, 1) := by decide +kernel
theorem dX5_settle_81 : decode cX5_settle 81 = .ok (.if_icmp .ge 32, 3) := by decide +kernel
theorem dX5_settle_84 : decode cX5_settle 84 = .ok (.aload_n 0, 1) := by decide +kernel
theorem dX5_settle_85 : decode cX5_settle 85 = .ok (.getfield 15, 3) := by decide +kernel
theorem dX5_settle_88 : decode cX5_settle 88 = .ok (.iload 6, 2) := by decide +kernel
theorem dX5_settle_90 : decode cX5_settle 90 = .ok (.iload 7, 2) := by decide +kernel
theorem dX5_settle_92 : decode cX5_settle 92 = .ok (.iastore, 1) := by decide +kernel
theorem dX5_settle_93 : decode cX5_settle 93 = .ok (.aload_n 0, 1) := by decide +kernel
theorem dX5_settle_94 : decode cX5_settle 94 = .ok (.getfield 18, 3) := by decide +kernel
theorem dX5_settle_97 : decode cX5_settle 97 = .ok (.iload 6, 2) := by decide +kernel
theorem dX5_settle_99 : decode cX5_settle 99 = .ok (.aload_n 0, 1) := by decide +kernel
theorem dX5_settle_100 : decode cX5_settle 100 = .ok (.getfield 18, 3) := by decide +kernel
theorem dX5_settle_103 : decode cX5_settle 103 = .ok (.iload 5, 2) := by decide +kernel
theorem dX5_settle_105 : decode cX5_settle 105 = .ok (.iaload, 1) := by decide +kernel
theorem dX5_settle_106 : decode cX5_settle 106 = .ok (.iconst 1, 1) := by decide +kernel
theorem dX5_settle_107 : decode cX5_settle 107 = .ok (.iload_n 3, 1) := by decide +kernel
theorem dX5_settle_108 : decode cX5_settle 108 = .ok (.ishl, 1) := by decide +kernel
theorem dX5_settle_109 : decode cX5_settle 109 = .ok (.ior, 1) := by decide +kernel
theorem dX5_settle_110 : decode cX5_settle 110 = .ok (.iastore, 1) := by decide +kernel
theorem dX5_settle_111 : decode cX5_settle 111 = .ok (.iconst 1, 1) := by decide +kernel
theorem dX5_settle_112 : decode cX5_settle 112 = .ok (.istore_n 1, 1) := by decide +kernel
theorem dX5_settle_113 : decode cX5_settle 113 = .ok (.iinc 3 1, 3) := by decide +kernel
theorem dX5_settle_116 : decode cX5_settle 116 = .ok (.goto (-98), 3) := by decide +kernel
theorem dX5_settle_119 : decode cX5_settle 119 = .ok (.iinc 2 1, 3) := by decide +kernel
theorem dX5_settle_122 : decode cX5_settle 122 = .ok (.goto (-118), 3) := by decide +kernel
theorem dX5_settle_125 : decode cX5_settle 125 = .ok (.return_, 1) := by decide +kernel
theorem dX5_repairOnce_0 : decode cX5_repairOnce 0 = .ok (.iconst 0, 1) := by decide +kernel
theorem dX5_repairOnce_1 : decode cX5_repairOnce 1 = .ok (.istore_n 2, 1) := by decide +kernel
theorem dX5_repairOnce_2 : decode cX5_repairOnce 2 = .ok (.iload_n 2, 1) := by decide +kernel
theorem dX5_repairOnce_3 : decode cX5_repairOnce 3 = .ok (.bipush 8, 2) := by decide +kernel
theorem dX5_repairOnce_5 : decode cX5_repairOnce 5 = .ok (.if_icmp .ge 33, 3) := by decide +kernel
theorem dX5_repairOnce_8 : decode cX5_repairOnce 8 = .ok (.aload_n 0, 1) := by decide +kernel
theorem dX5_repairOnce_9 : decode cX5_repairOnce 9 = .ok (.getfield 21, 3) := by decide +kernel
theorem dX5_repairOnce_12 : decode cX5_repairOnce 12 = .ok (.iload_n 2, 1) := by decide +kernel
theorem dX5_repairOnce_13 : decode cX5_repairOnce 13 = .ok (.aload_n 0, 1) := by decide +kernel
theorem dX5_repairOnce_14 : decode cX5_repairOnce 14 = .ok (.getfield 15, 3) := by decide +kernel
theorem dX5_repairOnce_17 : decode cX5_repairOnce 17 = .ok (.iload_n 2, 1) := by decide +kernel
theorem dX5_repairOnce_18 : decode cX5_repairOnce 18 = .ok (.iaload, 1) := by decide +kernel
theorem dX5_repairOnce_19 : decode cX5_repairOnce 19 = .ok (.iastore, 1) := by decide +kernel
theorem dX5_repairOnce_20 : decode cX5_repairOnce 20 = .ok (.aload_n 0, 1) := by decide +kernel
theorem dX5_repairOnce_21 : decode cX5_repairOnce 21 = .ok (.getfield 24, 3) := by decide +kernel
theorem dX5_repairOnce_24 : decode cX5_repairOnce 24 = .ok (.iload_n 2, 1) := by decide +kernel
theorem dX5_repairOnce_25 : decode cX5_repairOnce 25 = .ok (.aload_n 0, 1) := by decide +kernel
theorem dX5_repairOnce_26 : decode cX5_repairOnce 26 = .ok (.getfield 18, 3) := by decide +kernel
theorem dX5_repairOnce_29 : decode cX5_repairOnce 29 = .ok (.iload_n 2, 1) := by decide +kernel
theorem dX5_repairOnce_30 : decode cX5_repairOnce 30 = .ok (.iaload, 1) := by decide +kernel
theorem dX5_repairOnce_31 : decode cX5_repairOnce 31 = .ok (.iastore, 1) := by decide +kernel
theorem dX5_repairOnce_32 : decode cX5_repairOnce 32 = .ok (.iinc 2 1, 3) := by decide +kernel
theorem dX5_repairOnce_35 : decode cX5_repairOnce 35 = .ok (.goto (-33), 3) := by decide +kernel
theorem dX5_repairOnce_38 : decode cX5_repairOnce 38 = .ok (.iconst 0, 1) := by decide +kernel
theorem dX5_repairOnce_39 : decode cX5_repairOnce 39 = .ok (.istore_n 2, 1) := by decide +kernel
theorem dX5_repairOnce_40 : decode cX5_repairOnce 40 = .ok (.iload_n 2, 1) := by decide +kernel
theorem dX5_repairOnce_41 : decode cX5_repairOnce 41 = .ok (.aload_n 0, 1) := by decide +kernel
theorem dX5_repairOnce_42 : decode cX5_repairOnce 42 = .ok (.getfield 30, 3) := by decide +kernel
theorem dX5_repairOnce_45 : decode cX5_repairOnce 45 = .ok (.getfield 61, 3) := by decide +kernel
theorem dX5_repairOnce_48 : decode cX5_repairOnce 48 = .ok (.if_icmp .ge 97, 3) := by decide +kernel
theorem dX5_repairOnce_51 : decode cX5_repairOnce 51 = .ok (.aload_n 0, 1) := by decide +kernel
theorem dX5_repairOnce_52 : decode cX5_repairOnce 52 = .ok (.getfield 30, 3) := by decide +kernel
theorem dX5_repairOnce_55 : decode cX5_repairOnce 55 = .ok (.getfield 65, 3) := by decide +kernel
theorem dX5_repairOnce_58 : decode cX5_repairOnce 58 = .ok (.iload_n 2, 1) := by decide +kernel
theorem dX5_repairOnce_59 : decode cX5_repairOnce 59 = .ok (.iaload, 1) := by decide +kernel
theorem dX5_repairOnce_60 : decode cX5_repairOnce 60 = .ok (.istore_n 3, 1) := by decide +kernel
theorem dX5_repairOnce_61 : decode cX5_repairOnce 61 = .ok (.iload_n 3, 1) := by decide +kernel
theorem dX5_repairOnce_62 : decode cX5_repairOnce 62 = .ok (.bipush 7, 2) := by decide +kernel
theorem dX5_repairOnce_64 : decode cX5_repairOnce 64 = .ok (.iand, 1) := by decide +kernel
theorem dX5_repairOnce_65 : decode cX5_repairOnce 65 = .ok (.istore 4, 2) := by decide +kernel
theorem dX5_repairOnce_67 : decode cX5_repairOnce 67 = .ok (.iload_n 3, 1) := by decide +kernel
theorem dX5_repairOnce_68 : decode cX5_repairOnce 68 = .ok (.iconst 3, 1) := by decide +kernel
theorem dX5_repairOnce_69 : decode cX5_repairOnce 69 = .ok (.ishr, 1) := by decide +kernel
theorem dX5_repairOnce_70 : decode cX5_repairOnce 70 = .ok (.bipush 7, 2) := by decide +kernel
theorem dX5_repairOnce_72 : decode cX5_repairOnce 72 = .ok (.iand, 1) := by decide +kernel
theorem dX5_repairOnce_73 : decode cX5_repairOnce 73 = .ok (.istore 5, 2) := by decide +kernel
theorem dX5_repairOnce_75 : decode cX5_repairOnce 75 = .ok (.aload_n 0, 1) := by decide +kernel
theorem dX5_repairOnce_76 : decode cX5_repairOnce 76 = .ok (.getfield 21, 3) := by decide +kernel
theorem dX5_repairOnce_79 : decode cX5_repairOnce 79 = .ok (.iload 4, 2) := by decide +kernel
theorem dX5_repairOnce_81 : decode cX5_repairOnce 81 = .ok (.iaload, 1) := by decide +kernel
theorem dX5_repairOnce_82 : decode cX5_repairOnce 82 = .ok (.iload_n 3, 1) := by decide +kernel
theorem dX5_repairOnce_83 : decode cX5_repairOnce 83 = .ok (.bipush 6, 2) := by decide +kernel
theorem dX5_repairOnce_85 : decode cX5_repairOnce 85 = .ok (.ishr, 1) := by decide +kernel
theorem dX5_repairOnce_86 : decode cX5_repairOnce 86 = .ok (.bipush 127, 2) := by decide +kernel
theorem dX5_repairOnce_88 : decode cX5_repairOnce 88 = .ok (.iand, 1) := by decide +kernel
theorem dX5_repairOnce_89 : decode cX5_repairOnce 89 = .ok (.iadd, 1) := by decide +kernel
theorem dX5_repairOnce_90 : decode cX5_repairOnce 90 = .ok (.istore 6, 2) := by decide +kernel
theorem dX5_repairOnce_92 : decode cX5_repairOnce 92 = .ok (.iload_n 1, 1) := by decide +kernel
theorem dX5_repairOnce_93 : decode cX5_repairOnce 93 = .ok (.iload_n 2, 1) := by decide +kernel
theorem dX5_repairOnce_94 : decode cX5_repairOnce 94 = .ok (.ishr, 1) := by decide +kernel
theorem dX5_repairOnce_95 : decode cX5_repairOnce 95 = .ok (.iconst 1, 1) := by decide +kernel
theorem dX5_repairOnce_96 : decode cX5_repairOnce 96 = .ok (.iand, 1) := by decide +kernel
theorem dX5_repairOnce_97 : decode cX5_repairOnce 97 = .ok (.ifCond .eq 42, 3) := by decide +kernel
theorem dX5_repairOnce_100 : decode cX5_repairOnce 100 = .ok (.iload 6, 2) := by decide +kernel
theorem dX5_repairOnce_102 : decode cX5_repairOnce 102 = .ok (.aload_n 0, 1) := by decide +kernel
theorem dX5_repairOnce_103 : decode cX5_repairOnce 103 = .ok (.getfield 15, 3) := by decide +kernel
theorem dX5_repairOnce_106 : decode cX5_repairOnce 106 = .ok (.iload 5, 2) := by decide +kernel
theorem dX5_repairOnce_108 : decode cX5_repairOnce 108 = .ok (.iaload, 1) := by decide +kernel
theorem dX5_repairOnce_109 : decode cX5_repairOnce 109 = .ok (.if_icmp .ge 30, 3) := by decide +kernel
theorem dX5_repairOnce_112 : decode cX5_repairOnce 112 = .ok (.aload_n 0, 1) := by decide +kernel
theorem dX5_repairOnce_113 : decode cX5_repairOnce 113 = .ok (.getfield 15, 3) := by decide +kernel
theorem dX5_repairOnce_116 : decode cX5_repairOnce 116 = .ok (.iload 5, 2) := by decide +kernel
theorem dX5_repairOnce_118 : decode cX5_repairOnce 118 = .ok (.iload 6, 2) := by decide +kernel
theorem dX5_repairOnce_120 : decode cX5_repairOnce 120 = .ok (.iastore, 1) := by decide +kernel
theorem dX5_repairOnce_121 : decode cX5_repairOnce 121 = .ok (.aload_n 0, 1) := by decide +kernel
theorem dX5_repairOnce_122 : decode cX5_repairOnce 122 = .ok (.getfield 18, 3) := by decide +kernel
theorem dX5_repairOnce_125 : decode cX5_repairOnce 125 = .ok (.iload 5, 2) := by decide +kernel
theorem dX5_repairOnce_127 : decode cX5_repairOnce 127 = .ok (.aload_n 0, 1) := by decide +kernel
theorem dX5_repairOnce_128 : decode cX5_repairOnce 128 = .ok (.getfield 24, 3) := by decide +kernel
theorem dX5_repairOnce_131 : decode cX5_repairOnce 131 = .ok (.iload 4, 2) := by decide +kernel
theorem dX5_repairOnce_133 : decode cX5_repairOnce 133 = .ok (.iaload, 1) := by decide +kernel
theorem dX5_repairOnce_134 : decode cX5_repairOnce 134 = .ok (.iconst 1, 1) := by decide +kernel
theorem dX5_repairOnce_135 : decode cX5_repairOnce 135 = .ok (.iload_n 2, 1) := by decide +kernel
theorem dX5_repairOnce_136 : decode cX5_repairOnce 136 = .ok (.ishl, 1) := by decide +kernel
theorem dX5_repairOnce_137 : decode cX5_repairOnce 137 = .ok (.ior, 1) := by decide +kernel
theorem dX5_repairOnce_138 : decode cX5_repairOnce 138 = .ok (.iastore, 1) := by decide +kernel
theorem dX5_repairOnce_139 : decode cX5_repairOnce 139 = .ok (.iinc 2 1, 3) := by decide +kernel
theorem dX5_repairOnce_142 : decode cX5_repairOnce 142 = .ok (.goto (-102), 3) := by decide +kernel
theorem dX5_repairOnce_145 : decode cX5_repairOnce 145 = .ok (.return_, 1) := by decide +kernel
theorem dX5_tightEdges_0 : decode cX5_tightEdges 0 = .ok (.iconst 0, 1) := by decide +kernel
theorem dX5_tightEdges_1 : decode cX5_tightEdges 1 = .ok (.istore 4, 2) := by decide +kernel
theorem dX5_tightEdges_3 : decode cX5_tightEdges 3 = .ok (.iload 4, 2) := by decide +kernel
theorem dX5_tightEdges_5 : decode cX5_tightEdges 5 = .ok (.bipush 8, 2) := by decide +kernel
theorem dX5_tightEdges_7 : decode cX5_tightEdges 7 = .ok (.if_icmp .ge 25, 3) := by decide +kernel
theorem dX5_tightEdges_10 : decode cX5_tightEdges 10 = .ok (.aload_n 0, 1) := by decide +kernel
theorem dX5_tightEdges_11 : decode cX5_tightEdges 11 = .ok (.getfield 27, 3) := by decide +kernel
theorem dX5_tightEdges_14 : decode cX5_tightEdges 14 = .ok (.iload 4, 2) := by decide +kernel
theorem dX5_tightEdges_16 : decode cX5_tightEdges 16 = .ok (.aload_n 0, 1) := by decide +kernel
theorem dX5_tightEdges_17 : decode cX5_tightEdges 17 = .ok (.iload 4, 2) := by decide +kernel
theorem dX5_tightEdges_19 : decode cX5_tightEdges 19 = .ok (.iload_n 2, 1) := by decide +kernel
theorem dX5_tightEdges_20 : decode cX5_tightEdges 20 = .ok (.iload_n 3, 1) := by decide +kernel
theorem dX5_tightEdges_21 : decode cX5_tightEdges 21 = .ok (.iconst 0, 1) := by decide +kernel
theorem dX5_tightEdges_22 : decode cX5_tightEdges 22 = .ok (.invokevirtual 68, 3) := by decide +kernel
theorem dX5_tightEdges_25 : decode cX5_tightEdges 25 = .ok (.iastore, 1) := by decide +kernel
theorem dX5_tightEdges_26 : decode cX5_tightEdges 26 = .ok (.iinc 4 1, 3) := by decide +kernel
theorem dX5_tightEdges_29 : decode cX5_tightEdges 29 = .ok (.goto (-26), 3) := by decide +kernel
theorem dX5_tightEdges_32 : decode cX5_tightEdges 32 = .ok (.aload_n 0, 1) := by decide +kernel
theorem dX5_tightEdges_33 : decode cX5_tightEdges 33 = .ok (.iload_n 1, 1) := by decide +kernel
theorem dX5_tightEdges_34 : decode cX5_tightEdges 34 = .ok (.iload_n 2, 1) := by decide +kernel
theorem dX5_tightEdges_35 : decode cX5_tightEdges 35 = .ok (.iload_n 3, 1) := by decide +kernel
theorem dX5_tightEdges_36 : decode cX5_tightEdges 36 = .ok (.iconst 0, 1) := by decide +kernel
theorem dX5_tightEdges_37 : decode cX5_tightEdges 37 = .ok (.invokevirtual 68, 3) := by decide +kernel
theorem dX5_tightEdges_40 : decode cX5_tightEdges 40 = .ok (.istore 4, 2) := by decide +kernel
theorem dX5_tightEdges_42 : decode cX5_tightEdges 42 = .ok (.iload 4, 2) := by decide +kernel
theorem dX5_tightEdges_44 : decode cX5_tightEdges 44 = .ok (.sipush 9999, 3) := by decide +kernel
theorem dX5_tightEdges_47 : decode cX5_tightEdges 47 = .ok (.if_icmp .ne 5, 3) := by decide +kernel
theorem dX5_tightEdges_50 : decode cX5_tightEdges 50 = .ok (.iconst 0, 1) := by decide +kernel
theorem dX5_tightEdges_51 : decode cX5_tightEdges 51 = .ok (.ireturn, 1) := by decide +kernel
theorem dX5_tightEdges_52 : decode cX5_tightEdges 52 = .ok (.iconst 0, 1) := by decide +kernel
theorem dX5_tightEdges_53 : decode cX5_tightEdges 53 = .ok (.istore 5, 2) := by decide +kernel
theorem dX5_tightEdges_55 : decode cX5_tightEdges 55 = .ok (.iconst 0, 1) := by decide +kernel
theorem dX5_tightEdges_56 : decode cX5_tightEdges 56 = .ok (.istore 6, 2) := by decide +kernel
theorem dX5_tightEdges_58 : decode cX5_tightEdges 58 = .ok (.iload 6, 2) := by decide +kernel
theorem dX5_tightEdges_60 : decode cX5_tightEdges 60 = .ok (.aload_n 0, 1) := by decide +kernel
theorem dX5_tightEdges_61 : decode cX5_tightEdges 61 = .ok (.getfield 30, 3) := by decide +kernel
theorem dX5_tightEdges_64 : decode cX5_tightEdges 64 = .ok (.getfield 61, 3) := by decide +kernel
theorem dX5_tightEdges_67 : decode cX5_tightEdges 67 = .ok (.if_icmp .ge 60, 3) := by decide +kernel
theorem dX5_tightEdges_70 : decode cX5_tightEdges 70 = .ok (.aload_n 0, 1) := by decide +kernel
theorem dX5_tightEdges_71 : decode cX5_tightEdges 71 = .ok (.getfield 15, 3) := by decide +kernel
theorem dX5_tightEdges_74 : decode cX5_tightEdges 74 = .ok (.aload_n 0, 1) := by decide +kernel
theorem dX5_tightEdges_75 : decode cX5_tightEdges 75 = .ok (.getfield 30, 3) := by decide +kernel
theorem dX5_tightEdges_78 : decode cX5_tightEdges 78 = .ok (.iload 6, 2) := by decide +kernel
theorem dX5_tightEdges_80 : decode cX5_tightEdges 80 = .ok (.invokevirtual 72, 3) := by decide +kernel
theorem dX5_tightEdges_83 : decode cX5_tightEdges 83 = .ok (.iaload, 1) := by decide +kernel
theorem dX5_tightEdges_84 : decode cX5_tightEdges 84 = .ok (.aload_n 0, 1) := by decide +kernel
theorem dX5_tightEdges_85 : decode cX5_tightEdges 85 = .ok (.getfield 9, 3) := by decide +kernel
theorem dX5_tightEdges_88 : decode cX5_tightEdges 88 = .ok (.iload 6, 2) := by decide +kernel
theorem dX5_tightEdges_90 : decode cX5_tightEdges 90 = .ok (.iaload, 1) := by decide +kernel
theorem dX5_tightEdges_91 : decode cX5_tightEdges 91 = .ok (.iadd, 1) := by decide +kernel
theorem dX5_tightEdges_92 : decode cX5_tightEdges 92 = .ok (.aload_n 0, 1) := by decide +kernel
theorem dX5_tightEdges_93 : decode cX5_tightEdges 93 = .ok (.getfield 27, 3) := by decide +kernel
theorem dX5_tightEdges_96 : decode cX5_tightEdges 96 = .ok (.aload_n 0, 1) := by decide +kernel
theorem dX5_tightEdges_97 : decode cX5_tightEdges 97 = .ok (.getfield 30, 3) := by decide +kernel
theorem dX5_tightEdges_100 : decode cX5_tightEdges 100 = .ok (.iload 6, 2) := by decide +kernel
theorem dX5_tightEdges_102 : decode cX5_tightEdges 102 = .ok (.invokevirtual 75, 3) := by decide +kernel
theorem dX5_tightEdges_105 : decode cX5_tightEdges 105 = .ok (.iaload, 1) := by decide +kernel
theorem dX5_tightEdges_106 : decode cX5_tightEdges 106 = .ok (.iadd, 1) := by decide +kernel
theorem dX5_tightEdges_107 : decode cX5_tightEdges 107 = .ok (.iload 4, 2) := by decide +kernel
theorem dX5_tightEdges_109 : decode cX5_tightEdges 109 = .ok (.if_icmp .ne 12, 3) := by decide +kernel
theorem dX5_tightEdges_112 : decode cX5_tightEdges 112 = .ok (.iload 5, 2) := by decide +kernel
theorem dX5_tightEdges_114 : decode cX5_tightEdges 114 = .ok (.iconst 1, 1) := by decide +kernel
theorem dX5_tightEdges_115 : decode cX5_tightEdges 115 = .ok (.iload 6, 2) := by decide +kernel
theorem dX5_tightEdges_117 : decode cX5_tightEdges 117 = .ok (.ishl, 1) := by decide +kernel
theorem dX5_tightEdges_118 : decode cX5_tightEdges 118 = .ok (.ior, 1) := by decide +kernel
theorem dX5_tightEdges_119 : decode cX5_tightEdges 119 = .ok (.istore 5, 2) := by decide +kernel
theorem dX5_tightEdges_121 : decode cX5_tightEdges 121 = .ok (.iinc 6 1, 3) := by decide +kernel
theorem dX5_tightEdges_124 : decode cX5_tightEdges 124 = .ok (.goto (-66), 3) := by decide +kernel
theorem dX5_tightEdges_127 : decode cX5_tightEdges 127 = .ok (.iload 5, 2) := by decide +kernel
theorem dX5_tightEdges_129 : decode cX5_tightEdges 129 = .ok (.ireturn, 1) := by decide +kernel
theorem dX5_reachablePairs_0 : decode cX5_reachablePairs 0 = .ok (.iconst 0, 1) := by decide +kernel
theorem dX5_reachablePairs_1 : decode cX5_reachablePairs 1 = .ok (.istore_n 2, 1) := by decide +kernel
theorem dX5_reachablePairs_2 : decode cX5_reachablePairs 2 = .ok (.iconst 0, 1) := by decide +kernel
theorem dX5_reachablePairs_3 : decode cX5_reachablePairs 3 = .ok (.istore_n 3, 1) := by decide +kernel
theorem dX5_reachablePairs_4 : decode cX5_reachablePairs 4 = .ok (.iload_n 3, 1) := by decide +kernel
theorem dX5_reachablePairs_5 : decode cX5_reachablePairs 5 = .ok (.bipush 8, 2) := by decide +kernel
theorem dX5_reachablePairs_7 : decode cX5_reachablePairs 7 = .ok (.if_icmp .ge 54, 3) := by decide +kernel
theorem dX5_reachablePairs_10 : decode cX5_reachablePairs 10 = .ok (.aload_n 0, 1) := by decide +kernel
theorem dX5_reachablePairs_11 : decode cX5_reachablePairs 11 = .ok (.iload_n 3, 1) := by decide +kernel
theorem dX5_reachablePairs_12 : decode cX5_reachablePairs 12 = .ok (.iload_n 1, 1) := by decide +kernel
theorem dX5_reachablePairs_13 : decode cX5_reachablePairs 13 = .ok (.iconst 0, 1) := by decide +kernel
theorem dX5_reachablePairs_14 : decode cX5_reachablePairs 14 = .ok (.invokevirtual 34, 3) := by decide +kernel
theorem dX5_reachablePairs_17 : decode cX5_reachablePairs 17 = .ok (.iconst 0, 1) := by decide +kernel
theorem dX5_reachablePairs_18 : decode cX5_reachablePairs 18 = .ok (.istore 4, 2) := by decide +kernel
theorem dX5_reachablePairs_20 : decode cX5_reachablePairs 20 = .ok (.iload 4, 2) := by decide +kernel
theorem dX5_reachablePairs_22 : decode cX5_reachablePairs 22 = .ok (.bipush 8, 2) := by decide +kernel
theorem dX5_reachablePairs_24 : decode cX5_reachablePairs 24 = .ok (.if_icmp .ge 31, 3) := by decide +kernel
theorem dX5_reachablePairs_27 : decode cX5_reachablePairs 27 = .ok (.iload_n 3, 1) := by decide +kernel
theorem dX5_reachablePairs_28 : decode cX5_reachablePairs 28 = .ok (.iload 4, 2) := by decide +kernel
theorem dX5_reachablePairs_30 : decode cX5_reachablePairs 30 = .ok (.if_icmp .eq 19, 3) := by decide +kernel
theorem dX5_reachablePairs_33 : decode cX5_reachablePairs 33 = .ok (.aload_n 0, 1) := by decide +kernel
theorem dX5_reachablePairs_34 : decode cX5_reachablePairs 34 = .ok (.getfield 15, 3) := by decide +kernel
theorem dX5_reachablePairs_37 : decode cX5_reachablePairs 37 = .ok (.iload 4, 2) := by decide +kernel
theorem dX5_reachablePairs_39 : decode cX5_reachablePairs 39 = .ok (.iaload, 1) := by decide +kernel
theorem dX5_reachablePairs_40 : decode cX5_reachablePairs 40 = .ok (.sipush 9999, 3) := by decide +kernel
theorem dX5_reachablePairs_43 : decode cX5_reachablePairs 43 = .ok (.if_icmp .eq 6, 3) := by decide +kernel
theorem dX5_reachablePairs_46 : decode cX5_reachablePairs 46 = .ok (.iinc 2 1, 3) := by decide +kernel
theorem dX5_reachablePairs_49 : decode cX5_reachablePairs 49 = .ok (.iinc 4 1, 3) := by decide +kernel
theorem dX5_reachablePairs_52 : decode cX5_reachablePairs 52 = .ok (.goto (-32), 3) := by decide +kernel
theorem dX5_reachablePairs_55 : decode cX5_reachablePairs 55 = .ok (.iinc 3 1, 3) := by decide +kernel
theorem dX5_reachablePairs_58 : decode cX5_reachablePairs 58 = .ok (.goto (-54), 3) := by decide +kernel
theorem dX5_reachablePairs_61 : decode cX5_reachablePairs 61 = .ok (.iload_n 2, 1) := by decide +kernel
theorem dX5_reachablePairs_62 : decode cX5_reachablePairs 62 = .ok (.ireturn, 1) := by decide +kernel
theorem dX6_init_0 : decode cX6_init 0 = .ok (.aload_n 0, 1) := by decide +kernel
theorem dX6_init_1 : decode cX6_init 1 = .ok (.invokespecial 3, 3) := by decide +kernel
theorem dX6_init_4 : decode cX6_init 4 = .ok (.aload_n 0, 1) := by decide +kernel
theorem dX6_init_5 : decode cX6_init 5 = .ok (.bipush 110, 2) := by decide +kernel
theorem dX6_init_7 : decode cX6_init 7 = .ok (.newarray .byte, 2) := by decide +kernel
theorem dX6_init_9 : decode cX6_init 9 = .ok (.putfield 9, 3) := by decide +kernel
theorem dX6_init_12 : decode cX6_init 12 = .ok (.aload_n 0, 1) := by decide +kernel
theorem dX6_init_13 : decode cX6_init 13 = .ok (.bipush 16, 2) := by decide +kernel
theorem dX6_init_15 : decode cX6_init 15 = .ok (.newarray .int, 2) := by decide +kernel
theorem dX6_init_17 : decode cX6_init 17 = .ok (.putfield 15, 3) := by decide +kernel
theorem dX6_init_20 : decode cX6_init 20 = .ok (.aload_n 0, 1) := by decide +kernel
theorem dX6_init_21 : decode cX6_init 21 = .ok (.iconst 0, 1) := by decide +kernel
theorem dX6_init_22 : decode cX6_init 22 = .ok (.putfield 19, 3) := by decide +kernel
theorem dX6_init_25 : decode cX6_init 25 = .ok (.aload_n 0, 1) := by decide +kernel
theorem dX6_init_26 : decode cX6_init 26 = .ok (.iconst 0, 1) := by decide +kernel
theorem dX6_init_27 : decode cX6_init 27 = .ok (.putfield 23, 3) := by decide +kernel
theorem dX6_init_30 : decode cX6_init 30 = .ok (.aload_n 0, 1) := by decide +kernel
theorem dX6_init_31 : decode cX6_init 31 = .ok (.iconst 0, 1) := by decide +kernel
theorem dX6_init_32 : decode cX6_init 32 = .ok (.putfield 26, 3) := by decide +kernel
theorem dX6_init_35 : decode cX6_init 35 = .ok (.return_, 1) := by decide +kernel
theorem dX6_append_0 : decode cX6_append 0 = .ok (.aload_n 0, 1) := by decide +kernel
theorem dX6_append_1 : decode cX6_append 1 = .ok (.getfield 19, 3) := by decide +kernel
theorem dX6_append_4 : decode cX6_append 4 = .ok (.bipush 110, 2) := by decide +kernel
theorem dX6_append_6 : decode cX6_append 6 = .ok (.if_icmp .lt 5, 3) := by decide +kernel
theorem dX6_append_9 : decode cX6_append 9 = .ok (.iconst 0, 1) := by decide +kernel
theorem dX6_append_10 : decode cX6_append 10 = .ok (.ireturn, 1) := by decide +kernel
theorem dX6_append_11 : decode cX6_append 11 = .ok (.aload_n 0, 1) := by decide +kernel
theorem dX6_append_12 : decode cX6_append 12 = .ok (.getfield 9, 3) := by decide +kernel
theorem dX6_append_15 : decode cX6_append 15 = .ok (.aload_n 0, 1) := by decide +kernel
theorem dX6_append_16 : decode cX6_append 16 = .ok (.getfield 19, 3) := by decide +kernel
theorem dX6_append_19 : decode cX6_append 19 = .ok (.iload_n 1, 1) := by decide +kernel
theorem dX6_append_20 : decode cX6_append 20 = .ok (.i2b, 1) := by decide +kernel
theorem dX6_append_21 : decode cX6_append 21 = .ok (.bastore, 1) := by decide +kernel
theorem dX6_append_22 : decode cX6_append 22 = .ok (.aload_n 0, 1) := by decide +kernel
theorem dX6_append_23 : decode cX6_append 23 = .ok (.dup, 1) := by decide +kernel
theorem dX6_append_24 : decode cX6_append 24 = .ok (.getfield 19, 3) := by decide +kernel
theorem dX6_append_27 : decode cX6_append 27 = .ok (.iconst 1, 1) := by decide +kernel
theorem dX6_append_28 : decode cX6_append 28 = .ok (.iadd, 1) := by decide +kernel
theorem dX6_append_29 : decode cX6_append 29 = .ok (.putfield 19, 3) := by decide +kernel
theorem dX6_append_32 : decode cX6_append 32 = .ok (.iconst 1, 1) := by decide +kernel
theorem dX6_append_33 : decode cX6_append 33 = .ok (.ireturn, 1) := by decide +kernel
theorem dX6_letterAt_0 : decode cX6_letterAt 0 = .ok (.iload_n 1, 1) := by decide +kernel
theorem dX6_letterAt_1 : decode cX6_letterAt 1 = .ok (.ifCond .lt 26, 3) := by decide +kernel
theorem dX6_letterAt_4 : decode cX6_letterAt 4 = .ok (.iload_n 1, 1) := by decide +kernel
theorem dX6_letterAt_5 : decode cX6_letterAt 5 = .ok (.aload_n 0, 1) := by decide +kernel
theorem dX6_letterAt_6 : decode cX6_letterAt 6 = .ok (.getfield 19, 3) := by decide +kernel
theorem dX6_letterAt_9 : decode cX6_letterAt 9 = .ok (.if_icmp .ge 18, 3) := by decide +kernel
theorem dX6_letterAt_12 : decode cX6_letterAt 12 = .ok (.iload_n 1, 1) := by decide +kernel
theorem dX6_letterAt_13 : decode cX6_letterAt 13 = .ok (.bipush 110, 2) := by decide +kernel
theorem dX6_letterAt_15 : decode cX6_letterAt 15 = .ok (.if_icmp .ge 12, 3) := by decide +kernel
theorem dX6_letterAt_18 : decode cX6_letterAt 18 = .ok (.aload_n 0, 1) := by decide +kernel
theorem dX6_letterAt_19 : decode cX6_letterAt 19 = .ok (.getfield 9, 3) := by decide +kernel
theorem dX6_letterAt_22 : decode cX6_letterAt 22 = .ok (.iload_n 1, 1) := by decide +kernel
theorem dX6_letterAt_23 : decode cX6_letterAt 23 = .ok (.baload, 1) := by decide +kernel
theorem dX6_letterAt_24 : decode cX6_letterAt 24 = .ok (.goto 4, 3) := by decide +kernel
theorem dX6_letterAt_27 : decode cX6_letterAt 27 = .ok (.iconst (-1), 1) := by decide +kernel
theorem dX6_letterAt_28 : decode cX6_letterAt 28 = .ok (.ireturn, 1) := by decide +kernel
theorem dX6_codeOf_0 : decode cX6_codeOf 0 = .ok (.iload_n 1, 1) := by decide +kernel
theorem dX6_codeOf_1 : decode cX6_codeOf 1 = .ok (.ifCond .lt 20, 3) := by decide +kernel
theorem dX6_codeOf_4 : decode cX6_codeOf 4 = .ok (.iload_n 1, 1) := by decide +kernel
theorem dX6_codeOf_5 : decode cX6_codeOf 5 = .ok (.aload_n 0, 1) := by decide +kernel
theorem dX6_codeOf_6 : decode cX6_codeOf 6 = .ok (.getfield 23, 3) := by decide +kernel
theorem dX6_codeOf_9 : decode cX6_codeOf 9 = .ok (.if_icmp .ge 12, 3) := by decide +kernel
theorem dX6_codeOf_12 : decode cX6_codeOf 12 = .ok (.aload_n 0, 1) := by decide +kernel
theorem dX6_codeOf_13 : decode cX6_codeOf 13 = .ok (.getfield 15, 3) := by decide +kernel
theorem dX6_codeOf_16 : decode cX6_codeOf 16 = .ok (.iload_n 1, 1) := by decide +kernel
theorem dX6_codeOf_17 : decode cX6_codeOf 17 = .ok (.iaload, 1) := by decide +kernel
theorem dX6_codeOf_18 : decode cX6_codeOf 18 = .ok (.goto 4, 3) := by decide +kernel
theorem dX6_codeOf_21 : decode cX6_codeOf 21 = .ok (.iconst 0, 1) := by decide +kernel
theorem dX6_codeOf_22 : decode cX6_codeOf 22 = .ok (.ireturn, 1) := by decide +kernel
theorem dX6_scan_0 : decode cX6_scan 0 = .ok (.aload_n 0, 1) := by decide +kernel
theorem dX6_scan_1 : decode cX6_scan 1 = .ok (.iconst 0, 1) := by decide +kernel
theorem dX6_scan_2 : decode cX6_scan 2 = .ok (.putfield 26, 3) := by decide +kernel
theorem dX6_scan_5 : decode cX6_scan 5 = .ok (.aload_n 0, 1) := by decide +kernel
theorem dX6_scan_6 : decode cX6_scan 6 = .ok (.iconst 0, 1) := by decide +kernel
theorem dX6_scan_7 : decode cX6_scan 7 = .ok (.putfield 23, 3) := by decide +kernel
theorem dX6_scan_10 : decode cX6_scan 10 = .ok (.aload_n 0, 1) := by decide +kernel
theorem dX6_scan_11 : decode cX6_scan 11 = .ok (.invokevirtual 29, 3) := by decide +kernel
theorem dX6_scan_14 : decode cX6_scan 14 = .ok (.iconst 0, 1) := by decide +kernel
theorem dX6_scan_15 : decode cX6_scan 15 = .ok (.istore_n 1, 1) := by decide +kernel
theorem dX6_scan_16 : decode cX6_scan 16 = .ok (.iload_n 1, 1) := by decide +kernel
theorem dX6_scan_17 : decode cX6_scan 17 = .ok (.bipush 16, 2) := by decide +kernel
theorem dX6_scan_19 : decode cX6_scan 19 = .ok (.if_icmp .gt 36, 3) := by decide +kernel
theorem dX6_scan_22 : decode cX6_scan 22 = .ok (.aload_n 0, 1) := by decide +kernel
theorem dX6_scan_23 : decode cX6_scan 23 = .ok (.getfield 26, 3) := by decide +kernel
theorem dX6_scan_26 : decode cX6_scan 26 = .ok (.aload_n 0, 1) := by decide +kernel
theorem dX6_scan_27 : decode cX6_scan 27 = .ok (.getfield 19, 3) := by decide +kernel
theorem dX6_scan_30 : decode cX6_scan 30 = .ok (.if_icmp .ge 25, 3) := by decide +kernel
theorem dX6_scan_33 : decode cX6_scan 33 = .ok (.aload_n 0, 1) := by decide +kernel
theorem dX6_scan_34 : decode cX6_scan 34 = .ok (.invokevirtual 32, 3) := by decide +kernel
theorem dX6_scan_37 : decode cX6_scan 37 = .ok (.ifCond .ne 8, 3) := by decide +kernel
theorem dX6_scan_40 : decode cX6_scan 40 = .ok (.aload_n 0, 1) := by decide +kernel
theorem dX6_scan_41 : decode cX6_scan 41 = .ok (.getfield 26, 3) := by decide +kernel
theorem dX6_scan_44 : decode cX6_scan 44 = .ok (.ireturn, 1) := by decide +kernel
theorem dX6_scan_45 : decode cX6_scan 45 = .ok (.aload_n 0, 1) := by decide +kernel
theorem dX6_scan_46 : decode cX6_scan 46 = .ok (.invokevirtual 29, 3) := by decide +kernel
theorem dX6_scan_49 : decode cX6_scan 49 = .ok (.iinc 1 1, 3) := by decide +kernel
theorem dX6_scan_52 : decode cX6_scan 52 = .ok (.goto (-36), 3) := by decide +kernel
theorem dX6_scan_55 : decode cX6_scan 55 = .ok (.iconst (-1), 1) := by decide +kernel
theorem dX6_scan_56 : decode cX6_scan 56 = .ok (.ireturn, 1) := by decide +kernel
theorem dX6_readEdge_0 : decode cX6_readEdge 0 = .ok (.aload_n 0, 1) := by decide +kernel
theorem dX6_readEdge_1 : decode cX6_readEdge 1 = .ok (.getfield 23, 3) := by decide +kernel
theorem dX6_readEdge_4 : decode cX6_readEdge 4 = .ok (.bipush 16, 2) := by decide +kernel
theorem dX6_readEdge_6 : decode cX6_readEdge 6 = .ok (.if_icmp .ge 10, 3) := by decide +kernel
theorem dX6_readEdge_9 : decode cX6_readEdge 9 = .ok (.aload_n 0, 1) := by decide +kernel
theorem dX6_readEdge_10 : decode cX6_readEdge 10 = .ok (.invokevirtual 36, 3) := by decide +kernel
theorem dX6_readEdge_13 : decode cX6_readEdge 13 = .ok (.goto 4, 3) := by decide +kernel
theorem dX6_readEdge_16 : decode cX6_readEdge 16 = .ok (.iconst (-1), 1) := by decide +kernel
theorem dX6_readEdge_17 : decode cX6_readEdge 17 = .ok (.istore_n 1, 1) := by decide +kernel
theorem dX6_readEdge_18 : decode cX6_readEdge 18 = .ok (.iload_n 1, 1) := by decide +kernel
theorem dX6_readEdge_19 : decode cX6_readEdge 19 = .ok (.iconst (-1), 1) := by decide +kernel
theorem dX6_readEdge_20 : decode cX6_readEdge 20 = .ok (.if_icmp .ne 5, 3) := by decide +kernel
theorem dX6_readEdge_23 : decode cX6_readEdge 23 = .ok (.iconst 0, 1) := by decide +kernel
theorem dX6_readEdge_24 : decode cX6_readEdge 24 = .ok (.ireturn, 1) := by decide +kernel
theorem dX6_readEdge_25 : decode cX6_readEdge 25 = .ok (.aload_n 0, 1) := by decide +kernel
theorem dX6_readEdge_26 : decode cX6_readEdge 26 = .ok (.iload_n 1, 1) := by decide +kernel
theorem dX6_readEdge_27 : decode cX6_readEdge 27 = .ok (.invokevirtual 40, 3) := by decide +kernel
theorem dX6_readEdge_30 : decode cX6_readEdge 30 = .ok (.istore_n 2, 1) := by decide +kernel
theorem dX6_readEdge_31 : decode cX6_readEdge 31 = .ok (.iload_n 2, 1) := by decide +kernel
theorem dX6_readEdge_32 : decode cX6_readEdge 32 = .ok (.iconst (-1), 1) := by decide +kernel
theorem dX6_readEdge_33 : decode cX6_readEdge 33 = .ok (.if_icmp .ne 5, 3) := by decide +kernel
theorem dX6_readEdge_36 : decode cX6_readEdge 36 = .ok (.iconst 0, 1) := by decide +kernel
theorem dX6_readEdge_37 : decode cX6_readEdge 37 = .ok (.ireturn, 1) := by decide +kernel
theorem dX6_readEdge_38 : decode cX6_readEdge 38 = .ok (.aload_n 0, 1) := by decide +kernel
theorem dX6_readEdge_39 : decode cX6_readEdge 39 = .ok (.invokevirtual 44, 3) := by decide +kernel
theorem dX6_readEdge_42 : decode cX6_readEdge 42 = .ok (.istore_n 3, 1) := by decide +kernel
theorem dX6_readEdge_43 : decode cX6_readEdge 43 = .ok (.iload_n 3, 1) := by decide +kernel
theorem dX6_readEdge_44 : decode cX6_readEdge 44 = .ok (.iconst (-1), 1) := by decide +kernel
theorem dX6_readEdge_45 : decode cX6_readEdge 45 = .ok (.if_icmp .eq 12, 3) := by decide +kernel
theorem dX6_readEdge_48 : decode cX6_readEdge 48 = .ok (.aload_n 0, 1) := by decide +kernel
theorem dX6_readEdge_49 : decode cX6_readEdge 49 = .ok (.bipush 43, 2) := by decide +kernel
theorem dX6_readEdge_51 : decode cX6_readEdge 51 = .ok (.invokevirtual 47, 3) := by decide +kernel
theorem dX6_readEdge_54 : decode cX6_readEdge 54 = .ok (.ifCond .ne 5, 3) := by decide +kernel
theorem dX6_readEdge_57 : decode cX6_readEdge 57 = .ok (.iconst 0, 1) := by decide +kernel
theorem dX6_readEdge_58 : decode cX6_readEdge 58 = .ok (.ireturn, 1) := by decide +kernel
theorem dX6_readEdge_59 : decode cX6_readEdge 59 = .ok (.aload_n 0, 1) := by decide +kernel
theorem dX6_readEdge_60 : decode cX6_readEdge 60 = .ok (.invokevirtual 51, 3) := by decide +kernel
theorem dX6_readEdge_63 : decode cX6_readEdge 63 = .ok (.istore 4, 2) := by decide +kernel
theorem dX6_readEdge_65 : decode cX6_readEdge 65 = .ok (.iload 4, 2) := by decide +kernel
theorem dX6_readEdge_67 : decode cX6_readEdge 67 = .ok (.iconst (-1), 1) := by decide +kernel
theorem dX6_readEdge_68 : decode cX6_readEdge 68 = .ok (.if_icmp .eq 12, 3) := by decide +kernel
theorem dX6_readEdge_71 : decode cX6_readEdge 71 = .ok (.aload_n 0, 1) := by decide +kernel
theorem dX6_readEdge_72 : decode cX6_readEdge 72 = .ok (.bipush 58, 2) := by decide +kernel
theorem dX6_readEdge_74 : decode cX6_readEdge 74 = .ok (.invokevirtual 47, 3) := by decide +kernel
theorem dX6_readEdge_77 : decode cX6_readEdge 77 = .ok (.ifCond .ne 5, 3) := by decide +kernel
theorem dX6_readEdge_80 : decode cX6_readEdge 80 = .ok (.iconst 0, 1) := by decide +kernel
theorem dX6_readEdge_81 : decode cX6_readEdge 81 = .ok (.ireturn, 1) := by decide +kernel
theorem dX6_readEdge_82 : decode cX6_readEdge 82 = .ok (.aload_n 0, 1) := by decide +kernel
theorem dX6_readEdge_83 : decode cX6_readEdge 83 = .ok (.invokevirtual 54, 3) := by decide +kernel
theorem dX6_readEdge_86 : decode cX6_readEdge 86 = .ok (.istore 5, 2) := by decide +kernel
theorem dX6_readEdge_88 : decode cX6_readEdge 88 = .ok (.iload 5, 2) := by decide +kernel
theorem dX6_readEdge_90 : decode cX6_readEdge 90 = .ok (.iconst (-1), 1) := by decide +kernel
theorem dX6_readEdge_91 : decode cX6_readEdge 91 = .ok (.if_icmp .ne 5, 3) := by decide +kernel
theorem dX6_readEdge_94 : decode cX6_readEdge 94 = .ok (.iconst 0, 1) := by decide +kernel
theorem dX6_readEdge_95 : decode cX6_readEdge 95 = .ok (.ireturn, 1) := by decide +kernel
theorem dX6_readEdge_96 : decode cX6_readEdge 96 = .ok (.aload_n 0, 1) := by decide +kernel
theorem dX6_readEdge_97 : decode cX6_readEdge 97 = .ok (.getfield 15, 3) := by decide +kernel
theorem dX6_readEdge_100 : decode cX6_readEdge 100 = .ok (.aload_n 0, 1) := by decide +kernel
theorem dX6_readEdge_101 : decode cX6_readEdge 101 = .ok (.getfield 23, 3) := by decide +kernel
theorem dX6_readEdge_104 : decode cX6_readEdge 104 = .ok (.iload_n 1, 1) := by decide +kernel
theorem dX6_readEdge_105 : decode cX6_readEdge 105 = .ok (.iload_n 2, 1) := by decide +kernel
theorem dX6_readEdge_106 : decode cX6_readEdge 106 = .ok (.iload_n 3, 1) := by decide +kernel
theorem dX6_readEdge_107 : decode cX6_readEdge 107 = .ok (.iload 4, 2) := by decide +kernel
theorem dX6_readEdge_109 : decode cX6_readEdge 109 = .ok (.iload 5, 2) := by decide +kernel
theorem dX6_readEdge_111 : decode cX6_readEdge 111 = .ok (.invokestatic 57, 3) := by decide +kernel
theorem dX6_readEdge_114 : decode cX6_readEdge 114 = .ok (.iastore, 1) := by decide +kernel
theorem dX6_readEdge_115 : decode cX6_readEdge 115 = .ok (.aload_n 0, 1) := by decide +kernel
theorem dX6_readEdge_116 : decode cX6_readEdge 116 = .ok (.dup, 1) := by decide +kernel
theorem dX6_readEdge_117 : decode cX6_readEdge 117 = .ok (.getfield 23, 3) := by decide +kernel
theorem dX6_readEdge_120 : decode cX6_readEdge 120 = .ok (.iconst 1, 1) := by decide +kernel
theorem dX6_readEdge_121 : decode cX6_readEdge 121 = .ok (.iadd, 1) := by decide +kernel
theorem dX6_readEdge_122 : decode cX6_readEdge 122 = .ok (.putfield 23, 3) := by decide +kernel
theorem dX6_readEdge_125 : decode cX6_readEdge 125 = .ok (.iconst 1, 1) := by decide +kernel
theorem dX6_readEdge_126 : decode cX6_readEdge 126 = .ok (.ireturn, 1) := by decide +kernel
theorem dX6_readNode_0 : decode cX6_readNode 0 = .ok (.aload_n 0, 1) := by decide +kernel
theorem dX6_readNode_1 : decode cX6_readNode 1 = .ok (.invokevirtual 29, 3) := by decide +kernel
theorem dX6_readNode_4 : decode cX6_readNode 4 = .ok (.aload_n 0, 1) := by decide +kernel
theorem dX6_readNode_5 : decode cX6_readNode 5 = .ok (.aload_n 0, 1) := by decide +kernel
theorem dX6_readNode_6 : decode cX6_readNode 6 = .ok (.getfield 26, 3) := by decide +kernel
theorem dX6_readNode_9 : decode cX6_readNode 9 = .ok (.invokevirtual 63, 3) := by decide +kernel
theorem dX6_readNode_12 : decode cX6_readNode 12 = .ok (.istore_n 1, 1) := by decide +kernel
theorem dX6_readNode_13 : decode cX6_readNode 13 = .ok (.iload_n 1, 1) := by decide +kernel
theorem dX6_readNode_14 : decode cX6_readNode 14 = .ok (.bipush 97, 2) := by decide +kernel
theorem dX6_readNode_16 : decode cX6_readNode 16 = .ok (.if_icmp .lt 9, 3) := by decide +kernel
theorem dX6_readNode_19 : decode cX6_readNode 19 = .ok (.iload_n 1, 1) := by decide +kernel
theorem dX6_readNode_20 : decode cX6_readNode 20 = .ok (.bipush 104, 2) := by decide +kernel
theorem dX6_readNode_22 : decode cX6_readNode 22 = .ok (.if_icmp .le 5, 3) := by decide +kernel
theorem dX6_readNode_25 : decode cX6_readNode 25 = .ok (.iconst (-1), 1) := by decide +kernel
theorem dX6_readNode_26 : decode cX6_readNode 26 = .ok (.ireturn, 1) := by decide +kernel
theorem dX6_readNode_27 : decode cX6_readNode 27 = .ok (.aload_n 0, 1) := by decide +kernel
theorem dX6_readNode_28 : decode cX6_readNode 28 = .ok (.dup, 1) := by decide +kernel
theorem dX6_readNode_29 : decode cX6_readNode 29 = .ok (.getfield 26, 3) := by decide +kernel
theorem dX6_readNode_32 : decode cX6_readNode 32 = .ok (.iconst 1, 1) := by decide +kernel
theorem dX6_readNode_33 : decode cX6_readNode 33 = .ok (.iadd, 1) := by decide +kernel
theorem dX6_readNode_34 : decode cX6_readNode 34 = .ok (.putfield 26, 3) := by decide +kernel
theorem dX6_readNode_37 : decode cX6_readNode 37 = .ok (.iload_n 1, 1) := by decide +kernel
theorem dX6_readNode_38 : decode cX6_readNode 38 = .ok (.bipush 97, 2) := by decide +kernel
theorem dX6_readNode_40 : decode cX6_readNode 40 = .ok (.isub, 1) := by decide +kernel
theorem dX6_readNode_41 : decode cX6_readNode 41 = .ok (.ireturn, 1) := by decide +kernel
theorem dX6_readOtherNode_0 : decode cX6_readOtherNode 0 = .ok (.aload_n 0, 1) := by decide +kernel
theorem dX6_readOtherNode_1 : decode cX6_readOtherNode 1 = .ok (.invokevirtual 36, 3) := by decide +kernel
theorem dX6_readOtherNode_4 : decode cX6_readOtherNode 4 = .ok (.istore_n 2, 1) := by decide +kernel
theorem dX6_readOtherNode_5 : decode cX6_readOtherNode 5 = .ok (.iload_n 2, 1) := by decide +kernel
theorem dX6_readOtherNode_6 : decode cX6_readOtherNode 6 = .ok (.iload_n 1, 1) := by decide +kernel
theorem dX6_readOtherNode_7 : decode cX6_readOtherNode 7 = .ok (.if_icmp .ne 15, 3) := by decide +kernel
theorem dX6_readOtherNode_10 : decode cX6_readOtherNode 10 = .ok (.aload_n 0, 1) := by decide +kernel
theorem dX6_readOtherNode_11 : decode cX6_readOtherNode 11 = .ok (.dup, 1) := by decide +kernel
theorem dX6_readOtherNode_12 : decode cX6_readOtherNode 12 = .ok (.getfield 26, 3) := by decide +kernel
theorem dX6_readOtherNode_15 : decode cX6_readOtherNode 15 = .ok (.iconst 1, 1) := by decide +kernel
theorem dX6_readOtherNode_16 : decode cX6_readOtherNode 16 = .ok (.isub, 1) := by decide +kernel
theorem dX6_readOtherNode_17 : decode cX6_readOtherNode 17 = .ok (.putfield 26, 3) := by decide +kernel
theorem dX6_readOtherNode_20 : decode cX6_readOtherNode 20 = .ok (.iconst (-1), 1) := by decide +kernel
theorem dX6_readOtherNode_21 : decode cX6_readOtherNode 21 = .ok (.ireturn, 1) := by decide +kernel
theorem dX6_readOtherNode_22 : decode cX6_readOtherNode 22 = .ok (.iload_n 2, 1) := by decide +kernel
theorem dX6_readOtherNode_23 : decode cX6_readOtherNode 23 = .ok (.ireturn, 1) := by decide +kernel
theorem dX6_readNumber_0 : decode cX6_readNumber 0 = .ok (.aload_n 0, 1) := by decide +kernel
theorem dX6_readNumber_1 : decode cX6_readNumber 1 = .ok (.invokevirtual 29, 3) := by decide +kernel
theorem dX6_readNumber_4 : decode cX6_readNumber 4 = .ok (.aload_n 0, 1) := by decide +kernel
theorem dX6_readNumber_5 : decode cX6_readNumber 5 = .ok (.aload_n 0, 1) := by decide +kernel
theorem dX6_readNumber_6 : decode cX6_readNumber 6 = .ok (.getfield 26, 3) := by decide +kernel
theorem dX6_readNumber_9 : decode cX6_readNumber 9 = .ok (.invokevirtual 66, 3) := by decide +kernel
theorem dX6_readNumber_12 : decode cX6_readNumber 12 = .ok (.istore_n 1, 1) := by decide +kernel
theorem dX6_readNumber_13 : decode cX6_readNumber 13 = .ok (.iload_n 1, 1) := by decide +kernel
theorem dX6_readNumber_14 : decode cX6_readNumber 14 = .ok (.iconst (-1), 1) := by decide +kernel
theorem dX6_readNumber_15 : decode cX6_readNumber 15 = .ok (.if_icmp .ne 5, 3) := by decide +kernel
theorem dX6_readNumber_18 : decode cX6_readNumber 18 = .ok (.iconst (-1), 1) := by decide +kernel
theorem dX6_readNumber_19 : decode cX6_readNumber 19 = .ok (.ireturn, 1) := by decide +kernel
theorem dX6_readNumber_20 : decode cX6_readNumber 20 = .ok (.aload_n 0, 1) := by decide +kernel
theorem dX6_readNumber_21 : decode cX6_readNumber 21 = .ok (.dup, 1) := by decide +kernel
theorem dX6_readNumber_22 : decode cX6_readNumber 22 = .ok (.getfield 26, 3) := by decide +kernel
theorem dX6_readNumber_25 : decode cX6_readNumber 25 = .ok (.iconst 1, 1) := by decide +kernel
theorem dX6_readNumber_26 : decode cX6_readNumber 26 = .ok (.iadd, 1) := by decide +kernel
theorem dX6_readNumber_27 : decode cX6_readNumber 27 = .ok (.putfield 26, 3) := by decide +kernel
theorem dX6_readNumber_30 : decode cX6_readNumber 30 = .ok (.aload_n 0, 1) := by decide +kernel
theorem dX6_readNumber_31 : decode cX6_readNumber 31 = .ok (.aload_n 0, 1) := by decide +kernel
theorem dX6_readNumber_32 : decode cX6_readNumber 32 = .ok (.getfield 26, 3) := by decide +kernel
theorem dX6_readNumber_35 : decode cX6_readNumber 35 = .ok (.invokevirtual 66, 3) := by decide +kernel
theorem dX6_readNumber_38 : decode cX6_readNumber 38 = .ok (.istore_n 2, 1) := by decide +kernel
theorem dX6_readNumber_39 : decode cX6_readNumber 39 = .ok (.iload_n 2, 1) := by decide +kernel
theorem dX6_readNumber_40 : decode cX6_readNumber 40 = .ok (.iconst (-1), 1) := by decide +kernel
theorem dX6_readNumber_41 : decode cX6_readNumber 41 = .ok (.if_icmp .ne 5, 3) := by decide +kernel
theorem dX6_readNumber_44 : decode cX6_readNumber 44 = .ok (.iload_n 1, 1) := by decide +kernel
theorem dX6_readNumber_45 : decode cX6_readNumber 45 = .ok (.ireturn, 1) := by decide +kernel
theorem dX6_readNumber_46 : decode cX6_readNumber 46 = .ok (.aload_n 0, 1) := by decide +kernel
theorem dX6_readNumber_47 : decode cX6_readNumber 47 = .ok (.dup, 1) := by decide +kernel
theorem dX6_readNumber_48 : decode cX6_readNumber 48 = .ok (.getfield 26, 3) := by decide +kernel
theorem dX6_readNumber_51 : decode cX6_readNumber 51 = .ok (.iconst 1, 1) := by decide +kernel
theorem dX6_readNumber_52 : decode cX6_readNumber 52 = .ok (.iadd, 1) := by decide +kernel
theorem dX6_readNumber_53 : decode cX6_readNumber 53 = .ok (.putfield 26, 3) := by decide +kernel
theorem dX6_readNumber_56 : decode cX6_readNumber 56 = .ok (.bipush 10, 2) := by decide +kernel
theorem dX6_readNumber_58 : decode cX6_readNumber 58 = .ok (.iload_n 1, 1) := by decide +kernel
theorem dX6_readNumber_59 : decode cX6_readNumber 59 = .ok (.imul, 1) := by decide +kernel
theorem dX6_readNumber_60 : decode cX6_readNumber 60 = .ok (.iload_n 2, 1) := by decide +kernel
theorem dX6_readNumber_61 : decode cX6_readNumber 61 = .ok (.iadd, 1) := by decide +kernel
theorem dX6_readNumber_62 : decode cX6_readNumber 62 = .ok (.ireturn, 1) := by decide +kernel
theorem dX6_readDelay_0 : decode cX6_readDelay 0 = .ok (.aload_n 0, 1) := by decide +kernel
theorem dX6_readDelay_1 : decode cX6_readDelay 1 = .ok (.bipush 120, 2) := by decide +kernel
theorem dX6_readDelay_3 : decode cX6_readDelay 3 = .ok (.invokevirtual 47, 3) := by decide +kernel
theorem dX6_readDelay_6 : decode cX6_readDelay 6 = .ok (.ifCond .eq 6, 3) := by decide +kernel
theorem dX6_readDelay_9 : decode cX6_readDelay 9 = .ok (.bipush 100, 2) := by decide +kernel
theorem dX6_readDelay_11 : decode cX6_readDelay 11 = .ok (.ireturn, 1) := by decide +kernel
theorem dX6_readDelay_12 : decode cX6_readDelay 12 = .ok (.aload_n 0, 1) := by decide +kernel
theorem dX6_readDelay_13 : decode cX6_readDelay 13 = .ok (.invokevirtual 44, 3) := by decide +kernel
theorem dX6_readDelay_16 : decode cX6_readDelay 16 = .ok (.istore_n 1, 1) := by decide +kernel
theorem dX6_readDelay_17 : decode cX6_readDelay 17 = .ok (.iload_n 1, 1) := by decide +kernel
theorem dX6_readDelay_18 : decode cX6_readDelay 18 = .ok (.ifCond .ne 15, 3) := by decide +kernel
theorem dX6_readDelay_21 : decode cX6_readDelay 21 = .ok (.aload_n 0, 1) := by decide +kernel
theorem dX6_readDelay_22 : decode cX6_readDelay 22 = .ok (.dup, 1) := by decide +kernel
theorem dX6_readDelay_23 : decode cX6_readDelay 23 = .ok (.getfield 26, 3) := by decide +kernel
theorem dX6_readDelay_26 : decode cX6_readDelay 26 = .ok (.iconst 1, 1) := by decide +kernel
theorem dX6_readDelay_27 : decode cX6_readDelay 27 = .ok (.isub, 1) := by decide +kernel
theorem dX6_readDelay_28 : decode cX6_readDelay 28 = .ok (.putfield 26, 3) := by decide +kernel
theorem dX6_readDelay_31 : decode cX6_readDelay 31 = .ok (.iconst (-1), 1) := by decide +kernel
theorem dX6_readDelay_32 : decode cX6_readDelay 32 = .ok (.ireturn, 1) := by decide +kernel
theorem dX6_readDelay_33 : decode cX6_readDelay 33 = .ok (.iload_n 1, 1) := by decide +kernel
theorem dX6_readDelay_34 : decode cX6_readDelay 34 = .ok (.ireturn, 1) := by decide +kernel
theorem dX6_readCost_0 : decode cX6_readCost 0 = .ok (.aload_n 0, 1) := by decide +kernel
theorem dX6_readCost_1 : decode cX6_readCost 1 = .ok (.invokevirtual 29, 3) := by decide +kernel
theorem dX6_readCost_4 : decode cX6_readCost 4 = .ok (.aload_n 0, 1) := by decide +kernel
theorem dX6_readCost_5 : decode cX6_readCost 5 = .ok (.aload_n 0, 1) := by decide +kernel
theorem dX6_readCost_6 : decode cX6_readCost 6 = .ok (.getfield 26, 3) := by decide +kernel
theorem dX6_readCost_9 : decode cX6_readCost 9 = .ok (.invokevirtual 66, 3) := by decide +kernel
theorem dX6_readCost_12 : decode cX6_readCost 12 = .ok (.istore_n 1, 1) := by decide +kernel
theorem dX6_readCost_13 : decode cX6_readCost 13 = .ok (.iload_n 1, 1) := by decide +kernel
theorem dX6_readCost_14 : decode cX6_readCost 14 = .ok (.iconst 1, 1) := by decide +kernel
theorem dX6_readCost_15 : decode cX6_readCost 15 = .ok (.if_icmp .ge 5, 3) := by decide +kernel
theorem dX6_readCost_18 : decode cX6_readCost 18 = .ok (.iconst (-1), 1) := by decide +kernel
theorem dX6_readCost_19 : decode cX6_readCost 19 = .ok (.ireturn, 1) := by decide +kernel
theorem dX6_readCost_20 : decode cX6_readCost 20 = .ok (.aload_n 0, 1) := by decide +kernel
theorem dX6_readCost_21 : decode cX6_readCost 21 = .ok (.dup, 1) := by decide +kernel
theorem dX6_readCost_22 : decode cX6_readCost 22 = .ok (.getfield 26, 3) := by decide +kernel
theorem dX6_readCost_25 : decode cX6_readCost 25 = .ok (.iconst 1, 1) := by decide +kernel
theorem dX6_readCost_26 : decode cX6_readCost 26 = .ok (.iadd, 1) := by decide +kernel
theorem dX6_readCost_27 : decode cX6_readCost 27 = .ok (.putfield 26, 3) := by decide +kernel
theorem dX6_readCost_30 : decode cX6_readCost 30 = .ok (.iload_n 1, 1) := by decide +kernel
theorem dX6_readCost_31 : decode cX6_readCost 31 = .ok (.ireturn, 1) := by decide +kernel
