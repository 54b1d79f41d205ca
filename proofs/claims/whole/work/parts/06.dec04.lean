/-! decode rows -/
theorem dX9_removeEdge_0 : decode cX9_removeEdge 0 = .ok (.aload_n 0, 1) := by decide +kernel
theorem dX9_removeEdge_1 : decode cX9_removeEdge 1 = .ok (.iload_n 1, 1) := by decide +kernel
theorem dX9_removeEdge_2 : decode cX9_removeEdge 2 = .ok (.invokevirtual 66, 3) := by decide +kernel
theorem dX9_removeEdge_5 : decode cX9_removeEdge 5 = .ok (.ifCond .ne 6, 3) := by decide +kernel
theorem dX9_removeEdge_8 : decode cX9_removeEdge 8 = .ok (.bipush (-2), 2) := by decide +kernel
theorem dX9_removeEdge_10 : decode cX9_removeEdge 10 = .ok (.ireturn, 1) := by decide +kernel
theorem dX9_removeEdge_11 : decode cX9_removeEdge 11 = .ok (.aload_n 0, 1) := by decide +kernel
theorem dX9_removeEdge_12 : decode cX9_removeEdge 12 = .ok (.invokevirtual 59, 3) := by decide +kernel
theorem dX9_removeEdge_15 : decode cX9_removeEdge 15 = .ok (.iconst 0, 1) := by decide +kernel
theorem dX9_removeEdge_16 : decode cX9_removeEdge 16 = .ok (.istore_n 2, 1) := by decide +kernel
theorem dX9_removeEdge_17 : decode cX9_removeEdge 17 = .ok (.iconst 0, 1) := by decide +kernel
theorem dX9_removeEdge_18 : decode cX9_removeEdge 18 = .ok (.istore_n 3, 1) := by decide +kernel
theorem dX9_removeEdge_19 : decode cX9_removeEdge 19 = .ok (.iload_n 3, 1) := by decide +kernel
theorem dX9_removeEdge_20 : decode cX9_removeEdge 20 = .ok (.aload_n 0, 1) := by decide +kernel
theorem dX9_removeEdge_21 : decode cX9_removeEdge 21 = .ok (.getfield 7, 3) := by decide +kernel
theorem dX9_removeEdge_24 : decode cX9_removeEdge 24 = .ok (.bipush 80, 2) := by decide +kernel
theorem dX9_removeEdge_26 : decode cX9_removeEdge 26 = .ok (.iaload, 1) := by decide +kernel
theorem dX9_removeEdge_27 : decode cX9_removeEdge 27 = .ok (.if_icmp .ge 53, 3) := by decide +kernel
theorem dX9_removeEdge_30 : decode cX9_removeEdge 30 = .ok (.iload_n 3, 1) := by decide +kernel
theorem dX9_removeEdge_31 : decode cX9_removeEdge 31 = .ok (.iload_n 1, 1) := by decide +kernel
theorem dX9_removeEdge_32 : decode cX9_removeEdge 32 = .ok (.if_icmp .ge 7, 3) := by decide +kernel
theorem dX9_removeEdge_35 : decode cX9_removeEdge 35 = .ok (.iload_n 3, 1) := by decide +kernel
theorem dX9_removeEdge_36 : decode cX9_removeEdge 36 = .ok (.goto 6, 3) := by decide +kernel
theorem dX9_removeEdge_39 : decode cX9_removeEdge 39 = .ok (.iload_n 3, 1) := by decide +kernel
theorem dX9_removeEdge_40 : decode cX9_removeEdge 40 = .ok (.iconst 1, 1) := by decide +kernel
theorem dX9_removeEdge_41 : decode cX9_removeEdge 41 = .ok (.isub, 1) := by decide +kernel
theorem dX9_removeEdge_42 : decode cX9_removeEdge 42 = .ok (.istore 4, 2) := by decide +kernel
theorem dX9_removeEdge_44 : decode cX9_removeEdge 44 = .ok (.iload_n 2, 1) := by decide +kernel
theorem dX9_removeEdge_45 : decode cX9_removeEdge 45 = .ok (.iload_n 3, 1) := by decide +kernel
theorem dX9_removeEdge_46 : decode cX9_removeEdge 46 = .ok (.iload_n 1, 1) := by decide +kernel
theorem dX9_removeEdge_47 : decode cX9_removeEdge 47 = .ok (.if_icmp .eq 24, 3) := by decide +kernel
theorem dX9_removeEdge_50 : decode cX9_removeEdge 50 = .ok (.aload_n 0, 1) := by decide +kernel
theorem dX9_removeEdge_51 : decode cX9_removeEdge 51 = .ok (.getfield 7, 3) := by decide +kernel
theorem dX9_removeEdge_54 : decode cX9_removeEdge 54 = .ok (.bipush 81, 2) := by decide +kernel
theorem dX9_removeEdge_56 : decode cX9_removeEdge 56 = .ok (.iaload, 1) := by decide +kernel
theorem dX9_removeEdge_57 : decode cX9_removeEdge 57 = .ok (.iload_n 3, 1) := by decide +kernel
theorem dX9_removeEdge_58 : decode cX9_removeEdge 58 = .ok (.invokestatic 42, 3) := by decide +kernel
theorem dX9_removeEdge_61 : decode cX9_removeEdge 61 = .ok (.ifCond .eq 10, 3) := by decide +kernel
theorem dX9_removeEdge_64 : decode cX9_removeEdge 64 = .ok (.iconst 1, 1) := by decide +kernel
theorem dX9_removeEdge_65 : decode cX9_removeEdge 65 = .ok (.iload 4, 2) := by decide +kernel
theorem dX9_removeEdge_67 : decode cX9_removeEdge 67 = .ok (.ishl, 1) := by decide +kernel
theorem dX9_removeEdge_68 : decode cX9_removeEdge 68 = .ok (.goto 4, 3) := by decide +kernel
theorem dX9_removeEdge_71 : decode cX9_removeEdge 71 = .ok (.iconst 0, 1) := by decide +kernel
theorem dX9_removeEdge_72 : decode cX9_removeEdge 72 = .ok (.ior, 1) := by decide +kernel
theorem dX9_removeEdge_73 : decode cX9_removeEdge 73 = .ok (.istore_n 2, 1) := by decide +kernel
theorem dX9_removeEdge_74 : decode cX9_removeEdge 74 = .ok (.iinc 3 1, 3) := by decide +kernel
theorem dX9_removeEdge_77 : decode cX9_removeEdge 77 = .ok (.goto (-58), 3) := by decide +kernel
theorem dX9_removeEdge_80 : decode cX9_removeEdge 80 = .ok (.aload_n 0, 1) := by decide +kernel
theorem dX9_removeEdge_81 : decode cX9_removeEdge 81 = .ok (.getfield 7, 3) := by decide +kernel
theorem dX9_removeEdge_84 : decode cX9_removeEdge 84 = .ok (.bipush 80, 2) := by decide +kernel
theorem dX9_removeEdge_86 : decode cX9_removeEdge 86 = .ok (.dup2, 1) := by decide +kernel
theorem dX9_removeEdge_87 : decode cX9_removeEdge 87 = .ok (.iaload, 1) := by decide +kernel
theorem dX9_removeEdge_88 : decode cX9_removeEdge 88 = .ok (.iconst 1, 1) := by decide +kernel
theorem dX9_removeEdge_89 : decode cX9_removeEdge 89 = .ok (.isub, 1) := by decide +kernel
theorem dX9_removeEdge_90 : decode cX9_removeEdge 90 = .ok (.iastore, 1) := by decide +kernel
theorem dX9_removeEdge_91 : decode cX9_removeEdge 91 = .ok (.iconst 5, 1) := by decide +kernel
theorem dX9_removeEdge_92 : decode cX9_removeEdge 92 = .ok (.iload_n 1, 1) := by decide +kernel
theorem dX9_removeEdge_93 : decode cX9_removeEdge 93 = .ok (.imul, 1) := by decide +kernel
theorem dX9_removeEdge_94 : decode cX9_removeEdge 94 = .ok (.istore_n 3, 1) := by decide +kernel
theorem dX9_removeEdge_95 : decode cX9_removeEdge 95 = .ok (.iload_n 3, 1) := by decide +kernel
theorem dX9_removeEdge_96 : decode cX9_removeEdge 96 = .ok (.iconst 5, 1) := by decide +kernel
theorem dX9_removeEdge_97 : decode cX9_removeEdge 97 = .ok (.aload_n 0, 1) := by decide +kernel
theorem dX9_removeEdge_98 : decode cX9_removeEdge 98 = .ok (.getfield 7, 3) := by decide +kernel
theorem dX9_removeEdge_101 : decode cX9_removeEdge 101 = .ok (.bipush 80, 2) := by decide +kernel
theorem dX9_removeEdge_103 : decode cX9_removeEdge 103 = .ok (.iaload, 1) := by decide +kernel
theorem dX9_removeEdge_104 : decode cX9_removeEdge 104 = .ok (.imul, 1) := by decide +kernel
theorem dX9_removeEdge_105 : decode cX9_removeEdge 105 = .ok (.if_icmp .ge 23, 3) := by decide +kernel
theorem dX9_removeEdge_108 : decode cX9_removeEdge 108 = .ok (.aload_n 0, 1) := by decide +kernel
theorem dX9_removeEdge_109 : decode cX9_removeEdge 109 = .ok (.getfield 7, 3) := by decide +kernel
theorem dX9_removeEdge_112 : decode cX9_removeEdge 112 = .ok (.iload_n 3, 1) := by decide +kernel
theorem dX9_removeEdge_113 : decode cX9_removeEdge 113 = .ok (.aload_n 0, 1) := by decide +kernel
theorem dX9_removeEdge_114 : decode cX9_removeEdge 114 = .ok (.getfield 7, 3) := by decide +kernel
theorem dX9_removeEdge_117 : decode cX9_removeEdge 117 = .ok (.iload_n 3, 1) := by decide +kernel
theorem dX9_removeEdge_118 : decode cX9_removeEdge 118 = .ok (.iconst 5, 1) := by decide +kernel
theorem dX9_removeEdge_119 : decode cX9_removeEdge 119 = .ok (.iadd, 1) := by decide +kernel
theorem dX9_removeEdge_120 : decode cX9_removeEdge 120 = .ok (.iaload, 1) := by decide +kernel
theorem dX9_removeEdge_121 : decode cX9_removeEdge 121 = .ok (.iastore, 1) := by decide +kernel
theorem dX9_removeEdge_122 : decode cX9_removeEdge 122 = .ok (.iinc 3 1, 3) := by decide +kernel
theorem dX9_removeEdge_125 : decode cX9_removeEdge 125 = .ok (.goto (-30), 3) := by decide +kernel
theorem dX9_removeEdge_128 : decode cX9_removeEdge 128 = .ok (.aload_n 0, 1) := by decide +kernel
theorem dX9_removeEdge_129 : decode cX9_removeEdge 129 = .ok (.getfield 7, 3) := by decide +kernel
theorem dX9_removeEdge_132 : decode cX9_removeEdge 132 = .ok (.bipush 81, 2) := by decide +kernel
theorem dX9_removeEdge_134 : decode cX9_removeEdge 134 = .ok (.iload_n 2, 1) := by decide +kernel
theorem dX9_removeEdge_135 : decode cX9_removeEdge 135 = .ok (.iastore, 1) := by decide +kernel
theorem dX9_removeEdge_136 : decode cX9_removeEdge 136 = .ok (.aload_n 0, 1) := by decide +kernel
theorem dX9_removeEdge_137 : decode cX9_removeEdge 137 = .ok (.getfield 7, 3) := by decide +kernel
theorem dX9_removeEdge_140 : decode cX9_removeEdge 140 = .ok (.bipush 80, 2) := by decide +kernel
theorem dX9_removeEdge_142 : decode cX9_removeEdge 142 = .ok (.iaload, 1) := by decide +kernel
theorem dX9_removeEdge_143 : decode cX9_removeEdge 143 = .ok (.ireturn, 1) := by decide +kernel
theorem dX9_setEdge_0 : decode cX9_setEdge 0 = .ok (.aload_n 0, 1) := by decide +kernel
theorem dX9_setEdge_1 : decode cX9_setEdge 1 = .ok (.iload_n 1, 1) := by decide +kernel
theorem dX9_setEdge_2 : decode cX9_setEdge 2 = .ok (.invokevirtual 66, 3) := by decide +kernel
theorem dX9_setEdge_5 : decode cX9_setEdge 5 = .ok (.ifCond .eq 11, 3) := by decide +kernel
theorem dX9_setEdge_8 : decode cX9_setEdge 8 = .ok (.iload_n 2, 1) := by decide +kernel
theorem dX9_setEdge_9 : decode cX9_setEdge 9 = .ok (.iload_n 3, 1) := by decide +kernel
theorem dX9_setEdge_10 : decode cX9_setEdge 10 = .ok (.invokestatic 56, 3) := by decide +kernel
theorem dX9_setEdge_13 : decode cX9_setEdge 13 = .ok (.ifCond .ne 6, 3) := by decide +kernel
theorem dX9_setEdge_16 : decode cX9_setEdge 16 = .ok (.bipush (-2), 2) := by decide +kernel
theorem dX9_setEdge_18 : decode cX9_setEdge 18 = .ok (.ireturn, 1) := by decide +kernel
theorem dX9_setEdge_19 : decode cX9_setEdge 19 = .ok (.aload_n 0, 1) := by decide +kernel
theorem dX9_setEdge_20 : decode cX9_setEdge 20 = .ok (.invokevirtual 59, 3) := by decide +kernel
theorem dX9_setEdge_23 : decode cX9_setEdge 23 = .ok (.aload_n 0, 1) := by decide +kernel
theorem dX9_setEdge_24 : decode cX9_setEdge 24 = .ok (.iload_n 1, 1) := by decide +kernel
theorem dX9_setEdge_25 : decode cX9_setEdge 25 = .ok (.iload_n 2, 1) := by decide +kernel
theorem dX9_setEdge_26 : decode cX9_setEdge 26 = .ok (.invokevirtual 46, 3) := by decide +kernel
theorem dX9_setEdge_29 : decode cX9_setEdge 29 = .ok (.istore 4, 2) := by decide +kernel
theorem dX9_setEdge_31 : decode cX9_setEdge 31 = .ok (.aload_n 0, 1) := by decide +kernel
theorem dX9_setEdge_32 : decode cX9_setEdge 32 = .ok (.getfield 7, 3) := by decide +kernel
theorem dX9_setEdge_35 : decode cX9_setEdge 35 = .ok (.iconst 5, 1) := by decide +kernel
theorem dX9_setEdge_36 : decode cX9_setEdge 36 = .ok (.iload_n 1, 1) := by decide +kernel
theorem dX9_setEdge_37 : decode cX9_setEdge 37 = .ok (.imul, 1) := by decide +kernel
theorem dX9_setEdge_38 : decode cX9_setEdge 38 = .ok (.iload_n 2, 1) := by decide +kernel
theorem dX9_setEdge_39 : decode cX9_setEdge 39 = .ok (.iadd, 1) := by decide +kernel
theorem dX9_setEdge_40 : decode cX9_setEdge 40 = .ok (.iload_n 3, 1) := by decide +kernel
theorem dX9_setEdge_41 : decode cX9_setEdge 41 = .ok (.iastore, 1) := by decide +kernel
theorem dX9_setEdge_42 : decode cX9_setEdge 42 = .ok (.iload 4, 2) := by decide +kernel
theorem dX9_setEdge_44 : decode cX9_setEdge 44 = .ok (.ireturn, 1) := by decide +kernel
theorem dX9_edge_0 : decode cX9_edge 0 = .ok (.aload_n 0, 1) := by decide +kernel
theorem dX9_edge_1 : decode cX9_edge 1 = .ok (.iload_n 1, 1) := by decide +kernel
theorem dX9_edge_2 : decode cX9_edge 2 = .ok (.invokevirtual 66, 3) := by decide +kernel
theorem dX9_edge_5 : decode cX9_edge 5 = .ok (.ifCond .eq 12, 3) := by decide +kernel
theorem dX9_edge_8 : decode cX9_edge 8 = .ok (.iload_n 2, 1) := by decide +kernel
theorem dX9_edge_9 : decode cX9_edge 9 = .ok (.iconst 0, 1) := by decide +kernel
theorem dX9_edge_10 : decode cX9_edge 10 = .ok (.iconst 5, 1) := by decide +kernel
theorem dX9_edge_11 : decode cX9_edge 11 = .ok (.invokestatic 38, 3) := by decide +kernel
theorem dX9_edge_14 : decode cX9_edge 14 = .ok (.ifCond .ne 6, 3) := by decide +kernel
theorem dX9_edge_17 : decode cX9_edge 17 = .ok (.bipush (-2), 2) := by decide +kernel
theorem dX9_edge_19 : decode cX9_edge 19 = .ok (.ireturn, 1) := by decide +kernel
theorem dX9_edge_20 : decode cX9_edge 20 = .ok (.iload_n 2, 1) := by decide +kernel
theorem dX9_edge_21 : decode cX9_edge 21 = .ok (.iconst 5, 1) := by decide +kernel
theorem dX9_edge_22 : decode cX9_edge 22 = .ok (.if_icmp .ge 12, 3) := by decide +kernel
theorem dX9_edge_25 : decode cX9_edge 25 = .ok (.aload_n 0, 1) := by decide +kernel
theorem dX9_edge_26 : decode cX9_edge 26 = .ok (.iload_n 1, 1) := by decide +kernel
theorem dX9_edge_27 : decode cX9_edge 27 = .ok (.iload_n 2, 1) := by decide +kernel
theorem dX9_edge_28 : decode cX9_edge 28 = .ok (.invokevirtual 46, 3) := by decide +kernel
theorem dX9_edge_31 : decode cX9_edge 31 = .ok (.goto 14, 3) := by decide +kernel
theorem dX9_edge_34 : decode cX9_edge 34 = .ok (.aload_n 0, 1) := by decide +kernel
theorem dX9_edge_35 : decode cX9_edge 35 = .ok (.getfield 7, 3) := by decide +kernel
theorem dX9_edge_38 : decode cX9_edge 38 = .ok (.bipush 81, 2) := by decide +kernel
theorem dX9_edge_40 : decode cX9_edge 40 = .ok (.iaload, 1) := by decide +kernel
theorem dX9_edge_41 : decode cX9_edge 41 = .ok (.iload_n 1, 1) := by decide +kernel
theorem dX9_edge_42 : decode cX9_edge 42 = .ok (.ishr, 1) := by decide +kernel
theorem dX9_edge_43 : decode cX9_edge 43 = .ok (.iconst 1, 1) := by decide +kernel
theorem dX9_edge_44 : decode cX9_edge 44 = .ok (.iand, 1) := by decide +kernel
theorem dX9_edge_45 : decode cX9_edge 45 = .ok (.ireturn, 1) := by decide +kernel
theorem dX9_clear_0 : decode cX9_clear 0 = .ok (.aload_n 0, 1) := by decide +kernel
theorem dX9_clear_1 : decode cX9_clear 1 = .ok (.invokevirtual 59, 3) := by decide +kernel
theorem dX9_clear_4 : decode cX9_clear 4 = .ok (.aload_n 0, 1) := by decide +kernel
theorem dX9_clear_5 : decode cX9_clear 5 = .ok (.getfield 7, 3) := by decide +kernel
theorem dX9_clear_8 : decode cX9_clear 8 = .ok (.bipush 80, 2) := by decide +kernel
theorem dX9_clear_10 : decode cX9_clear 10 = .ok (.iaload, 1) := by decide +kernel
theorem dX9_clear_11 : decode cX9_clear 11 = .ok (.istore_n 1, 1) := by decide +kernel
theorem dX9_clear_12 : decode cX9_clear 12 = .ok (.aload_n 0, 1) := by decide +kernel
theorem dX9_clear_13 : decode cX9_clear 13 = .ok (.getfield 7, 3) := by decide +kernel
theorem dX9_clear_16 : decode cX9_clear 16 = .ok (.bipush 80, 2) := by decide +kernel
theorem dX9_clear_18 : decode cX9_clear 18 = .ok (.iconst 0, 1) := by decide +kernel
theorem dX9_clear_19 : decode cX9_clear 19 = .ok (.iastore, 1) := by decide +kernel
theorem dX9_clear_20 : decode cX9_clear 20 = .ok (.aload_n 0, 1) := by decide +kernel
theorem dX9_clear_21 : decode cX9_clear 21 = .ok (.getfield 7, 3) := by decide +kernel
theorem dX9_clear_24 : decode cX9_clear 24 = .ok (.bipush 81, 2) := by decide +kernel
theorem dX9_clear_26 : decode cX9_clear 26 = .ok (.iconst 0, 1) := by decide +kernel
theorem dX9_clear_27 : decode cX9_clear 27 = .ok (.iastore, 1) := by decide +kernel
theorem dX9_clear_28 : decode cX9_clear 28 = .ok (.iload_n 1, 1) := by decide +kernel
theorem dX9_clear_29 : decode cX9_clear 29 = .ok (.ireturn, 1) := by decide +kernel
theorem dX9_type_0 : decode cX9_type 0 = .ok (.iload_n 1, 1) := by decide +kernel
theorem dX9_type_1 : decode cX9_type 1 = .ok (.iconst 0, 1) := by decide +kernel
theorem dX9_type_2 : decode cX9_type 2 = .ok (.bipush 127, 2) := by decide +kernel
theorem dX9_type_4 : decode cX9_type 4 = .ok (.invokestatic 38, 3) := by decide +kernel
theorem dX9_type_7 : decode cX9_type 7 = .ok (.ifCond .ne 6, 3) := by decide +kernel
theorem dX9_type_10 : decode cX9_type 10 = .ok (.bipush (-2), 2) := by decide +kernel
theorem dX9_type_12 : decode cX9_type 12 = .ok (.ireturn, 1) := by decide +kernel
theorem dX9_type_13 : decode cX9_type 13 = .ok (.aload_n 0, 1) := by decide +kernel
theorem dX9_type_14 : decode cX9_type 14 = .ok (.getfield 70, 3) := by decide +kernel
theorem dX9_type_17 : decode cX9_type 17 = .ok (.bipush 110, 2) := by decide +kernel
theorem dX9_type_19 : decode cX9_type 19 = .ok (.if_icmp .ne 6, 3) := by decide +kernel
theorem dX9_type_22 : decode cX9_type 22 = .ok (.bipush (-4), 2) := by decide +kernel
theorem dX9_type_24 : decode cX9_type 24 = .ok (.ireturn, 1) := by decide +kernel
theorem dX9_type_25 : decode cX9_type 25 = .ok (.aload_n 0, 1) := by decide +kernel
theorem dX9_type_26 : decode cX9_type 26 = .ok (.getfield 20, 3) := by decide +kernel
theorem dX9_type_29 : decode cX9_type 29 = .ok (.aload_n 0, 1) := by decide +kernel
theorem dX9_type_30 : decode cX9_type 30 = .ok (.getfield 70, 3) := by decide +kernel
theorem dX9_type_33 : decode cX9_type 33 = .ok (.iload_n 1, 1) := by decide +kernel
theorem dX9_type_34 : decode cX9_type 34 = .ok (.iastore, 1) := by decide +kernel
theorem dX9_type_35 : decode cX9_type 35 = .ok (.aload_n 0, 1) := by decide +kernel
theorem dX9_type_36 : decode cX9_type 36 = .ok (.dup, 1) := by decide +kernel
theorem dX9_type_37 : decode cX9_type 37 = .ok (.getfield 70, 3) := by decide +kernel
theorem dX9_type_40 : decode cX9_type 40 = .ok (.iconst 1, 1) := by decide +kernel
theorem dX9_type_41 : decode cX9_type 41 = .ok (.iadd, 1) := by decide +kernel
theorem dX9_type_42 : decode cX9_type 42 = .ok (.putfield 70, 3) := by decide +kernel
theorem dX9_type_45 : decode cX9_type 45 = .ok (.aload_n 0, 1) := by decide +kernel
theorem dX9_type_46 : decode cX9_type 46 = .ok (.getfield 70, 3) := by decide +kernel
theorem dX9_type_49 : decode cX9_type 49 = .ok (.ireturn, 1) := by decide +kernel
theorem dX9_clearText_0 : decode cX9_clearText 0 = .ok (.aload_n 0, 1) := by decide +kernel
theorem dX9_clearText_1 : decode cX9_clearText 1 = .ok (.getfield 70, 3) := by decide +kernel
theorem dX9_clearText_4 : decode cX9_clearText 4 = .ok (.istore_n 1, 1) := by decide +kernel
theorem dX9_clearText_5 : decode cX9_clearText 5 = .ok (.aload_n 0, 1) := by decide +kernel
theorem dX9_clearText_6 : decode cX9_clearText 6 = .ok (.iconst 0, 1) := by decide +kernel
theorem dX9_clearText_7 : decode cX9_clearText 7 = .ok (.putfield 70, 3) := by decide +kernel
theorem dX9_clearText_10 : decode cX9_clearText 10 = .ok (.iload_n 1, 1) := by decide +kernel
theorem dX9_clearText_11 : decode cX9_clearText 11 = .ok (.ireturn, 1) := by decide +kernel
theorem dX9_next_0 : decode cX9_next 0 = .ok (.aload_n 0, 1) := by decide +kernel
theorem dX9_next_1 : decode cX9_next 1 = .ok (.getfield 73, 3) := by decide +kernel
theorem dX9_next_4 : decode cX9_next 4 = .ok (.aload_n 0, 1) := by decide +kernel
theorem dX9_next_5 : decode cX9_next 5 = .ok (.getfield 70, 3) := by decide +kernel
theorem dX9_next_8 : decode cX9_next 8 = .ok (.if_icmp .ge 15, 3) := by decide +kernel
theorem dX9_next_11 : decode cX9_next 11 = .ok (.aload_n 0, 1) := by decide +kernel
theorem dX9_next_12 : decode cX9_next 12 = .ok (.getfield 20, 3) := by decide +kernel
theorem dX9_next_15 : decode cX9_next 15 = .ok (.aload_n 0, 1) := by decide +kernel
theorem dX9_next_16 : decode cX9_next 16 = .ok (.getfield 73, 3) := by decide +kernel
theorem dX9_next_19 : decode cX9_next 19 = .ok (.iaload, 1) := by decide +kernel
theorem dX9_next_20 : decode cX9_next 20 = .ok (.goto 4, 3) := by decide +kernel
theorem dX9_next_23 : decode cX9_next 23 = .ok (.iconst (-1), 1) := by decide +kernel
theorem dX9_next_24 : decode cX9_next 24 = .ok (.ireturn, 1) := by decide +kernel
theorem dX9_passes_0 : decode cX9_passes 0 = .ok (.aload_n 0, 1) := by decide +kernel
theorem dX9_passes_1 : decode cX9_passes 1 = .ok (.dup, 1) := by decide +kernel
theorem dX9_passes_2 : decode cX9_passes 2 = .ok (.getfield 73, 3) := by decide +kernel
theorem dX9_passes_5 : decode cX9_passes 5 = .ok (.iconst 1, 1) := by decide +kernel
theorem dX9_passes_6 : decode cX9_passes 6 = .ok (.iadd, 1) := by decide +kernel
theorem dX9_passes_7 : decode cX9_passes 7 = .ok (.putfield 73, 3) := by decide +kernel
theorem dX9_passes_10 : decode cX9_passes 10 = .ok (.aload_n 0, 1) := by decide +kernel
theorem dX9_passes_11 : decode cX9_passes 11 = .ok (.invokevirtual 76, 3) := by decide +kernel
theorem dX9_passes_14 : decode cX9_passes 14 = .ok (.return_, 1) := by decide +kernel
theorem dX9_blanks_0 : decode cX9_blanks 0 = .ok (.aload_n 0, 1) := by decide +kernel
theorem dX9_blanks_1 : decode cX9_blanks 1 = .ok (.invokevirtual 79, 3) := by decide +kernel
theorem dX9_blanks_4 : decode cX9_blanks 4 = .ok (.bipush 32, 2) := by decide +kernel
theorem dX9_blanks_6 : decode cX9_blanks 6 = .ok (.if_icmp .ne 16, 3) := by decide +kernel
theorem dX9_blanks_9 : decode cX9_blanks 9 = .ok (.aload_n 0, 1) := by decide +kernel
theorem dX9_blanks_10 : decode cX9_blanks 10 = .ok (.dup, 1) := by decide +kernel
theorem dX9_blanks_11 : decode cX9_blanks 11 = .ok (.getfield 73, 3) := by decide +kernel
theorem dX9_blanks_14 : decode cX9_blanks 14 = .ok (.iconst 1, 1) := by decide +kernel
theorem dX9_blanks_15 : decode cX9_blanks 15 = .ok (.iadd, 1) := by decide +kernel
theorem dX9_blanks_16 : decode cX9_blanks 16 = .ok (.putfield 73, 3) := by decide +kernel
theorem dX9_blanks_19 : decode cX9_blanks 19 = .ok (.goto (-19), 3) := by decide +kernel
theorem dX9_blanks_22 : decode cX9_blanks 22 = .ok (.return_, 1) := by decide +kernel
theorem dX9_node_0 : decode cX9_node 0 = .ok (.aload_n 0, 1) := by decide +kernel
theorem dX9_node_1 : decode cX9_node 1 = .ok (.invokevirtual 79, 3) := by decide +kernel
theorem dX9_node_4 : decode cX9_node 4 = .ok (.bipush 97, 2) := by decide +kernel
theorem dX9_node_6 : decode cX9_node 6 = .ok (.isub, 1) := by decide +kernel
theorem dX9_node_7 : decode cX9_node 7 = .ok (.istore_n 2, 1) := by decide +kernel
theorem dX9_node_8 : decode cX9_node 8 = .ok (.aload_n 0, 1) := by decide +kernel
theorem dX9_node_9 : decode cX9_node 9 = .ok (.aload_n 0, 1) := by decide +kernel
theorem dX9_node_10 : decode cX9_node 10 = .ok (.getfield 83, 3) := by decide +kernel
theorem dX9_node_13 : decode cX9_node 13 = .ok (.ifCond .eq 22, 3) := by decide +kernel
theorem dX9_node_16 : decode cX9_node 16 = .ok (.iload_n 2, 1) := by decide +kernel
theorem dX9_node_17 : decode cX9_node 17 = .ok (.iconst 0, 1) := by decide +kernel
theorem dX9_node_18 : decode cX9_node 18 = .ok (.bipush 7, 2) := by decide +kernel
theorem dX9_node_20 : decode cX9_node 20 = .ok (.invokestatic 38, 3) := by decide +kernel
theorem dX9_node_23 : decode cX9_node 23 = .ok (.ifCond .eq 12, 3) := by decide +kernel
theorem dX9_node_26 : decode cX9_node 26 = .ok (.iload_n 2, 1) := by decide +kernel
theorem dX9_node_27 : decode cX9_node 27 = .ok (.iload_n 1, 1) := by decide +kernel
theorem dX9_node_28 : decode cX9_node 28 = .ok (.if_icmp .eq 7, 3) := by decide +kernel
theorem dX9_node_31 : decode cX9_node 31 = .ok (.iconst 1, 1) := by decide +kernel
theorem dX9_node_32 : decode cX9_node 32 = .ok (.goto 4, 3) := by decide +kernel
theorem dX9_node_35 : decode cX9_node 35 = .ok (.iconst 0, 1) := by decide +kernel
theorem dX9_node_36 : decode cX9_node 36 = .ok (.putfield 83, 3) := by decide +kernel
theorem dX9_node_39 : decode cX9_node 39 = .ok (.aload_n 0, 1) := by decide +kernel
theorem dX9_node_40 : decode cX9_node 40 = .ok (.getfield 83, 3) := by decide +kernel
theorem dX9_node_43 : decode cX9_node 43 = .ok (.ifCond .eq 7, 3) := by decide +kernel
theorem dX9_node_46 : decode cX9_node 46 = .ok (.aload_n 0, 1) := by decide +kernel
theorem dX9_node_47 : decode cX9_node 47 = .ok (.invokevirtual 87, 3) := by decide +kernel
theorem dX9_node_50 : decode cX9_node 50 = .ok (.iload_n 2, 1) := by decide +kernel
theorem dX9_node_51 : decode cX9_node 51 = .ok (.ireturn, 1) := by decide +kernel
theorem dX9_isDigit_0 : decode cX9_isDigit 0 = .ok (.aload_n 0, 1) := by decide +kernel
theorem dX9_isDigit_1 : decode cX9_isDigit 1 = .ok (.invokevirtual 79, 3) := by decide +kernel
theorem dX9_isDigit_4 : decode cX9_isDigit 4 = .ok (.bipush 48, 2) := by decide +kernel
theorem dX9_isDigit_6 : decode cX9_isDigit 6 = .ok (.bipush 57, 2) := by decide +kernel
theorem dX9_isDigit_8 : decode cX9_isDigit 8 = .ok (.invokestatic 38, 3) := by decide +kernel
theorem dX9_isDigit_11 : decode cX9_isDigit 11 = .ok (.ireturn, 1) := by decide +kernel
theorem dX9_number_0 : decode cX9_number 0 = .ok (.aload_n 0, 1) := by decide +kernel
theorem dX9_number_1 : decode cX9_number 1 = .ok (.aload_n 0, 1) := by decide +kernel
theorem dX9_number_2 : decode cX9_number 2 = .ok (.getfield 83, 3) := by decide +kernel
theorem dX9_number_5 : decode cX9_number 5 = .ok (.ifCond .eq 14, 3) := by decide +kernel
theorem dX9_number_8 : decode cX9_number 8 = .ok (.aload_n 0, 1) := by decide +kernel
theorem dX9_number_9 : decode cX9_number 9 = .ok (.invokevirtual 90, 3) := by decide +kernel
theorem dX9_number_12 : decode cX9_number 12 = .ok (.ifCond .eq 7, 3) := by decide +kernel
theorem dX9_number_15 : decode cX9_number 15 = .ok (.iconst 1, 1) := by decide +kernel
theorem dX9_number_16 : decode cX9_number 16 = .ok (.goto 4, 3) := by decide +kernel
theorem dX9_number_19 : decode cX9_number 19 = .ok (.iconst 0, 1) := by decide +kernel
theorem dX9_number_20 : decode cX9_number 20 = .ok (.putfield 83, 3) := by decide +kernel
theorem dX9_number_23 : decode cX9_number 23 = .ok (.aload_n 0, 1) := by decide +kernel
theorem dX9_number_24 : decode cX9_number 24 = .ok (.getfield 83, 3) := by decide +kernel
theorem dX9_number_27 : decode cX9_number 27 = .ok (.ifCond .ne 5, 3) := by decide +kernel
theorem dX9_number_30 : decode cX9_number 30 = .ok (.iconst 0, 1) := by decide +kernel
theorem dX9_number_31 : decode cX9_number 31 = .ok (.ireturn, 1) := by decide +kernel
theorem dX9_number_32 : decode cX9_number 32 = .ok (.aload_n 0, 1) := by decide +kernel
theorem dX9_number_33 : decode cX9_number 33 = .ok (.invokevirtual 79, 3) := by decide +kernel
theorem dX9_number_36 : decode cX9_number 36 = .ok (.bipush 48, 2) := by decide +kernel
theorem dX9_number_38 : decode cX9_number 38 = .ok (.isub, 1) := by decide +kernel
theorem dX9_number_39 : decode cX9_number 39 = .ok (.istore_n 2, 1) := by decide +kernel
theorem dX9_number_40 : decode cX9_number 40 = .ok (.aload_n 0, 1) := by decide +kernel
theorem dX9_number_41 : decode cX9_number 41 = .ok (.dup, 1) := by decide +kernel
theorem dX9_number_42 : decode cX9_number 42 = .ok (.getfield 73, 3) := by decide +kernel
theorem dX9_number_45 : decode cX9_number 45 = .ok (.iconst 1, 1) := by decide +kernel
theorem dX9_number_46 : decode cX9_number 46 = .ok (.iadd, 1) := by decide +kernel
theorem dX9_number_47 : decode cX9_number 47 = .ok (.putfield 73, 3) := by decide +kernel
theorem dX9_number_50 : decode cX9_number 50 = .ok (.aload_n 0, 1) := by decide +kernel
theorem dX9_number_51 : decode cX9_number 51 = .ok (.invokevirtual 90, 3) := by decide +kernel
theorem dX9_number_54 : decode cX9_number 54 = .ok (.ifCond .eq 26, 3) := by decide +kernel
theorem dX9_number_57 : decode cX9_number 57 = .ok (.bipush 10, 2) := by decide +kernel
theorem dX9_number_59 : decode cX9_number 59 = .ok (.iload_n 2, 1) := by decide +kernel
theorem dX9_number_60 : decode cX9_number 60 = .ok (.imul, 1) := by decide +kernel
theorem dX9_number_61 : decode cX9_number 61 = .ok (.aload_n 0, 1) := by decide +kernel
theorem dX9_number_62 : decode cX9_number 62 = .ok (.invokevirtual 79, 3) := by decide +kernel
theorem dX9_number_65 : decode cX9_number 65 = .ok (.iadd, 1) := by decide +kernel
theorem dX9_number_66 : decode cX9_number 66 = .ok (.bipush 48, 2) := by decide +kernel
theorem dX9_number_68 : decode cX9_number 68 = .ok (.isub, 1) := by decide +kernel
theorem dX9_number_69 : decode cX9_number 69 = .ok (.istore_n 2, 1) := by decide +kernel
theorem dX9_number_70 : decode cX9_number 70 = .ok (.aload_n 0, 1) := by decide +kernel
theorem dX9_number_71 : decode cX9_number 71 = .ok (.dup, 1) := by decide +kernel
theorem dX9_number_72 : decode cX9_number 72 = .ok (.getfield 73, 3) := by decide +kernel
theorem dX9_number_75 : decode cX9_number 75 = .ok (.iconst 1, 1) := by decide +kernel
theorem dX9_number_76 : decode cX9_number 76 = .ok (.iadd, 1) := by decide +kernel
theorem dX9_number_77 : decode cX9_number 77 = .ok (.putfield 73, 3) := by decide +kernel
theorem dX9_number_80 : decode cX9_number 80 = .ok (.iload_n 1, 1) := by decide +kernel
theorem dX9_number_81 : decode cX9_number 81 = .ok (.ifCond .eq 24, 3) := by decide +kernel
theorem dX9_number_84 : decode cX9_number 84 = .ok (.iload_n 2, 1) := by decide +kernel
theorem dX9_number_85 : decode cX9_number 85 = .ok (.ifCond .ne 20, 3) := by decide +kernel
theorem dX9_number_88 : decode cX9_number 88 = .ok (.aload_n 0, 1) := by decide +kernel
theorem dX9_number_89 : decode cX9_number 89 = .ok (.dup, 1) := by decide +kernel
theorem dX9_number_90 : decode cX9_number 90 = .ok (.getfield 73, 3) := by decide +kernel
theorem dX9_number_93 : decode cX9_number 93 = .ok (.iconst 1, 1) := by decide +kernel
theorem dX9_number_94 : decode cX9_number 94 = .ok (.isub, 1) := by decide +kernel
theorem dX9_number_95 : decode cX9_number 95 = .ok (.putfield 73, 3) := by decide +kernel
theorem dX9_number_98 : decode cX9_number 98 = .ok (.aload_n 0, 1) := by decide +kernel
theorem dX9_number_99 : decode cX9_number 99 = .ok (.iconst 0, 1) := by decide +kernel
theorem dX9_number_100 : decode cX9_number 100 = .ok (.putfield 83, 3) := by decide +kernel
theorem dX9_number_103 : decode cX9_number 103 = .ok (.iconst 0, 1) := by decide +kernel
theorem dX9_number_104 : decode cX9_number 104 = .ok (.ireturn, 1) := by decide +kernel
theorem dX9_number_105 : decode cX9_number 105 = .ok (.aload_n 0, 1) := by decide +kernel
theorem dX9_number_106 : decode cX9_number 106 = .ok (.invokevirtual 76, 3) := by decide +kernel
theorem dX9_number_109 : decode cX9_number 109 = .ok (.iload_n 2, 1) := by decide +kernel
theorem dX9_number_110 : decode cX9_number 110 = .ok (.ireturn, 1) := by decide +kernel
theorem dX9_sign_0 : decode cX9_sign 0 = .ok (.aload_n 0, 1) := by decide +kernel
theorem dX9_sign_1 : decode cX9_sign 1 = .ok (.aload_n 0, 1) := by decide +kernel
theorem dX9_sign_2 : decode cX9_sign 2 = .ok (.getfield 83, 3) := by decide +kernel
theorem dX9_sign_5 : decode cX9_sign 5 = .ok (.ifCond .eq 15, 3) := by decide +kernel
theorem dX9_sign_8 : decode cX9_sign 8 = .ok (.aload_n 0, 1) := by decide +kernel
theorem dX9_sign_9 : decode cX9_sign 9 = .ok (.invokevirtual 79, 3) := by decide +kernel
theorem dX9_sign_12 : decode cX9_sign 12 = .ok (.iload_n 1, 1) := by decide +kernel
theorem dX9_sign_13 : decode cX9_sign 13 = .ok (.if_icmp .ne 7, 3) := by decide +kernel
theorem dX9_sign_16 : decode cX9_sign 16 = .ok (.iconst 1, 1) := by decide +kernel
theorem dX9_sign_17 : decode cX9_sign 17 = .ok (.goto 4, 3) := by decide +kernel
theorem dX9_sign_20 : decode cX9_sign 20 = .ok (.iconst 0, 1) := by decide +kernel
theorem dX9_sign_21 : decode cX9_sign 21 = .ok (.putfield 83, 3) := by decide +kernel
theorem dX9_sign_24 : decode cX9_sign 24 = .ok (.aload_n 0, 1) := by decide +kernel
theorem dX9_sign_25 : decode cX9_sign 25 = .ok (.getfield 83, 3) := by decide +kernel
theorem dX9_sign_28 : decode cX9_sign 28 = .ok (.ifCond .eq 7, 3) := by decide +kernel
theorem dX9_sign_31 : decode cX9_sign 31 = .ok (.aload_n 0, 1) := by decide +kernel
theorem dX9_sign_32 : decode cX9_sign 32 = .ok (.invokevirtual 87, 3) := by decide +kernel
theorem dX9_sign_35 : decode cX9_sign 35 = .ok (.return_, 1) := by decide +kernel
theorem dX9_delay_0 : decode cX9_delay 0 = .ok (.aload_n 0, 1) := by decide +kernel
theorem dX9_delay_1 : decode cX9_delay 1 = .ok (.getfield 83, 3) := by decide +kernel
theorem dX9_delay_4 : decode cX9_delay 4 = .ok (.ifCond .eq 19, 3) := by decide +kernel
theorem dX9_delay_7 : decode cX9_delay 7 = .ok (.aload_n 0, 1) := by decide +kernel
theorem dX9_delay_8 : decode cX9_delay 8 = .ok (.invokevirtual 79, 3) := by decide +kernel
theorem dX9_delay_11 : decode cX9_delay 11 = .ok (.bipush 120, 2) := by decide +kernel
theorem dX9_delay_13 : decode cX9_delay 13 = .ok (.if_icmp .ne 10, 3) := by decide +kernel
theorem dX9_delay_16 : decode cX9_delay 16 = .ok (.aload_n 0, 1) := by decide +kernel
theorem dX9_delay_17 : decode cX9_delay 17 = .ok (.invokevirtual 87, 3) := by decide +kernel
theorem dX9_delay_20 : decode cX9_delay 20 = .ok (.bipush 100, 2) := by decide +kernel
theorem dX9_delay_22 : decode cX9_delay 22 = .ok (.ireturn, 1) := by decide +kernel
theorem dX9_delay_23 : decode cX9_delay 23 = .ok (.aload_n 0, 1) := by decide +kernel
theorem dX9_delay_24 : decode cX9_delay 24 = .ok (.iconst 1, 1) := by decide +kernel
theorem dX9_delay_25 : decode cX9_delay 25 = .ok (.invokevirtual 94, 3) := by decide +kernel
theorem dX9_delay_28 : decode cX9_delay 28 = .ok (.ireturn, 1) := by decide +kernel
theorem dX9_digit_0 : decode cX9_digit 0 = .ok (.aload_n 0, 1) := by decide +kernel
theorem dX9_digit_1 : decode cX9_digit 1 = .ok (.invokevirtual 79, 3) := by decide +kernel
theorem dX9_digit_4 : decode cX9_digit 4 = .ok (.bipush 48, 2) := by decide +kernel
theorem dX9_digit_6 : decode cX9_digit 6 = .ok (.isub, 1) := by decide +kernel
theorem dX9_digit_7 : decode cX9_digit 7 = .ok (.istore_n 1, 1) := by decide +kernel
theorem dX9_digit_8 : decode cX9_digit 8 = .ok (.aload_n 0, 1) := by decide +kernel
theorem dX9_digit_9 : decode cX9_digit 9 = .ok (.aload_n 0, 1) := by decide +kernel
theorem dX9_digit_10 : decode cX9_digit 10 = .ok (.getfield 83, 3) := by decide +kernel
theorem dX9_digit_13 : decode cX9_digit 13 = .ok (.ifCond .eq 17, 3) := by decide +kernel
theorem dX9_digit_16 : decode cX9_digit 16 = .ok (.iload_n 1, 1) := by decide +kernel
theorem dX9_digit_17 : decode cX9_digit 17 = .ok (.iconst 1, 1) := by decide +kernel
theorem dX9_digit_18 : decode cX9_digit 18 = .ok (.bipush 9, 2) := by decide +kernel
theorem dX9_digit_20 : decode cX9_digit 20 = .ok (.invokestatic 38, 3) := by decide +kernel
theorem dX9_digit_23 : decode cX9_digit 23 = .ok (.ifCond .eq 7, 3) := by decide +kernel
theorem dX9_digit_26 : decode cX9_digit 26 = .ok (.iconst 1, 1) := by decide +kernel
theorem dX9_digit_27 : decode cX9_digit 27 = .ok (.goto 4, 3) := by decide +kernel
theorem dX9_digit_30 : decode cX9_digit 30 = .ok (.iconst 0, 1) := by decide +kernel
theorem dX9_digit_31 : decode cX9_digit 31 = .ok (.putfield 83, 3) := by decide +kernel
theorem dX9_digit_34 : decode cX9_digit 34 = .ok (.aload_n 0, 1) := by decide +kernel
theorem dX9_digit_35 : decode cX9_digit 35 = .ok (.getfield 83, 3) := by decide +kernel
theorem dX9_digit_38 : decode cX9_digit 38 = .ok (.ifCond .eq 7, 3) := by decide +kernel
theorem dX9_digit_41 : decode cX9_digit 41 = .ok (.aload_n 0, 1) := by decide +kernel
theorem dX9_digit_42 : decode cX9_digit 42 = .ok (.invokevirtual 87, 3) := by decide +kernel
theorem dX9_digit_45 : decode cX9_digit 45 = .ok (.iload_n 1, 1) := by decide +kernel
theorem dX9_digit_46 : decode cX9_digit 46 = .ok (.ireturn, 1) := by decide +kernel
theorem dX9_fault_0 : decode cX9_fault 0 = .ok (.aload_n 0, 1) := by decide +kernel
theorem dX9_fault_1 : decode cX9_fault 1 = .ok (.iconst 0, 1) := by decide +kernel
theorem dX9_fault_2 : decode cX9_fault 2 = .ok (.putfield 73, 3) := by decide +kernel
theorem dX9_fault_5 : decode cX9_fault 5 = .ok (.aload_n 0, 1) := by decide +kernel
theorem dX9_fault_6 : decode cX9_fault 6 = .ok (.iconst 0, 1) := by decide +kernel
theorem dX9_fault_7 : decode cX9_fault 7 = .ok (.putfield 98, 3) := by decide +kernel
theorem dX9_fault_10 : decode cX9_fault 10 = .ok (.aload_n 0, 1) := by decide +kernel
theorem dX9_fault_11 : decode cX9_fault 11 = .ok (.iconst 1, 1) := by decide +kernel
theorem dX9_fault_12 : decode cX9_fault 12 = .ok (.putfield 83, 3) := by decide +kernel
theorem dX9_fault_15 : decode cX9_fault 15 = .ok (.aload_n 0, 1) := by decide +kernel
theorem dX9_fault_16 : decode cX9_fault 16 = .ok (.invokevirtual 76, 3) := by decide +kernel
theorem dX9_fault_19 : decode cX9_fault 19 = .ok (.aload_n 0, 1) := by decide +kernel
theorem dX9_fault_20 : decode cX9_fault 20 = .ok (.getfield 83, 3) := by decide +kernel
theorem dX9_fault_23 : decode cX9_fault 23 = .ok (.ifCond .eq 160, 3) := by decide +kernel
theorem dX9_fault_26 : decode cX9_fault 26 = .ok (.aload_n 0, 1) := by decide +kernel
theorem dX9_fault_27 : decode cX9_fault 27 = .ok (.getfield 73, 3) := by decide +kernel
theorem dX9_fault_30 : decode cX9_fault 30 = .ok (.aload_n 0, 1) := by decide +kernel
theorem dX9_fault_31 : decode cX9_fault 31 = .ok (.getfield 70, 3) := by decide +kernel
theorem dX9_fault_34 : decode cX9_fault 34 = .ok (.if_icmp .ge 149, 3) := by decide +kernel
theorem dX9_fault_37 : decode cX9_fault 37 = .ok (.aload_n 0, 1) := by decide +kernel
theorem dX9_fault_38 : decode cX9_fault 38 = .ok (.aload_n 0, 1) := by decide +kernel
theorem dX9_fault_39 : decode cX9_fault 39 = .ok (.getfield 98, 3) := by decide +kernel
theorem dX9_fault_42 : decode cX9_fault 42 = .ok (.bipush 16, 2) := by decide +kernel
theorem dX9_fault_44 : decode cX9_fault 44 = .ok (.if_icmp .ge 7, 3) := by decide +kernel
theorem dX9_fault_47 : decode cX9_fault 47 = .ok (.iconst 1, 1) := by decide +kernel
theorem dX9_fault_48 : decode cX9_fault 48 = .ok (.goto 4, 3) := by decide +kernel
theorem dX9_fault_51 : decode cX9_fault 51 = .ok (.iconst 0, 1) := by decide +kernel
theorem dX9_fault_52 : decode cX9_fault 52 = .ok (.putfield 83, 3) := by decide +kernel
theorem dX9_fault_55 : decode cX9_fault 55 = .ok (.aload_n 0, 1) := by decide +kernel
theorem dX9_fault_56 : decode cX9_fault 56 = .ok (.getfield 83, 3) := by decide +kernel
theorem dX9_fault_59 : decode cX9_fault 59 = .ok (.ifCond .eq (-40), 3) := by decide +kernel
theorem dX9_fault_62 : decode cX9_fault 62 = .ok (.aload_n 0, 1) := by decide +kernel
theorem dX9_fault_63 : decode cX9_fault 63 = .ok (.getfield 23, 3) := by decide +kernel
theorem dX9_fault_66 : decode cX9_fault 66 = .ok (.iconst 5, 1) := by decide +kernel
theorem dX9_fault_67 : decode cX9_fault 67 = .ok (.aload_n 0, 1) := by decide +kernel
theorem dX9_fault_68 : decode cX9_fault 68 = .ok (.getfield 98, 3) := by decide +kernel
theorem dX9_fault_71 : decode cX9_fault 71 = .ok (.imul, 1) := by decide +kernel
theorem dX9_fault_72 : decode cX9_fault 72 = .ok (.aload_n 0, 1) := by decide +kernel
theorem dX9_fault_73 : decode cX9_fault 73 = .ok (.iconst (-1), 1) := by decide +kernel
theorem dX9_fault_74 : decode cX9_fault 74 = .ok (.invokevirtual 101, 3) := by decide +kernel
theorem dX9_fault_77 : decode cX9_fault 77 = .ok (.iastore, 1) := by decide +kernel
theorem dX9_fault_78 : decode cX9_fault 78 = .ok (.aload_n 0, 1) := by decide +kernel
theorem dX9_fault_79 : decode cX9_fault 79 = .ok (.getfield 23, 3) := by decide +kernel
theorem dX9_fault_82 : decode cX9_fault 82 = .ok (.iconst 5, 1) := by decide +kernel
theorem dX9_fault_83 : decode cX9_fault 83 = .ok (.aload_n 0, 1) := by decide +kernel
theorem dX9_fault_84 : decode cX9_fault 84 = .ok (.getfield 98, 3) := by decide +kernel
theorem dX9_fault_87 : decode cX9_fault 87 = .ok (.imul, 1) := by decide +kernel
theorem dX9_fault_88 : decode cX9_fault 88 = .ok (.iconst 1, 1) := by decide +kernel
theorem dX9_fault_89 : decode cX9_fault 89 = .ok (.iadd, 1) := by decide +kernel
theorem dX9_fault_90 : decode cX9_fault 90 = .ok (.aload_n 0, 1) := by decide +kernel
theorem dX9_fault_91 : decode cX9_fault 91 = .ok (.aload_n 0, 1) := by decide +kernel
theorem dX9_fault_92 : decode cX9_fault 92 = .ok (.getfield 23, 3) := by decide +kernel
theorem dX9_fault_95 : decode cX9_fault 95 = .ok (.iconst 5, 1) := by decide +kernel
theorem dX9_fault_96 : decode cX9_fault 96 = .ok (.aload_n 0, 1) := by decide +kernel
theorem dX9_fault_97 : decode cX9_fault 97 = .ok (.getfield 98, 3) := by decide +kernel
theorem dX9_fault_100 : decode cX9_fault 100 = .ok (.imul, 1) := by decide +kernel
theorem dX9_fault_101 : decode cX9_fault 101 = .ok (.iaload, 1) := by decide +kernel
theorem dX9_fault_102 : decode cX9_fault 102 = .ok (.invokevirtual 101, 3) := by decide +kernel
theorem dX9_fault_105 : decode cX9_fault 105 = .ok (.iastore, 1) := by decide +kernel
theorem dX9_fault_106 : decode cX9_fault 106 = .ok (.aload_n 0, 1) := by decide +kernel
theorem dX9_fault_107 : decode cX9_fault 107 = .ok (.getfield 23, 3) := by decide +kernel
theorem dX9_fault_110 : decode cX9_fault 110 = .ok (.iconst 5, 1) := by decide +kernel
theorem dX9_fault_111 : decode cX9_fault 111 = .ok (.aload_n 0, 1) := by decide +kernel
theorem dX9_fault_112 : decode cX9_fault 112 = .ok (.getfield 98, 3) := by decide +kernel
theorem dX9_fault_115 : decode cX9_fault 115 = .ok (.imul, 1) := by decide +kernel
theorem dX9_fault_116 : decode cX9_fault 116 = .ok (.iconst 2, 1) := by decide +kernel
theorem dX9_fault_117 : decode cX9_fault 117 = .ok (.iadd, 1) := by decide +kernel
theorem dX9_fault_118 : decode cX9_fault 118 = .ok (.aload_n 0, 1) := by decide +kernel
theorem dX9_fault_119 : decode cX9_fault 119 = .ok (.iconst 0, 1) := by decide +kernel
theorem dX9_fault_120 : decode cX9_fault 120 = .ok (.invokevirtual 94, 3) := by decide +kernel
theorem dX9_fault_123 : decode cX9_fault 123 = .ok (.iastore, 1) := by decide +kernel
theorem dX9_fault_124 : decode cX9_fault 124 = .ok (.aload_n 0, 1) := by decide +kernel
theorem dX9_fault_125 : decode cX9_fault 125 = .ok (.bipush 43, 2) := by decide +kernel
theorem dX9_fault_127 : decode cX9_fault 127 = .ok (.invokevirtual 105, 3) := by decide +kernel
theorem dX9_fault_130 : decode cX9_fault 130 = .ok (.aload_n 0, 1) := by decide +kernel
theorem dX9_fault_131 : decode cX9_fault 131 = .ok (.getfield 23, 3) := by decide +kernel
theorem dX9_fault_134 : decode cX9_fault 134 = .ok (.iconst 5, 1) := by decide +kernel
theorem dX9_fault_135 : decode cX9_fault 135 = .ok (.aload_n 0, 1) := by decide +kernel
theorem dX9_fault_136 : decode cX9_fault 136 = .ok (.getfield 98, 3) := by decide +kernel
theorem dX9_fault_139 : decode cX9_fault 139 = .ok (.imul, 1) := by decide +kernel
theorem dX9_fault_140 : decode cX9_fault 140 = .ok (.iconst 3, 1) := by decide +kernel
theorem dX9_fault_141 : decode cX9_fault 141 = .ok (.iadd, 1) := by decide +kernel
theorem dX9_fault_142 : decode cX9_fault 142 = .ok (.aload_n 0, 1) := by decide +kernel
theorem dX9_fault_143 : decode cX9_fault 143 = .ok (.invokevirtual 109, 3) := by decide +kernel
theorem dX9_fault_146 : decode cX9_fault 146 = .ok (.iastore, 1) := by decide +kernel
theorem dX9_fault_147 : decode cX9_fault 147 = .ok (.aload_n 0, 1) := by decide +kernel
theorem dX9_fault_148 : decode cX9_fault 148 = .ok (.bipush 58, 2) := by decide +kernel
theorem dX9_fault_150 : decode cX9_fault 150 = .ok (.invokevirtual 105, 3) := by decide +kernel
theorem dX9_fault_153 : decode cX9_fault 153 = .ok (.aload_n 0, 1) := by decide +kernel
theorem dX9_fault_154 : decode cX9_fault 154 = .ok (.getfield 23, 3) := by decide +kernel
theorem dX9_fault_157 : decode cX9_fault 157 = .ok (.iconst 5, 1) := by decide +kernel
theorem dX9_fault_158 : decode cX9_fault 158 = .ok (.aload_n 0, 1) := by decide +kernel
theorem dX9_fault_159 : decode cX9_fault 159 = .ok (.getfield 98, 3) := by decide +kernel
theorem dX9_fault_162 : decode cX9_fault 162 = .ok (.imul, 1) := by decide +kernel
theorem dX9_fault_163 : decode cX9_fault 163 = .ok (.iconst 4, 1) := by decide +kernel
theorem dX9_fault_164 : decode cX9_fault 164 = .ok (.iadd, 1) := by decide +kernel
theorem dX9_fault_165 : decode cX9_fault 165 = .ok (.aload_n 0, 1) := by decide +kernel
theorem dX9_fault_166 : decode cX9_fault 166 = .ok (.invokevirtual 112, 3) := by decide +kernel
theorem dX9_fault_169 : decode cX9_fault 169 = .ok (.iastore, 1) := by decide +kernel
theorem dX9_fault_170 : decode cX9_fault 170 = .ok (.aload_n 0, 1) := by decide +kernel
theorem dX9_fault_171 : decode cX9_fault 171 = .ok (.dup, 1) := by decide +kernel
theorem dX9_fault_172 : decode cX9_fault 172 = .ok (.getfield 98, 3) := by decide +kernel
theorem dX9_fault_175 : decode cX9_fault 175 = .ok (.iconst 1, 1) := by decide +kernel
theorem dX9_fault_176 : decode cX9_fault 176 = .ok (.iadd, 1) := by decide +kernel
theorem dX9_fault_177 : decode cX9_fault 177 = .ok (.putfield 98, 3) := by decide +kernel
theorem dX9_fault_180 : decode cX9_fault 180 = .ok (.goto (-161), 3) := by decide +kernel
theorem dX9_fault_183 : decode cX9_fault 183 = .ok (.aload_n 0, 1) := by decide +kernel
theorem dX9_fault_184 : decode cX9_fault 184 = .ok (.getfield 83, 3) := by decide +kernel
theorem dX9_fault_187 : decode cX9_fault 187 = .ok (.ifCond .eq 7, 3) := by decide +kernel
theorem dX9_fault_190 : decode cX9_fault 190 = .ok (.iconst (-1), 1) := by decide +kernel
theorem dX9_fault_191 : decode cX9_fault 191 = .ok (.goto 7, 3) := by decide +kernel
theorem dX9_fault_194 : decode cX9_fault 194 = .ok (.aload_n 0, 1) := by decide +kernel
theorem dX9_fault_195 : decode cX9_fault 195 = .ok (.getfield 73, 3) := by decide +kernel
theorem dX9_fault_198 : decode cX9_fault 198 = .ok (.ireturn, 1) := by decide +kernel
theorem dX9_load_0 : decode cX9_load 0 = .ok (.aload_n 0, 1) := by decide +kernel
theorem dX9_load_1 : decode cX9_load 1 = .ok (.invokevirtual 115, 3) := by decide +kernel
theorem dX9_load_4 : decode cX9_load 4 = .ok (.iconst (-1), 1) := by decide +kernel
theorem dX9_load_5 : decode cX9_load 5 = .ok (.if_icmp .eq 6, 3) := by decide +kernel
theorem dX9_load_8 : decode cX9_load 8 = .ok (.bipush (-3), 2) := by decide +kernel
theorem dX9_load_10 : decode cX9_load 10 = .ok (.ireturn, 1) := by decide +kernel
theorem dX9_load_11 : decode cX9_load 11 = .ok (.aload_n 0, 1) := by decide +kernel
theorem dX9_load_12 : decode cX9_load 12 = .ok (.invokevirtual 59, 3) := by decide +kernel
theorem dX9_load_15 : decode cX9_load 15 = .ok (.iconst 0, 1) := by decide +kernel
theorem dX9_load_16 : decode cX9_load 16 = .ok (.istore_n 1, 1) := by decide +kernel
theorem dX9_load_17 : decode cX9_load 17 = .ok (.iload_n 1, 1) := by decide +kernel
theorem dX9_load_18 : decode cX9_load 18 = .ok (.iconst 5, 1) := by decide +kernel
theorem dX9_load_19 : decode cX9_load 19 = .ok (.aload_n 0, 1) := by decide +kernel
theorem dX9_load_20 : decode cX9_load 20 = .ok (.getfield 98, 3) := by decide +kernel
theorem dX9_load_23 : decode cX9_load 23 = .ok (.imul, 1) := by decide +kernel
theorem dX9_load_24 : decode cX9_load 24 = .ok (.if_icmp .ge 21, 3) := by decide +kernel
theorem dX9_load_27 : decode cX9_load 27 = .ok (.aload_n 0, 1) := by decide +kernel
theorem dX9_load_28 : decode cX9_load 28 = .ok (.getfield 7, 3) := by decide +kernel
theorem dX9_load_31 : decode cX9_load 31 = .ok (.iload_n 1, 1) := by decide +kernel
theorem dX9_load_32 : decode cX9_load 32 = .ok (.aload_n 0, 1) := by decide +kernel
theorem dX9_load_33 : decode cX9_load 33 = .ok (.getfield 23, 3) := by decide +kernel
theorem dX9_load_36 : decode cX9_load 36 = .ok (.iload_n 1, 1) := by decide +kernel
theorem dX9_load_37 : decode cX9_load 37 = .ok (.iaload, 1) := by decide +kernel
theorem dX9_load_38 : decode cX9_load 38 = .ok (.iastore, 1) := by decide +kernel
theorem dX9_load_39 : decode cX9_load 39 = .ok (.iinc 1 1, 3) := by decide +kernel
theorem dX9_load_42 : decode cX9_load 42 = .ok (.goto (-25), 3) := by decide +kernel
theorem dX9_load_45 : decode cX9_load 45 = .ok (.aload_n 0, 1) := by decide +kernel
theorem dX9_load_46 : decode cX9_load 46 = .ok (.getfield 7, 3) := by decide +kernel
theorem dX9_load_49 : decode cX9_load 49 = .ok (.bipush 80, 2) := by decide +kernel
theorem dX9_load_51 : decode cX9_load 51 = .ok (.aload_n 0, 1) := by decide +kernel
theorem dX9_load_52 : decode cX9_load 52 = .ok (.getfield 98, 3) := by decide +kernel
theorem dX9_load_55 : decode cX9_load 55 = .ok (.iastore, 1) := by decide +kernel
theorem dX9_load_56 : decode cX9_load 56 = .ok (.aload_n 0, 1) := by decide +kernel
theorem dX9_load_57 : decode cX9_load 57 = .ok (.getfield 7, 3) := by decide +kernel
theorem dX9_load_60 : decode cX9_load 60 = .ok (.bipush 81, 2) := by decide +kernel
theorem dX9_load_62 : decode cX9_load 62 = .ok (.iconst 0, 1) := by decide +kernel
theorem dX9_load_63 : decode cX9_load 63 = .ok (.iastore, 1) := by decide +kernel
theorem dX9_load_64 : decode cX9_load 64 = .ok (.aload_n 0, 1) := by decide +kernel
theorem dX9_load_65 : decode cX9_load 65 = .ok (.iconst 0, 1) := by decide +kernel
theorem dX9_load_66 : decode cX9_load 66 = .ok (.putfield 70, 3) := by decide +kernel
theorem dX9_load_69 : decode cX9_load 69 = .ok (.aload_n 0, 1) := by decide +kernel
theorem dX9_load_70 : decode cX9_load 70 = .ok (.getfield 98, 3) := by decide +kernel
theorem dX9_load_73 : decode cX9_load 73 = .ok (.ireturn, 1) := by decide +kernel
theorem dX9_attack_0 : decode cX9_attack 0 = .ok (.aload_n 0, 1) := by decide +kernel
theorem dX9_attack_1 : decode cX9_attack 1 = .ok (.iload_n 1, 1) := by decide +kernel
theorem dX9_attack_2 : decode cX9_attack 2 = .ok (.invokevirtual 66, 3) := by decide +kernel
theorem dX9_attack_5 : decode cX9_attack 5 = .ok (.ifCond .ne 6, 3) := by decide +kernel
theorem dX9_attack_8 : decode cX9_attack 8 = .ok (.bipush (-2), 2) := by decide +kernel
theorem dX9_attack_10 : decode cX9_attack 10 = .ok (.ireturn, 1) := by decide +kernel
theorem dX9_attack_11 : decode cX9_attack 11 = .ok (.aload_n 0, 1) := by decide +kernel
theorem dX9_attack_12 : decode cX9_attack 12 = .ok (.getfield 7, 3) := by decide +kernel
theorem dX9_attack_15 : decode cX9_attack 15 = .ok (.bipush 81, 2) := by decide +kernel
theorem dX9_attack_17 : decode cX9_attack 17 = .ok (.iaload, 1) := by decide +kernel
theorem dX9_attack_18 : decode cX9_attack 18 = .ok (.iload_n 1, 1) := by decide +kernel
theorem dX9_attack_19 : decode cX9_attack 19 = .ok (.invokestatic 42, 3) := by decide +kernel
theorem dX9_attack_22 : decode cX9_attack 22 = .ok (.iload_n 2, 1) := by decide +kernel
theorem dX9_attack_23 : decode cX9_attack 23 = .ok (.if_icmp .ne 6, 3) := by decide +kernel
theorem dX9_attack_26 : decode cX9_attack 26 = .ok (.bipush (-3), 2) := by decide +kernel
theorem dX9_attack_28 : decode cX9_attack 28 = .ok (.ireturn, 1) := by decide +kernel
theorem dX9_attack_29 : decode cX9_attack 29 = .ok (.aload_n 0, 1) := by decide +kernel
theorem dX9_attack_30 : decode cX9_attack 30 = .ok (.invokevirtual 59, 3) := by decide +kernel
theorem dX9_attack_33 : decode cX9_attack 33 = .ok (.aload_n 0, 1) := by decide +kernel
theorem dX9_attack_34 : decode cX9_attack 34 = .ok (.getfield 7, 3) := by decide +kernel
theorem dX9_attack_37 : decode cX9_attack 37 = .ok (.bipush 81, 2) := by decide +kernel
theorem dX9_attack_39 : decode cX9_attack 39 = .ok (.aload_n 0, 1) := by decide +kernel
theorem dX9_attack_40 : decode cX9_attack 40 = .ok (.getfield 7, 3) := by decide +kernel
theorem dX9_attack_43 : decode cX9_attack 43 = .ok (.bipush 81, 2) := by decide +kernel
theorem dX9_attack_45 : decode cX9_attack 45 = .ok (.iaload, 1) := by decide +kernel
theorem dX9_attack_46 : decode cX9_attack 46 = .ok (.iconst 1, 1) := by decide +kernel
theorem dX9_attack_47 : decode cX9_attack 47 = .ok (.iload_n 1, 1) := by decide +kernel
theorem dX9_attack_48 : decode cX9_attack 48 = .ok (.ishl, 1) := by decide +kernel
theorem dX9_attack_49 : decode cX9_attack 49 = .ok (.ixor, 1) := by decide +kernel
theorem dX9_attack_50 : decode cX9_attack 50 = .ok (.iastore, 1) := by decide +kernel
theorem dX9_attack_51 : decode cX9_attack 51 = .ok (.aload_n 0, 1) := by decide +kernel
theorem dX9_attack_52 : decode cX9_attack 52 = .ok (.aload_n 0, 1) := by decide +kernel
theorem dX9_attack_53 : decode cX9_attack 53 = .ok (.getfield 7, 3) := by decide +kernel
theorem dX9_attack_56 : decode cX9_attack 56 = .ok (.bipush 81, 2) := by decide +kernel
theorem dX9_attack_58 : decode cX9_attack 58 = .ok (.iaload, 1) := by decide +kernel
theorem dX9_attack_59 : decode cX9_attack 59 = .ok (.invokevirtual 118, 3) := by decide +kernel
theorem dX9_attack_62 : decode cX9_attack 62 = .ok (.ireturn, 1) := by decide +kernel
theorem dX9_setAttack_0 : decode cX9_setAttack 0 = .ok (.aload_n 0, 1) := by decide +kernel
theorem dX9_setAttack_1 : decode cX9_setAttack 1 = .ok (.iload_n 1, 1) := by decide +kernel
theorem dX9_setAttack_2 : decode cX9_setAttack 2 = .ok (.invokevirtual 121, 3) := by decide +kernel
theorem dX9_setAttack_5 : decode cX9_setAttack 5 = .ok (.ifCond .ne 6, 3) := by decide +kernel
theorem dX9_setAttack_8 : decode cX9_setAttack 8 = .ok (.bipush (-2), 2) := by decide +kernel
theorem dX9_setAttack_10 : decode cX9_setAttack 10 = .ok (.ireturn, 1) := by decide +kernel
theorem dX9_setAttack_11 : decode cX9_setAttack 11 = .ok (.aload_n 0, 1) := by decide +kernel
theorem dX9_setAttack_12 : decode cX9_setAttack 12 = .ok (.invokevirtual 59, 3) := by decide +kernel
theorem dX9_setAttack_15 : decode cX9_setAttack 15 = .ok (.aload_n 0, 1) := by decide +kernel
theorem dX9_setAttack_16 : decode cX9_setAttack 16 = .ok (.getfield 7, 3) := by decide +kernel
theorem dX9_setAttack_19 : decode cX9_setAttack 19 = .ok (.bipush 81, 2) := by decide +kernel
theorem dX9_setAttack_21 : decode cX9_setAttack 21 = .ok (.iload_n 1, 1) := by decide +kernel
theorem dX9_setAttack_22 : decode cX9_setAttack 22 = .ok (.iastore, 1) := by decide +kernel
theorem dX9_setAttack_23 : decode cX9_setAttack 23 = .ok (.aload_n 0, 1) := by decide +kernel
theorem dX9_setAttack_24 : decode cX9_setAttack 24 = .ok (.iload_n 1, 1) := by decide +kernel
theorem dX9_setAttack_25 : decode cX9_setAttack 25 = .ok (.invokevirtual 118, 3) := by decide +kernel
theorem dX9_setAttack_28 : decode cX9_setAttack 28 = .ok (.ireturn, 1) := by decide +kernel
theorem dX9_lengthOf_0 : decode cX9_lengthOf 0 = .ok (.iload_n 2, 1) := by decide +kernel
theorem dX9_lengthOf_1 : decode cX9_lengthOf 1 = .ok (.iload_n 1, 1) := by decide +kernel
theorem dX9_lengthOf_2 : decode cX9_lengthOf 2 = .ok (.invokestatic 42, 3) := by decide +kernel
theorem dX9_lengthOf_5 : decode cX9_lengthOf 5 = .ok (.ifCond .ne 10, 3) := by decide +kernel
theorem dX9_lengthOf_8 : decode cX9_lengthOf 8 = .ok (.aload_n 0, 1) := by decide +kernel
theorem dX9_lengthOf_9 : decode cX9_lengthOf 9 = .ok (.iload_n 1, 1) := by decide +kernel
theorem dX9_lengthOf_10 : decode cX9_lengthOf 10 = .ok (.iconst 2, 1) := by decide +kernel
theorem dX9_lengthOf_11 : decode cX9_lengthOf 11 = .ok (.invokevirtual 46, 3) := by decide +kernel
theorem dX9_lengthOf_14 : decode cX9_lengthOf 14 = .ok (.ireturn, 1) := by decide +kernel
theorem dX9_lengthOf_15 : decode cX9_lengthOf 15 = .ok (.aload_n 0, 1) := by decide +kernel
theorem dX9_lengthOf_16 : decode cX9_lengthOf 16 = .ok (.iload_n 1, 1) := by decide +kernel
theorem dX9_lengthOf_17 : decode cX9_lengthOf 17 = .ok (.iconst 3, 1) := by decide +kernel
theorem dX9_lengthOf_18 : decode cX9_lengthOf 18 = .ok (.invokevirtual 46, 3) := by decide +kernel
theorem dX9_lengthOf_21 : decode cX9_lengthOf 21 = .ok (.bipush 100, 2) := by decide +kernel
theorem dX9_lengthOf_23 : decode cX9_lengthOf 23 = .ok (.if_icmp .ne 9, 3) := by decide +kernel
theorem dX9_lengthOf_26 : decode cX9_lengthOf 26 = .ok (.sipush 9999, 3) := by decide +kernel
theorem dX9_lengthOf_29 : decode cX9_lengthOf 29 = .ok (.goto 16, 3) := by decide +kernel
theorem dX9_lengthOf_32 : decode cX9_lengthOf 32 = .ok (.aload_n 0, 1) := by decide +kernel
theorem dX9_lengthOf_33 : decode cX9_lengthOf 33 = .ok (.iload_n 1, 1) := by decide +kernel
theorem dX9_lengthOf_34 : decode cX9_lengthOf 34 = .ok (.iconst 2, 1) := by decide +kernel
theorem dX9_lengthOf_35 : decode cX9_lengthOf 35 = .ok (.invokevirtual 46, 3) := by decide +kernel
theorem dX9_lengthOf_38 : decode cX9_lengthOf 38 = .ok (.aload_n 0, 1) := by decide +kernel
theorem dX9_lengthOf_39 : decode cX9_lengthOf 39 = .ok (.iload_n 1, 1) := by decide +kernel
theorem dX9_lengthOf_40 : decode cX9_lengthOf 40 = .ok (.iconst 3, 1) := by decide +kernel
theorem dX9_lengthOf_41 : decode cX9_lengthOf 41 = .ok (.invokevirtual 46, 3) := by decide +kernel
theorem dX9_lengthOf_44 : decode cX9_lengthOf 44 = .ok (.iadd, 1) := by decide +kernel
theorem dX9_lengthOf_45 : decode cX9_lengthOf 45 = .ok (.ireturn, 1) := by decide +kernel
theorem dX9_lessens_0 : decode cX9_lessens 0 = .ok (.iload_n 2, 1) := by decide +kernel
theorem dX9_lessens_1 : decode cX9_lessens 1 = .ok (.aload_n 0, 1) := by decide +kernel
theorem dX9_lessens_2 : decode cX9_lessens 2 = .ok (.getfield 26, 3) := by decide +kernel
theorem dX9_lessens_5 : decode cX9_lessens 5 = .ok (.iload_n 1, 1) := by decide +kernel
theorem dX9_lessens_6 : decode cX9_lessens 6 = .ok (.iaload, 1) := by decide +kernel
theorem dX9_lessens_7 : decode cX9_lessens 7 = .ok (.if_icmp .ge 7, 3) := by decide +kernel
theorem dX9_lessens_10 : decode cX9_lessens 10 = .ok (.iconst 1, 1) := by decide +kernel
theorem dX9_lessens_11 : decode cX9_lessens 11 = .ok (.goto 4, 3) := by decide +kernel
theorem dX9_lessens_14 : decode cX9_lessens 14 = .ok (.iconst 0, 1) := by decide +kernel
theorem dX9_lessens_15 : decode cX9_lessens 15 = .ok (.istore_n 3, 1) := by decide +kernel
theorem dX9_lessens_16 : decode cX9_lessens 16 = .ok (.aload_n 0, 1) := by decide +kernel
theorem dX9_lessens_17 : decode cX9_lessens 17 = .ok (.getfield 26, 3) := by decide +kernel
theorem dX9_lessens_20 : decode cX9_lessens 20 = .ok (.iload_n 1, 1) := by decide +kernel
theorem dX9_lessens_21 : decode cX9_lessens 21 = .ok (.iload_n 3, 1) := by decide +kernel
theorem dX9_lessens_22 : decode cX9_lessens 22 = .ok (.ifCond .eq 7, 3) := by decide +kernel
theorem dX9_lessens_25 : decode cX9_lessens 25 = .ok (.iload_n 2, 1) := by decide +kernel
theorem dX9_lessens_26 : decode cX9_lessens 26 = .ok (.goto 9, 3) := by decide +kernel
theorem dX9_lessens_29 : decode cX9_lessens 29 = .ok (.aload_n 0, 1) := by decide +kernel
theorem dX9_lessens_30 : decode cX9_lessens 30 = .ok (.getfield 26, 3) := by decide +kernel
theorem dX9_lessens_33 : decode cX9_lessens 33 = .ok (.iload_n 1, 1) := by decide +kernel
theorem dX9_lessens_34 : decode cX9_lessens 34 = .ok (.iaload, 1) := by decide +kernel
theorem dX9_lessens_35 : decode cX9_lessens 35 = .ok (.iastore, 1) := by decide +kernel
theorem dX9_lessens_36 : decode cX9_lessens 36 = .ok (.iload_n 3, 1) := by decide +kernel
theorem dX9_lessens_37 : decode cX9_lessens 37 = .ok (.ireturn, 1) := by decide +kernel
theorem dX9_ways_0 : decode cX9_ways 0 = .ok (.iconst 0, 1) := by decide +kernel
theorem dX9_ways_1 : decode cX9_ways 1 = .ok (.istore 4, 2) := by decide +kernel
theorem dX9_ways_3 : decode cX9_ways 3 = .ok (.iload 4, 2) := by decide +kernel
theorem dX9_ways_5 : decode cX9_ways 5 = .ok (.bipush 32, 2) := by decide +kernel
theorem dX9_ways_7 : decode cX9_ways 7 = .ok (.if_icmp .ge 19, 3) := by decide +kernel
theorem dX9_ways_10 : decode cX9_ways 10 = .ok (.aload_n 0, 1) := by decide +kernel
theorem dX9_ways_11 : decode cX9_ways 11 = .ok (.getfield 26, 3) := by decide +kernel
theorem dX9_ways_14 : decode cX9_ways 14 = .ok (.iload 4, 2) := by decide +kernel
theorem dX9_ways_16 : decode cX9_ways 16 = .ok (.sipush 9999, 3) := by decide +kernel
theorem dX9_ways_19 : decode cX9_ways 19 = .ok (.iastore, 1) := by decide +kernel
theorem dX9_ways_20 : decode cX9_ways 20 = .ok (.iinc 4 1, 3) := by decide +kernel
theorem dX9_ways_23 : decode cX9_ways 23 = .ok (.goto (-20), 3) := by decide +kernel
theorem dX9_ways_26 : decode cX9_ways 26 = .ok (.aload_n 0, 1) := by decide +kernel
theorem dX9_ways_27 : decode cX9_ways 27 = .ok (.getfield 26, 3) := by decide +kernel
theorem dX9_ways_30 : decode cX9_ways 30 = .ok (.iconst 4, 1) := by decide +kernel
theorem dX9_ways_31 : decode cX9_ways 31 = .ok (.iload_n 1, 1) := by decide +kernel
theorem dX9_ways_32 : decode cX9_ways 32 = .ok (.imul, 1) := by decide +kernel
theorem dX9_ways_33 : decode cX9_ways 33 = .ok (.iconst 0, 1) := by decide +kernel
theorem dX9_ways_34 : decode cX9_ways 34 = .ok (.iastore, 1) := by decide +kernel
theorem dX9_ways_35 : decode cX9_ways 35 = .ok (.iconst 1, 1) := by decide +kernel
theorem dX9_ways_36 : decode cX9_ways 36 = .ok (.istore 4, 2) := by decide +kernel
theorem dX9_ways_38 : decode cX9_ways 38 = .ok (.iload 4, 2) := by decide +kernel
theorem dX9_ways_40 : decode cX9_ways 40 = .ok (.ifCond .eq 189, 3) := by decide +kernel
theorem dX9_ways_43 : decode cX9_ways 43 = .ok (.iconst 0, 1) := by decide +kernel
theorem dX9_ways_44 : decode cX9_ways 44 = .ok (.istore 4, 2) := by decide +kernel
theorem dX9_ways_46 : decode cX9_ways 46 = .ok (.iconst 0, 1) := by decide +kernel
theorem dX9_ways_47 : decode cX9_ways 47 = .ok (.istore 5, 2) := by decide +kernel
theorem dX9_ways_49 : decode cX9_ways 49 = .ok (.iload 5, 2) := by decide +kernel
theorem dX9_ways_51 : decode cX9_ways 51 = .ok (.aload_n 0, 1) := by decide +kernel
theorem dX9_ways_52 : decode cX9_ways 52 = .ok (.getfield 7, 3) := by decide +kernel
theorem dX9_ways_55 : decode cX9_ways 55 = .ok (.bipush 80, 2) := by decide +kernel
theorem dX9_ways_57 : decode cX9_ways 57 = .ok (.iaload, 1) := by decide +kernel
theorem dX9_ways_58 : decode cX9_ways 58 = .ok (.if_icmp .ge 168, 3) := by decide +kernel
theorem dX9_ways_61 : decode cX9_ways 61 = .ok (.iconst 0, 1) := by decide +kernel
theorem dX9_ways_62 : decode cX9_ways 62 = .ok (.istore 6, 2) := by decide +kernel
theorem dX9_ways_64 : decode cX9_ways 64 = .ok (.iload 6, 2) := by decide +kernel
theorem dX9_ways_66 : decode cX9_ways 66 = .ok (.iload_n 3, 1) := by decide +kernel
theorem dX9_ways_67 : decode cX9_ways 67 = .ok (.if_icmp .gt 153, 3) := by decide +kernel
theorem dX9_ways_70 : decode cX9_ways 70 = .ok (.aload_n 0, 1) := by decide +kernel
theorem dX9_ways_71 : decode cX9_ways 71 = .ok (.getfield 26, 3) := by decide +kernel
theorem dX9_ways_74 : decode cX9_ways 74 = .ok (.iconst 4, 1) := by decide +kernel
theorem dX9_ways_75 : decode cX9_ways 75 = .ok (.aload_n 0, 1) := by decide +kernel
theorem dX9_ways_76 : decode cX9_ways 76 = .ok (.iload 5, 2) := by decide +kernel
theorem dX9_ways_78 : decode cX9_ways 78 = .ok (.iconst 0, 1) := by decide +kernel
theorem dX9_ways_79 : decode cX9_ways 79 = .ok (.invokevirtual 46, 3) := by decide +kernel
theorem dX9_ways_82 : decode cX9_ways 82 = .ok (.imul, 1) := by decide +kernel
theorem dX9_ways_83 : decode cX9_ways 83 = .ok (.iload 6, 2) := by decide +kernel
theorem dX9_ways_85 : decode cX9_ways 85 = .ok (.iadd, 1) := by decide +kernel
theorem dX9_ways_86 : decode cX9_ways 86 = .ok (.iaload, 1) := by decide +kernel
theorem dX9_ways_87 : decode cX9_ways 87 = .ok (.istore 7, 2) := by decide +kernel
theorem dX9_ways_89 : decode cX9_ways 89 = .ok (.iconst 4, 1) := by decide +kernel
theorem dX9_ways_90 : decode cX9_ways 90 = .ok (.aload_n 0, 1) := by decide +kernel
theorem dX9_ways_91 : decode cX9_ways 91 = .ok (.iload 5, 2) := by decide +kernel
theorem dX9_ways_93 : decode cX9_ways 93 = .ok (.iconst 1, 1) := by decide +kernel
theorem dX9_ways_94 : decode cX9_ways 94 = .ok (.invokevirtual 46, 3) := by decide +kernel
theorem dX9_ways_97 : decode cX9_ways 97 = .ok (.imul, 1) := by decide +kernel
theorem dX9_ways_98 : decode cX9_ways 98 = .ok (.iload 6, 2) := by decide +kernel
theorem dX9_ways_100 : decode cX9_ways 100 = .ok (.iadd, 1) := by decide +kernel
theorem dX9_ways_101 : decode cX9_ways 101 = .ok (.istore 8, 2) := by decide +kernel
theorem dX9_ways_103 : decode cX9_ways 103 = .ok (.iload 7, 2) := by decide +kernel
theorem dX9_ways_105 : decode cX9_ways 105 = .ok (.sipush 9999, 3) := by decide +kernel
theorem dX9_ways_108 : decode cX9_ways 108 = .ok (.if_icmp .ge 39, 3) := by decide +kernel
theorem dX9_ways_111 : decode cX9_ways 111 = .ok (.aload_n 0, 1) := by decide +kernel
theorem dX9_ways_112 : decode cX9_ways 112 = .ok (.iload 5, 2) := by decide +kernel
theorem dX9_ways_114 : decode cX9_ways 114 = .ok (.iload_n 2, 1) := by decide +kernel
theorem dX9_ways_115 : decode cX9_ways 115 = .ok (.invokevirtual 124, 3) := by decide +kernel
theorem dX9_ways_118 : decode cX9_ways 118 = .ok (.sipush 9999, 3) := by decide +kernel
theorem dX9_ways_121 : decode cX9_ways 121 = .ok (.if_icmp .ge 26, 3) := by decide +kernel
theorem dX9_ways_124 : decode cX9_ways 124 = .ok (.aload_n 0, 1) := by decide +kernel
theorem dX9_ways_125 : decode cX9_ways 125 = .ok (.iload 8, 2) := by decide +kernel
theorem dX9_ways_127 : decode cX9_ways 127 = .ok (.iload 7, 2) := by decide +kernel
theorem dX9_ways_129 : decode cX9_ways 129 = .ok (.aload_n 0, 1) := by decide +kernel
theorem dX9_ways_130 : decode cX9_ways 130 = .ok (.iload 5, 2) := by decide +kernel
theorem dX9_ways_132 : decode cX9_ways 132 = .ok (.iload_n 2, 1) := by decide +kernel
theorem dX9_ways_133 : decode cX9_ways 133 = .ok (.invokevirtual 124, 3) := by decide +kernel
theorem dX9_ways_136 : decode cX9_ways 136 = .ok (.iadd, 1) := by decide +kernel
theorem dX9_ways_137 : decode cX9_ways 137 = .ok (.invokevirtual 127, 3) := by decide +kernel
theorem dX9_ways_140 : decode cX9_ways 140 = .ok (.ifCond .eq 7, 3) := by decide +kernel
theorem dX9_ways_143 : decode cX9_ways 143 = .ok (.iconst 1, 1) := by decide +kernel
theorem dX9_ways_144 : decode cX9_ways 144 = .ok (.goto 4, 3) := by decide +kernel
theorem dX9_ways_147 : decode cX9_ways 147 = .ok (.iconst 0, 1) := by decide +kernel
theorem dX9_ways_148 : decode cX9_ways 148 = .ok (.istore 9, 2) := by decide +kernel
theorem dX9_ways_150 : decode cX9_ways 150 = .ok (.iload 7, 2) := by decide +kernel
theorem dX9_ways_152 : decode cX9_ways 152 = .ok (.sipush 9999, 3) := by decide +kernel
theorem dX9_ways_155 : decode cX9_ways 155 = .ok (.if_icmp .ge 34, 3) := by decide +kernel
theorem dX9_ways_158 : decode cX9_ways 158 = .ok (.iload 6, 2) := by decide +kernel
theorem dX9_ways_160 : decode cX9_ways 160 = .ok (.iload_n 3, 1) := by decide +kernel
theorem dX9_ways_161 : decode cX9_ways 161 = .ok (.if_icmp .ge 28, 3) := by decide +kernel
theorem dX9_ways_164 : decode cX9_ways 164 = .ok (.aload_n 0, 1) := by decide +kernel
theorem dX9_ways_165 : decode cX9_ways 165 = .ok (.iload 8, 2) := by decide +kernel
theorem dX9_ways_167 : decode cX9_ways 167 = .ok (.iconst 1, 1) := by decide +kernel
theorem dX9_ways_168 : decode cX9_ways 168 = .ok (.iadd, 1) := by decide +kernel
theorem dX9_ways_169 : decode cX9_ways 169 = .ok (.iload 7, 2) := by decide +kernel
theorem dX9_ways_171 : decode cX9_ways 171 = .ok (.aload_n 0, 1) := by decide +kernel
theorem dX9_ways_172 : decode cX9_ways 172 = .ok (.iload 5, 2) := by decide +kernel
theorem dX9_ways_174 : decode cX9_ways 174 = .ok (.iconst 2, 1) := by decide +kernel
theorem dX9_ways_175 : decode cX9_ways 175 = .ok (.invokevirtual 46, 3) := by decide +kernel
theorem dX9_ways_178 : decode cX9_ways 178 = .ok (.iadd, 1) := by decide +kernel
theorem dX9_ways_179 : decode cX9_ways 179 = .ok (.invokevirtual 127, 3) := by decide +kernel
theorem dX9_ways_182 : decode cX9_ways 182 = .ok (.ifCond .eq 7, 3) := by decide +kernel
theorem dX9_ways_185 : decode cX9_ways 185 = .ok (.iconst 1, 1) := by decide +kernel
theorem dX9_ways_186 : decode cX9_ways 186 = .ok (.goto 4, 3) := by decide +kernel
theorem dX9_ways_189 : decode cX9_ways 189 = .ok (.iconst 0, 1) := by decide +kernel
theorem dX9_ways_190 : decode cX9_ways 190 = .ok (.istore 10, 2) := by decide +kernel
theorem dX9_ways_192 : decode cX9_ways 192 = .ok (.iload 4, 2) := by decide +kernel
theorem dX9_ways_194 : decode cX9_ways 194 = .ok (.ifCond .ne 13, 3) := by decide +kernel
theorem dX9_ways_197 : decode cX9_ways 197 = .ok (.iload 9, 2) := by decide +kernel
theorem dX9_ways_199 : decode cX9_ways 199 = .ok (.ifCond .ne 8, 3) := by decide +kernel
theorem dX9_ways_202 : decode cX9_ways 202 = .ok (.iload 10, 2) := by decide +kernel
theorem dX9_ways_204 : decode cX9_ways 204 = .ok (.ifCond .eq 7, 3) := by decide +kernel
theorem dX9_ways_207 : decode cX9_ways 207 = .ok (.iconst 1, 1) := by decide +kernel
theorem dX9_ways_208 : decode cX9_ways 208 = .ok (.goto 4, 3) := by decide +kernel
theorem dX9_ways_211 : decode cX9_ways 211 = .ok (.iconst 0, 1) := by decide +kernel
theorem dX9_ways_212 : decode cX9_ways 212 = .ok (.istore 4, 2) := by decide +kernel
theorem dX9_ways_214 : decode cX9_ways 214 = .ok (.iinc 6 1, 3) := by decide +kernel
theorem dX9_ways_217 : decode cX9_ways 217 = .ok (.goto (-153), 3) := by decide +kernel
theorem dX9_ways_220 : decode cX9_ways 220 = .ok (.iinc 5 1, 3) := by decide +kernel
theorem dX9_ways_223 : decode cX9_ways 223 = .ok (.goto (-174), 3) := by decide +kernel
theorem dX9_ways_226 : decode cX9_ways 226 = .ok (.goto (-188), 3) := by decide +kernel
theorem dX9_ways_229 : decode cX9_ways 229 = .ok (.return_, 1) := by decide +kernel
theorem dX9_far_0 : decode cX9_far 0 = .ok (.aload_n 0, 1) := by decide +kernel
theorem dX9_far_1 : decode cX9_far 1 = .ok (.iload_n 1, 1) := by decide +kernel
theorem dX9_far_2 : decode cX9_far 2 = .ok (.iload_n 3, 1) := by decide +kernel
theorem dX9_far_3 : decode cX9_far 3 = .ok (.iload 4, 2) := by decide +kernel
theorem dX9_far_5 : decode cX9_far 5 = .ok (.invokevirtual 130, 3) := by decide +kernel
theorem dX9_far_8 : decode cX9_far 8 = .ok (.sipush 9999, 3) := by decide +kernel
theorem dX9_far_11 : decode cX9_far 11 = .ok (.istore 5, 2) := by decide +kernel
theorem dX9_far_13 : decode cX9_far 13 = .ok (.iconst 0, 1) := by decide +kernel
theorem dX9_far_14 : decode cX9_far 14 = .ok (.istore 6, 2) := by decide +kernel
theorem dX9_far_16 : decode cX9_far 16 = .ok (.iload 6, 2) := by decide +kernel
theorem dX9_far_18 : decode cX9_far 18 = .ok (.iload 4, 2) := by decide +kernel
theorem dX9_far_20 : decode cX9_far 20 = .ok (.if_icmp .gt 43, 3) := by decide +kernel
theorem dX9_far_23 : decode cX9_far 23 = .ok (.aload_n 0, 1) := by decide +kernel
theorem dX9_far_24 : decode cX9_far 24 = .ok (.getfield 26, 3) := by decide +kernel
theorem dX9_far_27 : decode cX9_far 27 = .ok (.iconst 4, 1) := by decide +kernel
theorem dX9_far_28 : decode cX9_far 28 = .ok (.iload_n 2, 1) := by decide +kernel
theorem dX9_far_29 : decode cX9_far 29 = .ok (.imul, 1) := by decide +kernel
theorem dX9_far_30 : decode cX9_far 30 = .ok (.iload 6, 2) := by decide +kernel
theorem dX9_far_32 : decode cX9_far 32 = .ok (.iadd, 1) := by decide +kernel
theorem dX9_far_33 : decode cX9_far 33 = .ok (.iaload, 1) := by decide +kernel
theorem dX9_far_34 : decode cX9_far 34 = .ok (.iload 5, 2) := by decide +kernel
theorem dX9_far_36 : decode cX9_far 36 = .ok (.if_icmp .ge 17, 3) := by decide +kernel
theorem dX9_far_39 : decode cX9_far 39 = .ok (.aload_n 0, 1) := by decide +kernel
theorem dX9_far_40 : decode cX9_far 40 = .ok (.getfield 26, 3) := by decide +kernel
theorem dX9_far_43 : decode cX9_far 43 = .ok (.iconst 4, 1) := by decide +kernel
theorem dX9_far_44 : decode cX9_far 44 = .ok (.iload_n 2, 1) := by decide +kernel
theorem dX9_far_45 : decode cX9_far 45 = .ok (.imul, 1) := by decide +kernel
theorem dX9_far_46 : decode cX9_far 46 = .ok (.iload 6, 2) := by decide +kernel
theorem dX9_far_48 : decode cX9_far 48 = .ok (.iadd, 1) := by decide +kernel
theorem dX9_far_49 : decode cX9_far 49 = .ok (.iaload, 1) := by decide +kernel
theorem dX9_far_50 : decode cX9_far 50 = .ok (.goto 5, 3) := by decide +kernel
theorem dX9_far_53 : decode cX9_far 53 = .ok (.iload 5, 2) := by decide +kernel
theorem dX9_far_55 : decode cX9_far 55 = .ok (.istore 5, 2) := by decide +kernel
theorem dX9_far_57 : decode cX9_far 57 = .ok (.iinc 6 1, 3) := by decide +kernel
theorem dX9_far_60 : decode cX9_far 60 = .ok (.goto (-44), 3) := by decide +kernel
theorem dX9_far_63 : decode cX9_far 63 = .ok (.iload 5, 2) := by decide +kernel
theorem dX9_far_65 : decode cX9_far 65 = .ok (.ireturn, 1) := by decide +kernel
theorem dX9_distance_0 : decode cX9_distance 0 = .ok (.iload_n 1, 1) := by decide +kernel
theorem dX9_distance_1 : decode cX9_distance 1 = .ok (.iload_n 2, 1) := by decide +kernel
theorem dX9_distance_2 : decode cX9_distance 2 = .ok (.invokestatic 53, 3) := by decide +kernel
theorem dX9_distance_5 : decode cX9_distance 5 = .ok (.ifCond .eq 20, 3) := by decide +kernel
theorem dX9_distance_8 : decode cX9_distance 8 = .ok (.aload_n 0, 1) := by decide +kernel
theorem dX9_distance_9 : decode cX9_distance 9 = .ok (.iload_n 1, 1) := by decide +kernel
theorem dX9_distance_10 : decode cX9_distance 10 = .ok (.iload_n 2, 1) := by decide +kernel
theorem dX9_distance_11 : decode cX9_distance 11 = .ok (.aload_n 0, 1) := by decide +kernel
theorem dX9_distance_12 : decode cX9_distance 12 = .ok (.getfield 7, 3) := by decide +kernel
theorem dX9_distance_15 : decode cX9_distance 15 = .ok (.bipush 81, 2) := by decide +kernel
theorem dX9_distance_17 : decode cX9_distance 17 = .ok (.iaload, 1) := by decide +kernel
theorem dX9_distance_18 : decode cX9_distance 18 = .ok (.iconst 0, 1) := by decide +kernel
theorem dX9_distance_19 : decode cX9_distance 19 = .ok (.invokevirtual 134, 3) := by decide +kernel
theorem dX9_distance_22 : decode cX9_distance 22 = .ok (.goto 5, 3) := by decide +kernel
theorem dX9_distance_25 : decode cX9_distance 25 = .ok (.bipush (-2), 2) := by decide +kernel
theorem dX9_distance_27 : decode cX9_distance 27 = .ok (.ireturn, 1) := by decide +kernel
theorem dX9_starts_0 : decode cX9_starts 0 = .ok (.aload_n 0, 1) := by decide +kernel
theorem dX9_starts_1 : decode cX9_starts 1 = .ok (.iconst 0, 1) := by decide +kernel
theorem dX9_starts_2 : decode cX9_starts 2 = .ok (.putfield 138, 3) := by decide +kernel
theorem dX9_starts_5 : decode cX9_starts 5 = .ok (.aload_n 0, 1) := by decide +kernel
theorem dX9_starts_6 : decode cX9_starts 6 = .ok (.iconst 0, 1) := by decide +kernel
theorem dX9_starts_7 : decode cX9_starts 7 = .ok (.putfield 141, 3) := by decide +kernel
theorem dX9_starts_10 : decode cX9_starts 10 = .ok (.aload_n 0, 1) := by decide +kernel
theorem dX9_starts_11 : decode cX9_starts 11 = .ok (.iconst 1, 1) := by decide +kernel
theorem dX9_starts_12 : decode cX9_starts 12 = .ok (.iload_n 1, 1) := by decide +kernel
theorem dX9_starts_13 : decode cX9_starts 13 = .ok (.ishl, 1) := by decide +kernel
theorem dX9_starts_14 : decode cX9_starts 14 = .ok (.putfield 144, 3) := by decide +kernel
theorem dX9_starts_17 : decode cX9_starts 17 = .ok (.return_, 1) := by decide +kernel
theorem dX9_lastNode_0 : decode cX9_lastNode 0 = .ok (.aload_n 0, 1) := by decide +kernel
theorem dX9_lastNode_1 : decode cX9_lastNode 1 = .ok (.getfield 138, 3) := by decide +kernel
theorem dX9_lastNode_4 : decode cX9_lastNode 4 = .ok (.ifCond .ne 7, 3) := by decide +kernel
theorem dX9_lastNode_7 : decode cX9_lastNode 7 = .ok (.iload_n 1, 1) := by decide +kernel
theorem dX9_lastNode_8 : decode cX9_lastNode 8 = .ok (.goto 19, 3) := by decide +kernel
theorem dX9_lastNode_11 : decode cX9_lastNode 11 = .ok (.aload_n 0, 1) := by decide +kernel
theorem dX9_lastNode_12 : decode cX9_lastNode 12 = .ok (.aload_n 0, 1) := by decide +kernel
theorem dX9_lastNode_13 : decode cX9_lastNode 13 = .ok (.getfield 29, 3) := by decide +kernel
theorem dX9_lastNode_16 : decode cX9_lastNode 16 = .ok (.aload_n 0, 1) := by decide +kernel
theorem dX9_lastNode_17 : decode cX9_lastNode 17 = .ok (.getfield 138, 3) := by decide +kernel
theorem dX9_lastNode_20 : decode cX9_lastNode 20 = .ok (.iconst 1, 1) := by decide +kernel
theorem dX9_lastNode_21 : decode cX9_lastNode 21 = .ok (.isub, 1) := by decide +kernel
theorem dX9_lastNode_22 : decode cX9_lastNode 22 = .ok (.iaload, 1) := by decide +kernel
theorem dX9_lastNode_23 : decode cX9_lastNode 23 = .ok (.iconst 1, 1) := by decide +kernel
theorem dX9_lastNode_24 : decode cX9_lastNode 24 = .ok (.invokevirtual 46, 3) := by decide +kernel
theorem dX9_lastNode_27 : decode cX9_lastNode 27 = .ok (.ireturn, 1) := by decide +kernel
theorem dX9_back_0 : decode cX9_back 0 = .ok (.aload_n 0, 1) := by decide +kernel
theorem dX9_back_1 : decode cX9_back 1 = .ok (.dup, 1) := by decide +kernel
theorem dX9_back_2 : decode cX9_back 2 = .ok (.getfield 138, 3) := by decide +kernel
theorem dX9_back_5 : decode cX9_back 5 = .ok (.iconst 1, 1) := by decide +kernel
theorem dX9_back_6 : decode cX9_back 6 = .ok (.isub, 1) := by decide +kernel
theorem dX9_back_7 : decode cX9_back 7 = .ok (.putfield 138, 3) := by decide +kernel
theorem dX9_back_10 : decode cX9_back 10 = .ok (.aload_n 0, 1) := by decide +kernel
theorem dX9_back_11 : decode cX9_back 11 = .ok (.getfield 29, 3) := by decide +kernel
theorem dX9_back_14 : decode cX9_back 14 = .ok (.aload_n 0, 1) := by decide +kernel
theorem dX9_back_15 : decode cX9_back 15 = .ok (.getfield 138, 3) := by decide +kernel
theorem dX9_back_18 : decode cX9_back 18 = .ok (.iaload, 1) := by decide +kernel
theorem dX9_back_19 : decode cX9_back 19 = .ok (.istore_n 1, 1) := by decide +kernel
theorem dX9_back_20 : decode cX9_back 20 = .ok (.aload_n 0, 1) := by decide +kernel
theorem dX9_back_21 : decode cX9_back 21 = .ok (.dup, 1) := by decide +kernel
theorem dX9_back_22 : decode cX9_back 22 = .ok (.getfield 141, 3) := by decide +kernel
theorem dX9_back_25 : decode cX9_back 25 = .ok (.aload_n 0, 1) := by decide +kernel
theorem dX9_back_26 : decode cX9_back 26 = .ok (.iload_n 1, 1) := by decide +kernel
theorem dX9_back_27 : decode cX9_back 27 = .ok (.aload_n 0, 1) := by decide +kernel
theorem dX9_back_28 : decode cX9_back 28 = .ok (.getfield 7, 3) := by decide +kernel
theorem dX9_back_31 : decode cX9_back 31 = .ok (.bipush 81, 2) := by decide +kernel
theorem dX9_back_33 : decode cX9_back 33 = .ok (.iaload, 1) := by decide +kernel
theorem dX9_back_34 : decode cX9_back 34 = .ok (.invokevirtual 124, 3) := by decide +kernel
theorem dX9_back_37 : decode cX9_back 37 = .ok (.isub, 1) := by decide +kernel
theorem dX9_back_38 : decode cX9_back 38 = .ok (.putfield 141, 3) := by decide +kernel
theorem dX9_back_41 : decode cX9_back 41 = .ok (.aload_n 0, 1) := by decide +kernel
theorem dX9_back_42 : decode cX9_back 42 = .ok (.aload_n 0, 1) := by decide +kernel
theorem dX9_back_43 : decode cX9_back 43 = .ok (.getfield 144, 3) := by decide +kernel
theorem dX9_back_46 : decode cX9_back 46 = .ok (.iconst 1, 1) := by decide +kernel
theorem dX9_back_47 : decode cX9_back 47 = .ok (.aload_n 0, 1) := by decide +kernel
theorem dX9_back_48 : decode cX9_back 48 = .ok (.iload_n 1, 1) := by decide +kernel
theorem dX9_back_49 : decode cX9_back 49 = .ok (.iconst 1, 1) := by decide +kernel
theorem dX9_back_50 : decode cX9_back 50 = .ok (.invokevirtual 46, 3) := by decide +kernel
theorem dX9_back_53 : decode cX9_back 53 = .ok (.ishl, 1) := by decide +kernel
theorem dX9_back_54 : decode cX9_back 54 = .ok (.iconst (-1), 1) := by decide +kernel
theorem dX9_back_55 : decode cX9_back 55 = .ok (.ixor, 1) := by decide +kernel
theorem dX9_back_56 : decode cX9_back 56 = .ok (.iand, 1) := by decide +kernel
theorem dX9_back_57 : decode cX9_back 57 = .ok (.putfield 144, 3) := by decide +kernel
theorem dX9_back_60 : decode cX9_back 60 = .ok (.return_, 1) := by decide +kernel
