/-! links of fields, constants -/
set_option maxRecDepth 20000 in
theorem fl_X2_9 : fl_ok RX2 9 2 0 := ⟨RX2, TX2, 3, rfl, by decide, igX2, Or.inl (ly_in 83 (by decide +kernel) (by decide +kernel))⟩
set_option maxRecDepth 20000 in
theorem fl_X5_65 : fl_ok RX5 65 2 0 := ⟨RX2, TX2, 3, rfl, by decide, igX2, Or.inl (ly_in 84 (by decide +kernel) (by decide +kernel))⟩
set_option maxRecDepth 20000 in
theorem fl_X2_15 : fl_ok RX2 15 2 1 := ⟨RX2, TX2, 3, rfl, by decide, igX2, Or.inl (ly_in 85 (by decide +kernel) (by decide +kernel))⟩
theorem fp_X2_15 : fp_ok RX2 15 2 1 .int := ⟨RX2, TX2, 3, tyX2, rfl, by decide, igX2, Or.inl (ly_in 85 (by decide +kernel) (by decide +kernel)), tyX2_ok, nmX2, by decide, by decide +kernel⟩
set_option maxRecDepth 20000 in
theorem fl_X3_29 : fl_ok RX3 29 2 1 := ⟨RX2, TX2, 3, rfl, by decide, igX2, Or.inl (ly_in 86 (by decide +kernel) (by decide +kernel))⟩
theorem fp_X3_29 : fp_ok RX3 29 2 1 .int := ⟨RX2, TX2, 3, tyX2, rfl, by decide, igX2, Or.inl (ly_in 86 (by decide +kernel) (by decide +kernel)), tyX2_ok, nmX2, by decide, by decide +kernel⟩
set_option maxRecDepth 20000 in
theorem fl_X8_82 : fl_ok RX8 82 2 1 := ⟨RX2, TX2, 3, rfl, by decide, igX2, Or.inl (ly_in 87 (by decide +kernel) (by decide +kernel))⟩
theorem fp_X8_82 : fp_ok RX8 82 2 1 .int := ⟨RX2, TX2, 3, tyX2, rfl, by decide, igX2, Or.inl (ly_in 87 (by decide +kernel) (by decide +kernel)), tyX2_ok, nmX2, by decide, by decide +kernel⟩
set_option maxRecDepth 20000 in
theorem fl_X1_54 : fl_ok RX1 54 2 1 := ⟨RX2, TX2, 3, rfl, by decide, igX2, Or.inl (ly_in 88 (by decide +kernel) (by decide +kernel))⟩
theorem fp_X1_54 : fp_ok RX1 54 2 1 .int := ⟨RX2, TX2, 3, tyX2, rfl, by decide, igX2, Or.inl (ly_in 88 (by decide +kernel) (by decide +kernel)), tyX2_ok, nmX2, by decide, by decide +kernel⟩
set_option maxRecDepth 20000 in
theorem fl_X0_75 : fl_ok RX0 75 2 1 := ⟨RX2, TX2, 3, rfl, by decide, igX2, Or.inl (ly_in 89 (by decide +kernel) (by decide +kernel))⟩
theorem fp_X0_75 : fp_ok RX0 75 2 1 .int := ⟨RX2, TX2, 3, tyX2, rfl, by decide, igX2, Or.inl (ly_in 89 (by decide +kernel) (by decide +kernel)), tyX2_ok, nmX2, by decide, by decide +kernel⟩
set_option maxRecDepth 20000 in
theorem fl_X5_61 : fl_ok RX5 61 2 1 := ⟨RX2, TX2, 3, rfl, by decide, igX2, Or.inl (ly_in 90 (by decide +kernel) (by decide +kernel))⟩
theorem fp_X5_61 : fp_ok RX5 61 2 1 .int := ⟨RX2, TX2, 3, tyX2, rfl, by decide, igX2, Or.inl (ly_in 90 (by decide +kernel) (by decide +kernel)), tyX2_ok, nmX2, by decide, by decide +kernel⟩
set_option maxRecDepth 20000 in
theorem fl_X7_75 : fl_ok RX7 75 2 1 := ⟨RX2, TX2, 3, rfl, by decide, igX2, Or.inl (ly_in 91 (by decide +kernel) (by decide +kernel))⟩
theorem fp_X7_75 : fp_ok RX7 75 2 1 .int := ⟨RX2, TX2, 3, tyX2, rfl, by decide, igX2, Or.inl (ly_in 91 (by decide +kernel) (by decide +kernel)), tyX2_ok, nmX2, by decide, by decide +kernel⟩
set_option maxRecDepth 20000 in
theorem fl_X2_19 : fl_ok RX2 19 2 2 := ⟨RX2, TX2, 3, rfl, by decide, igX2, Or.inl (ly_in 92 (by decide +kernel) (by decide +kernel))⟩
theorem fp_X2_19 : fp_ok RX2 19 2 2 .int := ⟨RX2, TX2, 3, tyX2, rfl, by decide, igX2, Or.inl (ly_in 92 (by decide +kernel) (by decide +kernel)), tyX2_ok, nmX2, by decide, by decide +kernel⟩
set_option maxRecDepth 20000 in
theorem fl_X8_111 : fl_ok RX8 111 2 2 := ⟨RX2, TX2, 3, rfl, by decide, igX2, Or.inl (ly_in 93 (by decide +kernel) (by decide +kernel))⟩
theorem fp_X8_111 : fp_ok RX8 111 2 2 .int := ⟨RX2, TX2, 3, tyX2, rfl, by decide, igX2, Or.inl (ly_in 93 (by decide +kernel) (by decide +kernel)), tyX2_ok, nmX2, by decide, by decide +kernel⟩
set_option maxRecDepth 20000 in
theorem fl_X7_58 : fl_ok RX7 58 2 2 := ⟨RX2, TX2, 3, rfl, by decide, igX2, Or.inl (ly_in 94 (by decide +kernel) (by decide +kernel))⟩
theorem fp_X7_58 : fp_ok RX7 58 2 2 .int := ⟨RX2, TX2, 3, tyX2, rfl, by decide, igX2, Or.inl (ly_in 94 (by decide +kernel) (by decide +kernel)), tyX2_ok, nmX2, by decide, by decide +kernel⟩
set_option maxRecDepth 20000 in
theorem fl_X4_11 : fl_ok RX4 11 4 0 := ⟨RX4, TX4, 3, rfl, by decide, igX4, Or.inl (ly_in 109 (by decide +kernel) (by decide +kernel))⟩
set_option maxRecDepth 20000 in
theorem fl_X4_17 : fl_ok RX4 17 4 1 := ⟨RX4, TX4, 3, rfl, by decide, igX4, Or.inl (ly_in 110 (by decide +kernel) (by decide +kernel))⟩
theorem fp_X4_17 : fp_ok RX4 17 4 1 .int := ⟨RX4, TX4, 3, tyX4, rfl, by decide, igX4, Or.inl (ly_in 110 (by decide +kernel) (by decide +kernel)), tyX4_ok, nmX4, by decide, by decide +kernel⟩
set_option maxRecDepth 20000 in
theorem fl_X4_21 : fl_ok RX4 21 4 2 := ⟨RX4, TX4, 3, rfl, by decide, igX4, Or.inl (ly_in 111 (by decide +kernel) (by decide +kernel))⟩
theorem fp_X4_21 : fp_ok RX4 21 4 2 .int := ⟨RX4, TX4, 3, tyX4, rfl, by decide, igX4, Or.inl (ly_in 111 (by decide +kernel) (by decide +kernel)), tyX4_ok, nmX4, by decide, by decide +kernel⟩
set_option maxRecDepth 20000 in
theorem fl_X8_213 : fl_ok RX8 213 4 2 := ⟨RX4, TX4, 3, rfl, by decide, igX4, Or.inl (ly_in 112 (by decide +kernel) (by decide +kernel))⟩
theorem fp_X8_213 : fp_ok RX8 213 4 2 .int := ⟨RX4, TX4, 3, tyX4, rfl, by decide, igX4, Or.inl (ly_in 112 (by decide +kernel) (by decide +kernel)), tyX4_ok, nmX4, by decide, by decide +kernel⟩
set_option maxRecDepth 20000 in
theorem fl_X6_9 : fl_ok RX6 9 6 0 := ⟨RX6, TX6, 5, rfl, by decide, igX6, Or.inl (ly_in 126 (by decide +kernel) (by decide +kernel))⟩
set_option maxRecDepth 20000 in
theorem fl_X6_15 : fl_ok RX6 15 6 1 := ⟨RX6, TX6, 5, rfl, by decide, igX6, Or.inl (ly_in 127 (by decide +kernel) (by decide +kernel))⟩
set_option maxRecDepth 20000 in
theorem fl_X6_19 : fl_ok RX6 19 6 2 := ⟨RX6, TX6, 5, rfl, by decide, igX6, Or.inl (ly_in 128 (by decide +kernel) (by decide +kernel))⟩
theorem fp_X6_19 : fp_ok RX6 19 6 2 .int := ⟨RX6, TX6, 5, tyX6, rfl, by decide, igX6, Or.inl (ly_in 128 (by decide +kernel) (by decide +kernel)), tyX6_ok, nmX6, by decide, by decide +kernel⟩
set_option maxRecDepth 20000 in
theorem fl_X8_119 : fl_ok RX8 119 6 2 := ⟨RX6, TX6, 5, rfl, by decide, igX6, Or.inl (ly_in 129 (by decide +kernel) (by decide +kernel))⟩
theorem fp_X8_119 : fp_ok RX8 119 6 2 .int := ⟨RX6, TX6, 5, tyX6, rfl, by decide, igX6, Or.inl (ly_in 129 (by decide +kernel) (by decide +kernel)), tyX6_ok, nmX6, by decide, by decide +kernel⟩
set_option maxRecDepth 20000 in
theorem fl_X6_23 : fl_ok RX6 23 6 3 := ⟨RX6, TX6, 5, rfl, by decide, igX6, Or.inl (ly_in 130 (by decide +kernel) (by decide +kernel))⟩
theorem fp_X6_23 : fp_ok RX6 23 6 3 .int := ⟨RX6, TX6, 5, tyX6, rfl, by decide, igX6, Or.inl (ly_in 130 (by decide +kernel) (by decide +kernel)), tyX6_ok, nmX6, by decide, by decide +kernel⟩
set_option maxRecDepth 20000 in
theorem fl_X8_124 : fl_ok RX8 124 6 3 := ⟨RX6, TX6, 5, rfl, by decide, igX6, Or.inl (ly_in 131 (by decide +kernel) (by decide +kernel))⟩
theorem fp_X8_124 : fp_ok RX8 124 6 3 .int := ⟨RX6, TX6, 5, tyX6, rfl, by decide, igX6, Or.inl (ly_in 131 (by decide +kernel) (by decide +kernel)), tyX6_ok, nmX6, by decide, by decide +kernel⟩
set_option maxRecDepth 20000 in
theorem fl_X6_26 : fl_ok RX6 26 6 4 := ⟨RX6, TX6, 5, rfl, by decide, igX6, Or.inl (ly_in 132 (by decide +kernel) (by decide +kernel))⟩
theorem fp_X6_26 : fp_ok RX6 26 6 4 .int := ⟨RX6, TX6, 5, tyX6, rfl, by decide, igX6, Or.inl (ly_in 132 (by decide +kernel) (by decide +kernel)), tyX6_ok, nmX6, by decide, by decide +kernel⟩
set_option maxRecDepth 20000 in
theorem fl_X5_30 : fl_ok RX5 30 5 0 := ⟨RX5, TX5, 7, rfl, by decide, igX5, Or.inl (ly_in 151 (by decide +kernel) (by decide +kernel))⟩
set_option maxRecDepth 20000 in
theorem fl_X5_9 : fl_ok RX5 9 5 1 := ⟨RX5, TX5, 7, rfl, by decide, igX5, Or.inl (ly_in 152 (by decide +kernel) (by decide +kernel))⟩
set_option maxRecDepth 20000 in
theorem fl_X5_15 : fl_ok RX5 15 5 2 := ⟨RX5, TX5, 7, rfl, by decide, igX5, Or.inl (ly_in 153 (by decide +kernel) (by decide +kernel))⟩
set_option maxRecDepth 20000 in
theorem fl_X5_18 : fl_ok RX5 18 5 3 := ⟨RX5, TX5, 7, rfl, by decide, igX5, Or.inl (ly_in 154 (by decide +kernel) (by decide +kernel))⟩
set_option maxRecDepth 20000 in
theorem fl_X5_21 : fl_ok RX5 21 5 4 := ⟨RX5, TX5, 7, rfl, by decide, igX5, Or.inl (ly_in 155 (by decide +kernel) (by decide +kernel))⟩
set_option maxRecDepth 20000 in
theorem fl_X5_24 : fl_ok RX5 24 5 5 := ⟨RX5, TX5, 7, rfl, by decide, igX5, Or.inl (ly_in 156 (by decide +kernel) (by decide +kernel))⟩
set_option maxRecDepth 20000 in
theorem fl_X5_27 : fl_ok RX5 27 5 6 := ⟨RX5, TX5, 7, rfl, by decide, igX5, Or.inl (ly_in 157 (by decide +kernel) (by decide +kernel))⟩
set_option maxRecDepth 20000 in
theorem fl_X7_44 : fl_ok RX7 44 7 0 := ⟨RX7, TX7, 11, rfl, by decide, igX7, Or.inl (ly_in 179 (by decide +kernel) (by decide +kernel))⟩
set_option maxRecDepth 20000 in
theorem fl_X7_9 : fl_ok RX7 9 7 1 := ⟨RX7, TX7, 11, rfl, by decide, igX7, Or.inl (ly_in 180 (by decide +kernel) (by decide +kernel))⟩
set_option maxRecDepth 20000 in
theorem fl_X7_15 : fl_ok RX7 15 7 2 := ⟨RX7, TX7, 11, rfl, by decide, igX7, Or.inl (ly_in 181 (by decide +kernel) (by decide +kernel))⟩
set_option maxRecDepth 20000 in
theorem fl_X7_18 : fl_ok RX7 18 7 3 := ⟨RX7, TX7, 11, rfl, by decide, igX7, Or.inl (ly_in 182 (by decide +kernel) (by decide +kernel))⟩
theorem fp_X7_18 : fp_ok RX7 18 7 3 .int := ⟨RX7, TX7, 11, tyX7, rfl, by decide, igX7, Or.inl (ly_in 182 (by decide +kernel) (by decide +kernel)), tyX7_ok, nmX7, by decide, by decide +kernel⟩
set_option maxRecDepth 20000 in
theorem fl_X8_145 : fl_ok RX8 145 7 3 := ⟨RX7, TX7, 11, rfl, by decide, igX7, Or.inl (ly_in 183 (by decide +kernel) (by decide +kernel))⟩
theorem fp_X8_145 : fp_ok RX8 145 7 3 .int := ⟨RX7, TX7, 11, tyX7, rfl, by decide, igX7, Or.inl (ly_in 183 (by decide +kernel) (by decide +kernel)), tyX7_ok, nmX7, by decide, by decide +kernel⟩
set_option maxRecDepth 20000 in
theorem fl_X7_22 : fl_ok RX7 22 7 4 := ⟨RX7, TX7, 11, rfl, by decide, igX7, Or.inl (ly_in 184 (by decide +kernel) (by decide +kernel))⟩
set_option maxRecDepth 20000 in
theorem fl_X7_25 : fl_ok RX7 25 7 5 := ⟨RX7, TX7, 11, rfl, by decide, igX7, Or.inl (ly_in 185 (by decide +kernel) (by decide +kernel))⟩
theorem fp_X7_25 : fp_ok RX7 25 7 5 .int := ⟨RX7, TX7, 11, tyX7, rfl, by decide, igX7, Or.inl (ly_in 185 (by decide +kernel) (by decide +kernel)), tyX7_ok, nmX7, by decide, by decide +kernel⟩
set_option maxRecDepth 20000 in
theorem fl_X7_28 : fl_ok RX7 28 7 6 := ⟨RX7, TX7, 11, rfl, by decide, igX7, Or.inl (ly_in 186 (by decide +kernel) (by decide +kernel))⟩
theorem fp_X7_28 : fp_ok RX7 28 7 6 .int := ⟨RX7, TX7, 11, tyX7, rfl, by decide, igX7, Or.inl (ly_in 186 (by decide +kernel) (by decide +kernel)), tyX7_ok, nmX7, by decide, by decide +kernel⟩
set_option maxRecDepth 20000 in
theorem fl_X7_31 : fl_ok RX7 31 7 7 := ⟨RX7, TX7, 11, rfl, by decide, igX7, Or.inl (ly_in 187 (by decide +kernel) (by decide +kernel))⟩
theorem fp_X7_31 : fp_ok RX7 31 7 7 .int := ⟨RX7, TX7, 11, tyX7, rfl, by decide, igX7, Or.inl (ly_in 187 (by decide +kernel) (by decide +kernel)), tyX7_ok, nmX7, by decide, by decide +kernel⟩
set_option maxRecDepth 20000 in
theorem fl_X7_34 : fl_ok RX7 34 7 8 := ⟨RX7, TX7, 11, rfl, by decide, igX7, Or.inl (ly_in 188 (by decide +kernel) (by decide +kernel))⟩
theorem fp_X7_34 : fp_ok RX7 34 7 8 .int := ⟨RX7, TX7, 11, tyX7, rfl, by decide, igX7, Or.inl (ly_in 188 (by decide +kernel) (by decide +kernel)), tyX7_ok, nmX7, by decide, by decide +kernel⟩
set_option maxRecDepth 20000 in
theorem fl_X7_37 : fl_ok RX7 37 7 9 := ⟨RX7, TX7, 11, rfl, by decide, igX7, Or.inl (ly_in 189 (by decide +kernel) (by decide +kernel))⟩
theorem fp_X7_37 : fp_ok RX7 37 7 9 .int := ⟨RX7, TX7, 11, tyX7, rfl, by decide, igX7, Or.inl (ly_in 189 (by decide +kernel) (by decide +kernel)), tyX7_ok, nmX7, by decide, by decide +kernel⟩
set_option maxRecDepth 20000 in
theorem fl_X7_40 : fl_ok RX7 40 7 10 := ⟨RX7, TX7, 11, rfl, by decide, igX7, Or.inl (ly_in 190 (by decide +kernel) (by decide +kernel))⟩
theorem fp_X7_40 : fp_ok RX7 40 7 10 .boolean := ⟨RX7, TX7, 11, tyX7, rfl, by decide, igX7, Or.inl (ly_in 190 (by decide +kernel) (by decide +kernel)), tyX7_ok, nmX7, by decide, by decide +kernel⟩
set_option maxRecDepth 20000 in
theorem fl_X0_43 : fl_ok RX0 43 0 0 := ⟨RX0, TX0, 12, rfl, by decide, igX0, Or.inl (ly_in 220 (by decide +kernel) (by decide +kernel))⟩
set_option maxRecDepth 20000 in
theorem fl_X0_47 : fl_ok RX0 47 0 1 := ⟨RX0, TX0, 12, rfl, by decide, igX0, Or.inl (ly_in 221 (by decide +kernel) (by decide +kernel))⟩
set_option maxRecDepth 20000 in
theorem fl_X0_9 : fl_ok RX0 9 0 2 := ⟨RX0, TX0, 12, rfl, by decide, igX0, Or.inl (ly_in 222 (by decide +kernel) (by decide +kernel))⟩
theorem fp_X0_9 : fp_ok RX0 9 0 2 .int := ⟨RX0, TX0, 12, tyX0, rfl, by decide, igX0, Or.inl (ly_in 222 (by decide +kernel) (by decide +kernel)), tyX0_ok, nmX0, by decide, by decide +kernel⟩
set_option maxRecDepth 20000 in
theorem fl_X0_15 : fl_ok RX0 15 0 3 := ⟨RX0, TX0, 12, rfl, by decide, igX0, Or.inl (ly_in 223 (by decide +kernel) (by decide +kernel))⟩
theorem fp_X0_15 : fp_ok RX0 15 0 3 .int := ⟨RX0, TX0, 12, tyX0, rfl, by decide, igX0, Or.inl (ly_in 223 (by decide +kernel) (by decide +kernel)), tyX0_ok, nmX0, by decide, by decide +kernel⟩
set_option maxRecDepth 20000 in
theorem fl_X0_18 : fl_ok RX0 18 0 4 := ⟨RX0, TX0, 12, rfl, by decide, igX0, Or.inl (ly_in 224 (by decide +kernel) (by decide +kernel))⟩
theorem fp_X0_18 : fp_ok RX0 18 0 4 .int := ⟨RX0, TX0, 12, tyX0, rfl, by decide, igX0, Or.inl (ly_in 224 (by decide +kernel) (by decide +kernel)), tyX0_ok, nmX0, by decide, by decide +kernel⟩
set_option maxRecDepth 20000 in
theorem fl_X0_21 : fl_ok RX0 21 0 5 := ⟨RX0, TX0, 12, rfl, by decide, igX0, Or.inl (ly_in 225 (by decide +kernel) (by decide +kernel))⟩
theorem fp_X0_21 : fp_ok RX0 21 0 5 .int := ⟨RX0, TX0, 12, tyX0, rfl, by decide, igX0, Or.inl (ly_in 225 (by decide +kernel) (by decide +kernel)), tyX0_ok, nmX0, by decide, by decide +kernel⟩
set_option maxRecDepth 20000 in
theorem fl_X0_24 : fl_ok RX0 24 0 6 := ⟨RX0, TX0, 12, rfl, by decide, igX0, Or.inl (ly_in 226 (by decide +kernel) (by decide +kernel))⟩
theorem fp_X0_24 : fp_ok RX0 24 0 6 .int := ⟨RX0, TX0, 12, tyX0, rfl, by decide, igX0, Or.inl (ly_in 226 (by decide +kernel) (by decide +kernel)), tyX0_ok, nmX0, by decide, by decide +kernel⟩
set_option maxRecDepth 20000 in
theorem fl_X0_27 : fl_ok RX0 27 0 7 := ⟨RX0, TX0, 12, rfl, by decide, igX0, Or.inl (ly_in 227 (by decide +kernel) (by decide +kernel))⟩
theorem fp_X0_27 : fp_ok RX0 27 0 7 .boolean := ⟨RX0, TX0, 12, tyX0, rfl, by decide, igX0, Or.inl (ly_in 227 (by decide +kernel) (by decide +kernel)), tyX0_ok, nmX0, by decide, by decide +kernel⟩
set_option maxRecDepth 20000 in
theorem fl_X0_31 : fl_ok RX0 31 0 8 := ⟨RX0, TX0, 12, rfl, by decide, igX0, Or.inl (ly_in 228 (by decide +kernel) (by decide +kernel))⟩
theorem fp_X0_31 : fp_ok RX0 31 0 8 .int := ⟨RX0, TX0, 12, tyX0, rfl, by decide, igX0, Or.inl (ly_in 228 (by decide +kernel) (by decide +kernel)), tyX0_ok, nmX0, by decide, by decide +kernel⟩
set_option maxRecDepth 20000 in
theorem fl_X1_49 : fl_ok RX1 49 0 8 := ⟨RX0, TX0, 12, rfl, by decide, igX0, Or.inl (ly_in 229 (by decide +kernel) (by decide +kernel))⟩
theorem fp_X1_49 : fp_ok RX1 49 0 8 .int := ⟨RX0, TX0, 12, tyX0, rfl, by decide, igX0, Or.inl (ly_in 229 (by decide +kernel) (by decide +kernel)), tyX0_ok, nmX0, by decide, by decide +kernel⟩
set_option maxRecDepth 20000 in
theorem fl_X8_177 : fl_ok RX8 177 0 8 := ⟨RX0, TX0, 12, rfl, by decide, igX0, Or.inl (ly_in 230 (by decide +kernel) (by decide +kernel))⟩
theorem fp_X8_177 : fp_ok RX8 177 0 8 .int := ⟨RX0, TX0, 12, tyX0, rfl, by decide, igX0, Or.inl (ly_in 230 (by decide +kernel) (by decide +kernel)), tyX0_ok, nmX0, by decide, by decide +kernel⟩
set_option maxRecDepth 20000 in
theorem fl_X0_34 : fl_ok RX0 34 0 9 := ⟨RX0, TX0, 12, rfl, by decide, igX0, Or.inl (ly_in 231 (by decide +kernel) (by decide +kernel))⟩
theorem fp_X0_34 : fp_ok RX0 34 0 9 .int := ⟨RX0, TX0, 12, tyX0, rfl, by decide, igX0, Or.inl (ly_in 231 (by decide +kernel) (by decide +kernel)), tyX0_ok, nmX0, by decide, by decide +kernel⟩
set_option maxRecDepth 20000 in
theorem fl_X8_181 : fl_ok RX8 181 0 9 := ⟨RX0, TX0, 12, rfl, by decide, igX0, Or.inl (ly_in 232 (by decide +kernel) (by decide +kernel))⟩
theorem fp_X8_181 : fp_ok RX8 181 0 9 .int := ⟨RX0, TX0, 12, tyX0, rfl, by decide, igX0, Or.inl (ly_in 232 (by decide +kernel) (by decide +kernel)), tyX0_ok, nmX0, by decide, by decide +kernel⟩
set_option maxRecDepth 20000 in
theorem fl_X0_37 : fl_ok RX0 37 0 10 := ⟨RX0, TX0, 12, rfl, by decide, igX0, Or.inl (ly_in 233 (by decide +kernel) (by decide +kernel))⟩
theorem fp_X0_37 : fp_ok RX0 37 0 10 .int := ⟨RX0, TX0, 12, tyX0, rfl, by decide, igX0, Or.inl (ly_in 233 (by decide +kernel) (by decide +kernel)), tyX0_ok, nmX0, by decide, by decide +kernel⟩
set_option maxRecDepth 20000 in
theorem fl_X1_48 : fl_ok RX1 48 0 10 := ⟨RX0, TX0, 12, rfl, by decide, igX0, Or.inl (ly_in 234 (by decide +kernel) (by decide +kernel))⟩
theorem fp_X1_48 : fp_ok RX1 48 0 10 .int := ⟨RX0, TX0, 12, tyX0, rfl, by decide, igX0, Or.inl (ly_in 234 (by decide +kernel) (by decide +kernel)), tyX0_ok, nmX0, by decide, by decide +kernel⟩
set_option maxRecDepth 20000 in
theorem fl_X8_180 : fl_ok RX8 180 0 10 := ⟨RX0, TX0, 12, rfl, by decide, igX0, Or.inl (ly_in 235 (by decide +kernel) (by decide +kernel))⟩
theorem fp_X8_180 : fp_ok RX8 180 0 10 .int := ⟨RX0, TX0, 12, tyX0, rfl, by decide, igX0, Or.inl (ly_in 235 (by decide +kernel) (by decide +kernel)), tyX0_ok, nmX0, by decide, by decide +kernel⟩
set_option maxRecDepth 20000 in
theorem fl_X0_40 : fl_ok RX0 40 0 11 := ⟨RX0, TX0, 12, rfl, by decide, igX0, Or.inl (ly_in 236 (by decide +kernel) (by decide +kernel))⟩
theorem fp_X0_40 : fp_ok RX0 40 0 11 .int := ⟨RX0, TX0, 12, tyX0, rfl, by decide, igX0, Or.inl (ly_in 236 (by decide +kernel) (by decide +kernel)), tyX0_ok, nmX0, by decide, by decide +kernel⟩
set_option maxRecDepth 20000 in
theorem fl_X8_196 : fl_ok RX8 196 0 11 := ⟨RX0, TX0, 12, rfl, by decide, igX0, Or.inl (ly_in 237 (by decide +kernel) (by decide +kernel))⟩
theorem fp_X8_196 : fp_ok RX8 196 0 11 .int := ⟨RX0, TX0, 12, tyX0, rfl, by decide, igX0, Or.inl (ly_in 237 (by decide +kernel) (by decide +kernel)), tyX0_ok, nmX0, by decide, by decide +kernel⟩
set_option maxRecDepth 20000 in
theorem fl_X3_15 : fl_ok RX3 15 3 0 := ⟨RX3, TX3, 3, rfl, by decide, igX3, Or.inl (ly_in 269 (by decide +kernel) (by decide +kernel))⟩
set_option maxRecDepth 20000 in
theorem fl_X3_19 : fl_ok RX3 19 3 1 := ⟨RX3, TX3, 3, rfl, by decide, igX3, Or.inl (ly_in 270 (by decide +kernel) (by decide +kernel))⟩
set_option maxRecDepth 20000 in
theorem fl_X3_9 : fl_ok RX3 9 3 2 := ⟨RX3, TX3, 3, rfl, by decide, igX3, Or.inl (ly_in 271 (by decide +kernel) (by decide +kernel))⟩
theorem fp_X3_9 : fp_ok RX3 9 3 2 .int := ⟨RX3, TX3, 3, tyX3, rfl, by decide, igX3, Or.inl (ly_in 271 (by decide +kernel) (by decide +kernel)), tyX3_ok, nmX3, by decide, by decide +kernel⟩
set_option maxRecDepth 20000 in
theorem fl_X8_170 : fl_ok RX8 170 3 2 := ⟨RX3, TX3, 3, rfl, by decide, igX3, Or.inl (ly_in 272 (by decide +kernel) (by decide +kernel))⟩
theorem fp_X8_170 : fp_ok RX8 170 3 2 .int := ⟨RX3, TX3, 3, tyX3, rfl, by decide, igX3, Or.inl (ly_in 272 (by decide +kernel) (by decide +kernel)), tyX3_ok, nmX3, by decide, by decide +kernel⟩
set_option maxRecDepth 20000 in
theorem fl_X1_30 : fl_ok RX1 30 1 0 := ⟨RX1, TX1, 8, rfl, by decide, igX1, Or.inl (ly_in 286 (by decide +kernel) (by decide +kernel))⟩
set_option maxRecDepth 20000 in
theorem fl_X1_34 : fl_ok RX1 34 1 1 := ⟨RX1, TX1, 8, rfl, by decide, igX1, Or.inl (ly_in 287 (by decide +kernel) (by decide +kernel))⟩
set_option maxRecDepth 20000 in
theorem fl_X1_9 : fl_ok RX1 9 1 2 := ⟨RX1, TX1, 8, rfl, by decide, igX1, Or.inl (ly_in 288 (by decide +kernel) (by decide +kernel))⟩
theorem fp_X1_9 : fp_ok RX1 9 1 2 .int := ⟨RX1, TX1, 8, tyX1, rfl, by decide, igX1, Or.inl (ly_in 288 (by decide +kernel) (by decide +kernel)), tyX1_ok, nmX1, by decide, by decide +kernel⟩
set_option maxRecDepth 20000 in
theorem fl_X1_15 : fl_ok RX1 15 1 3 := ⟨RX1, TX1, 8, rfl, by decide, igX1, Or.inl (ly_in 289 (by decide +kernel) (by decide +kernel))⟩
theorem fp_X1_15 : fp_ok RX1 15 1 3 .int := ⟨RX1, TX1, 8, tyX1, rfl, by decide, igX1, Or.inl (ly_in 289 (by decide +kernel) (by decide +kernel)), tyX1_ok, nmX1, by decide, by decide +kernel⟩
set_option maxRecDepth 20000 in
theorem fl_X1_18 : fl_ok RX1 18 1 4 := ⟨RX1, TX1, 8, rfl, by decide, igX1, Or.inl (ly_in 290 (by decide +kernel) (by decide +kernel))⟩
theorem fp_X1_18 : fp_ok RX1 18 1 4 .int := ⟨RX1, TX1, 8, tyX1, rfl, by decide, igX1, Or.inl (ly_in 290 (by decide +kernel) (by decide +kernel)), tyX1_ok, nmX1, by decide, by decide +kernel⟩
set_option maxRecDepth 20000 in
theorem fl_X1_21 : fl_ok RX1 21 1 5 := ⟨RX1, TX1, 8, rfl, by decide, igX1, Or.inl (ly_in 291 (by decide +kernel) (by decide +kernel))⟩
theorem fp_X1_21 : fp_ok RX1 21 1 5 .int := ⟨RX1, TX1, 8, tyX1, rfl, by decide, igX1, Or.inl (ly_in 291 (by decide +kernel) (by decide +kernel)), tyX1_ok, nmX1, by decide, by decide +kernel⟩
set_option maxRecDepth 20000 in
theorem fl_X1_24 : fl_ok RX1 24 1 6 := ⟨RX1, TX1, 8, rfl, by decide, igX1, Or.inl (ly_in 292 (by decide +kernel) (by decide +kernel))⟩
theorem fp_X1_24 : fp_ok RX1 24 1 6 .int := ⟨RX1, TX1, 8, tyX1, rfl, by decide, igX1, Or.inl (ly_in 292 (by decide +kernel) (by decide +kernel)), tyX1_ok, nmX1, by decide, by decide +kernel⟩
set_option maxRecDepth 20000 in
theorem fl_X1_27 : fl_ok RX1 27 1 7 := ⟨RX1, TX1, 8, rfl, by decide, igX1, Or.inl (ly_in 293 (by decide +kernel) (by decide +kernel))⟩
theorem fp_X1_27 : fp_ok RX1 27 1 7 .int := ⟨RX1, TX1, 8, tyX1, rfl, by decide, igX1, Or.inl (ly_in 293 (by decide +kernel) (by decide +kernel)), tyX1_ok, nmX1, by decide, by decide +kernel⟩
set_option maxRecDepth 20000 in
theorem fl_X8_189 : fl_ok RX8 189 1 7 := ⟨RX1, TX1, 8, rfl, by decide, igX1, Or.inl (ly_in 294 (by decide +kernel) (by decide +kernel))⟩
theorem fp_X8_189 : fp_ok RX8 189 1 7 .int := ⟨RX1, TX1, 8, tyX1, rfl, by decide, igX1, Or.inl (ly_in 294 (by decide +kernel) (by decide +kernel)), tyX1_ok, nmX1, by decide, by decide +kernel⟩
set_option maxRecDepth 20000 in
theorem fl_X8_10 : fl_ok RX8 10 8 0 := ⟨RX8, TX8, 9, rfl, by decide, igX8, Or.inl (ly_in 312 (by decide +kernel) (by decide +kernel))⟩
set_option maxRecDepth 20000 in
theorem fl_X8_19 : fl_ok RX8 19 8 1 := ⟨RX8, TX8, 9, rfl, by decide, igX8, Or.inl (ly_in 313 (by decide +kernel) (by decide +kernel))⟩
set_option maxRecDepth 20000 in
theorem fl_X8_26 : fl_ok RX8 26 8 2 := ⟨RX8, TX8, 9, rfl, by decide, igX8, Or.inl (ly_in 314 (by decide +kernel) (by decide +kernel))⟩
set_option maxRecDepth 20000 in
theorem fl_X8_35 : fl_ok RX8 35 8 3 := ⟨RX8, TX8, 9, rfl, by decide, igX8, Or.inl (ly_in 315 (by decide +kernel) (by decide +kernel))⟩
set_option maxRecDepth 20000 in
theorem fl_X8_42 : fl_ok RX8 42 8 4 := ⟨RX8, TX8, 9, rfl, by decide, igX8, Or.inl (ly_in 316 (by decide +kernel) (by decide +kernel))⟩
set_option maxRecDepth 20000 in
theorem fl_X8_51 : fl_ok RX8 51 8 5 := ⟨RX8, TX8, 9, rfl, by decide, igX8, Or.inl (ly_in 317 (by decide +kernel) (by decide +kernel))⟩
set_option maxRecDepth 20000 in
theorem fl_X8_58 : fl_ok RX8 58 8 6 := ⟨RX8, TX8, 9, rfl, by decide, igX8, Or.inl (ly_in 318 (by decide +kernel) (by decide +kernel))⟩
set_option maxRecDepth 20000 in
theorem fl_X8_67 : fl_ok RX8 67 8 7 := ⟨RX8, TX8, 9, rfl, by decide, igX8, Or.inl (ly_in 319 (by decide +kernel) (by decide +kernel))⟩
set_option maxRecDepth 20000 in
theorem fl_X8_71 : fl_ok RX8 71 8 8 := ⟨RX8, TX8, 9, rfl, by decide, igX8, Or.inl (ly_in 320 (by decide +kernel) (by decide +kernel))⟩
theorem fp_X8_71 : fp_ok RX8 71 8 8 .int := ⟨RX8, TX8, 9, tyX8, rfl, by decide, igX8, Or.inl (ly_in 320 (by decide +kernel) (by decide +kernel)), tyX8_ok, nmX8, by decide, by decide +kernel⟩
theorem zs_X2_30 : Cond.fieldLink RX2 30 "PathInterdiction$Graph" "SHIFTS" "[I" ∈ ly_G := (ly_in 392 (by decide +kernel) (by decide +kernel))
theorem zs_X2_33 : Cond.fieldLink RX2 33 "PathInterdiction$Graph" "MASKS" "[I" ∈ ly_G := (ly_in 394 (by decide +kernel) (by decide +kernel))
set_option maxRecDepth 20000 in
theorem fl_X9_7 : fl_ok RX9 7 9 0 := ⟨RX9, TX9, 19, rfl, by decide, igX9, Or.inl (ly_in 776 (by decide +kernel) (by decide +kernel))⟩
set_option maxRecDepth 20000 in
theorem fl_X9_13 : fl_ok RX9 13 9 1 := ⟨RX9, TX9, 19, rfl, by decide, igX9, Or.inl (ly_in 777 (by decide +kernel) (by decide +kernel))⟩
set_option maxRecDepth 20000 in
theorem fl_X9_50 : fl_ok RX9 50 9 2 := ⟨RX9, TX9, 19, rfl, by decide, igX9, Or.inl (ly_in 778 (by decide +kernel) (by decide +kernel))⟩
theorem fp_X9_50 : fp_ok RX9 50 9 2 .int := ⟨RX9, TX9, 19, tyX9, rfl, by decide, igX9, Or.inl (ly_in 778 (by decide +kernel) (by decide +kernel)), tyX9_ok, nmX9, by decide, by decide +kernel⟩
set_option maxRecDepth 20000 in
theorem fl_X9_16 : fl_ok RX9 16 9 3 := ⟨RX9, TX9, 19, rfl, by decide, igX9, Or.inl (ly_in 779 (by decide +kernel) (by decide +kernel))⟩
theorem fp_X9_16 : fp_ok RX9 16 9 3 .int := ⟨RX9, TX9, 19, tyX9, rfl, by decide, igX9, Or.inl (ly_in 779 (by decide +kernel) (by decide +kernel)), tyX9_ok, nmX9, by decide, by decide +kernel⟩
set_option maxRecDepth 20000 in
theorem fl_X9_20 : fl_ok RX9 20 9 4 := ⟨RX9, TX9, 19, rfl, by decide, igX9, Or.inl (ly_in 780 (by decide +kernel) (by decide +kernel))⟩
set_option maxRecDepth 20000 in
theorem fl_X9_70 : fl_ok RX9 70 9 5 := ⟨RX9, TX9, 19, rfl, by decide, igX9, Or.inl (ly_in 781 (by decide +kernel) (by decide +kernel))⟩
theorem fp_X9_70 : fp_ok RX9 70 9 5 .int := ⟨RX9, TX9, 19, tyX9, rfl, by decide, igX9, Or.inl (ly_in 781 (by decide +kernel) (by decide +kernel)), tyX9_ok, nmX9, by decide, by decide +kernel⟩
set_option maxRecDepth 20000 in
theorem fl_X9_23 : fl_ok RX9 23 9 6 := ⟨RX9, TX9, 19, rfl, by decide, igX9, Or.inl (ly_in 782 (by decide +kernel) (by decide +kernel))⟩
set_option maxRecDepth 20000 in
theorem fl_X9_98 : fl_ok RX9 98 9 7 := ⟨RX9, TX9, 19, rfl, by decide, igX9, Or.inl (ly_in 783 (by decide +kernel) (by decide +kernel))⟩
theorem fp_X9_98 : fp_ok RX9 98 9 7 .int := ⟨RX9, TX9, 19, tyX9, rfl, by decide, igX9, Or.inl (ly_in 783 (by decide +kernel) (by decide +kernel)), tyX9_ok, nmX9, by decide, by decide +kernel⟩
set_option maxRecDepth 20000 in
theorem fl_X9_73 : fl_ok RX9 73 9 8 := ⟨RX9, TX9, 19, rfl, by decide, igX9, Or.inl (ly_in 784 (by decide +kernel) (by decide +kernel))⟩
theorem fp_X9_73 : fp_ok RX9 73 9 8 .int := ⟨RX9, TX9, 19, tyX9, rfl, by decide, igX9, Or.inl (ly_in 784 (by decide +kernel) (by decide +kernel)), tyX9_ok, nmX9, by decide, by decide +kernel⟩
set_option maxRecDepth 20000 in
theorem fl_X9_83 : fl_ok RX9 83 9 9 := ⟨RX9, TX9, 19, rfl, by decide, igX9, Or.inl (ly_in 785 (by decide +kernel) (by decide +kernel))⟩
theorem fp_X9_83 : fp_ok RX9 83 9 9 .boolean := ⟨RX9, TX9, 19, tyX9, rfl, by decide, igX9, Or.inl (ly_in 785 (by decide +kernel) (by decide +kernel)), tyX9_ok, nmX9, by decide, by decide +kernel⟩
set_option maxRecDepth 20000 in
theorem fl_X9_26 : fl_ok RX9 26 9 10 := ⟨RX9, TX9, 19, rfl, by decide, igX9, Or.inl (ly_in 786 (by decide +kernel) (by decide +kernel))⟩
set_option maxRecDepth 20000 in
theorem fl_X9_29 : fl_ok RX9 29 9 11 := ⟨RX9, TX9, 19, rfl, by decide, igX9, Or.inl (ly_in 787 (by decide +kernel) (by decide +kernel))⟩
set_option maxRecDepth 20000 in
theorem fl_X9_138 : fl_ok RX9 138 9 12 := ⟨RX9, TX9, 19, rfl, by decide, igX9, Or.inl (ly_in 788 (by decide +kernel) (by decide +kernel))⟩
theorem fp_X9_138 : fp_ok RX9 138 9 12 .int := ⟨RX9, TX9, 19, tyX9, rfl, by decide, igX9, Or.inl (ly_in 788 (by decide +kernel) (by decide +kernel)), tyX9_ok, nmX9, by decide, by decide +kernel⟩
set_option maxRecDepth 20000 in
theorem fl_X9_141 : fl_ok RX9 141 9 13 := ⟨RX9, TX9, 19, rfl, by decide, igX9, Or.inl (ly_in 789 (by decide +kernel) (by decide +kernel))⟩
theorem fp_X9_141 : fp_ok RX9 141 9 13 .int := ⟨RX9, TX9, 19, tyX9, rfl, by decide, igX9, Or.inl (ly_in 789 (by decide +kernel) (by decide +kernel)), tyX9_ok, nmX9, by decide, by decide +kernel⟩
set_option maxRecDepth 20000 in
theorem fl_X9_144 : fl_ok RX9 144 9 14 := ⟨RX9, TX9, 19, rfl, by decide, igX9, Or.inl (ly_in 790 (by decide +kernel) (by decide +kernel))⟩
theorem fp_X9_144 : fp_ok RX9 144 9 14 .int := ⟨RX9, TX9, 19, tyX9, rfl, by decide, igX9, Or.inl (ly_in 790 (by decide +kernel) (by decide +kernel)), tyX9_ok, nmX9, by decide, by decide +kernel⟩
set_option maxRecDepth 20000 in
theorem fl_X9_32 : fl_ok RX9 32 9 15 := ⟨RX9, TX9, 19, rfl, by decide, igX9, Or.inl (ly_in 791 (by decide +kernel) (by decide +kernel))⟩
set_option maxRecDepth 20000 in
theorem fl_X9_35 : fl_ok RX9 35 9 16 := ⟨RX9, TX9, 19, rfl, by decide, igX9, Or.inl (ly_in 792 (by decide +kernel) (by decide +kernel))⟩
set_option maxRecDepth 20000 in
theorem fl_X9_163 : fl_ok RX9 163 9 17 := ⟨RX9, TX9, 19, rfl, by decide, igX9, Or.inl (ly_in 793 (by decide +kernel) (by decide +kernel))⟩
theorem fp_X9_163 : fp_ok RX9 163 9 17 .int := ⟨RX9, TX9, 19, tyX9, rfl, by decide, igX9, Or.inl (ly_in 793 (by decide +kernel) (by decide +kernel)), tyX9_ok, nmX9, by decide, by decide +kernel⟩
set_option maxRecDepth 20000 in
theorem fl_X9_197 : fl_ok RX9 197 9 18 := ⟨RX9, TX9, 19, rfl, by decide, igX9, Or.inl (ly_in 794 (by decide +kernel) (by decide +kernel))⟩
theorem fp_X9_197 : fp_ok RX9 197 9 18 .long := ⟨RX9, TX9, 19, tyX9, rfl, by decide, igX9, Or.inl (ly_in 794 (by decide +kernel) (by decide +kernel)), tyX9_ok, nmX9, by decide, by decide +kernel⟩
theorem kc_J6_265 : Cond.constant RJ6 265 (1431655765) ∈ ly_G := (ly_in 690 (by decide +kernel) (by decide +kernel))
theorem kc_J6_266 : Cond.constant RJ6 266 (858993459) ∈ ly_G := (ly_in 691 (by decide +kernel) (by decide +kernel))
theorem kc_J6_267 : Cond.constant RJ6 267 (252645135) ∈ ly_G := (ly_in 692 (by decide +kernel) (by decide +kernel))
theorem kc_X8_203 : Cond.constantLong RX8 203 (-2) ∈ ly_G := (ly_in 719 (by decide +kernel) (by decide +kernel))
theorem kc_X8_227 : Cond.constantLong RX8 227 (61) ∈ ly_G := (ly_in 763 (by decide +kernel) (by decide +kernel))
theorem kc_X8_229 : Cond.constantLong RX8 229 (31) ∈ ly_G := (ly_in 764 (by decide +kernel) (by decide +kernel))
theorem kc_X9_188 : Cond.constantLong RX9 188 (-2) ∈ ly_G := (ly_in 1077 (by decide +kernel) (by decide +kernel))
theorem kc_X9_201 : Cond.constantLong RX9 201 (61) ∈ ly_G := (ly_in 1098 (by decide +kernel) (by decide +kernel))
theorem kc_X9_195 : Cond.constantLong RX9 195 (31) ∈ ly_G := (ly_in 1104 (by decide +kernel) (by decide +kernel))
theorem ly_copy : Cond.native arraycopyName ∈ ly_G ∧ Cond.static arraycopyName ∈ ly_G ∧ Cond.initialized "java/lang/System" ∈ ly_G := ⟨(ly_in 363 (by decide +kernel) (by decide +kernel)), (ly_in 362 (by decide +kernel) (by decide +kernel)), (ly_in 65 (by decide +kernel) (by decide +kernel))⟩
theorem ly_copy_X2_57 : Cond.methodLink RX2 57 arraycopyName ∈ ly_G := (ly_in 361 (by decide +kernel) (by decide +kernel))
theorem ly_z0 : (90, "PathInterdiction$Graph", "SHIFTS", "[I", 5, fun j => [0, 3, 6, 13, 20].getD j 0) ∈ ly_Z := List.mem_cons_self
theorem ly_z1 : (91, "PathInterdiction$Graph", "MASKS", "[I", 5, fun j => [7, 7, 127, 127, 15].getD j 0) ∈ ly_Z := List.mem_cons_of_mem _ List.mem_cons_self
