/-! THE CONSTRUCTORS -/
theorem ca_eq0 {D : va_G} {cl : List vw_C} {ca : Nat → ClassId} {cA : ClassId} {s : State} (h : va_K D cl ([(ca 0, .int), (ca 1, .byte)] ++ [(cA, .int)]) s) : cA = ca 0 := by
  have h1 : s.vm.findClass _ = some (ca 0) := (h.2 0 _ rfl).2
  have h2 : s.vm.findClass _ = some cA := (h.2 2 _ rfl).2
  exact Option.some.inj (h2.symm.trans h1)
theorem ca_eq1 {D : va_G} {cl : List vw_C} {ca : Nat → ClassId} {cA : ClassId} {s : State} (h : va_K D cl ([(ca 0, .int), (ca 1, .byte)] ++ [(cA, .byte)]) s) : cA = ca 1 := by
  have h1 : s.vm.findClass _ = some (ca 1) := (h.2 1 _ rfl).2
  have h2 : s.vm.findClass _ = some cA := (h.2 2 _ rfl).2
  exact Option.some.inj (h2.symm.trans h1)
theorem wl_oi : Cond.instanceMethod Lib.objectInit ∈ ly_G := ly_in 75 (by decide +kernel) (by decide +kernel)
theorem wl_oc : Cond.code Lib.objectInit ⟨#[0xb1]⟩ 1 none ∈ ly_G := ly_in 76 (by decide +kernel) (by decide +kernel)
theorem wl_ai : Cond.arrayClass .int ∈ ly_G := ly_in 102 (by decide +kernel) (by decide +kernel)
theorem wl_ab : Cond.arrayClass .byte ∈ ly_G := ly_in 144 (by decide +kernel) (by decide +kernel)

theorem wk_0 : Cond.methodLink "PathInterdiction$Graph" 3 Lib.objectInit ∈ ly_G := ly_in 82 (by decide +kernel) (by decide +kernel)
theorem wk_1 : Cond.fieldLink "PathInterdiction$Graph" 9 "PathInterdiction$Graph" "codes" "[I" ∈ ly_G := ly_in 83 (by decide +kernel) (by decide +kernel)
theorem wk_2 : Cond.fieldLink "PathInterdiction$Graph" 15 "PathInterdiction$Graph" "size" "I" ∈ ly_G := ly_in 85 (by decide +kernel) (by decide +kernel)
theorem wk_3 : Cond.fieldLink "PathInterdiction$Graph" 19 "PathInterdiction$Graph" "attacked" "I" ∈ ly_G := ly_in 92 (by decide +kernel) (by decide +kernel)
theorem wk_4 : Cond.methodLink "PathInterdiction$History" 3 Lib.objectInit ∈ ly_G := ly_in 108 (by decide +kernel) (by decide +kernel)
theorem wk_5 : Cond.fieldLink "PathInterdiction$History" 11 "PathInterdiction$History" "rows" "[I" ∈ ly_G := ly_in 109 (by decide +kernel) (by decide +kernel)
theorem wk_6 : Cond.fieldLink "PathInterdiction$History" 17 "PathInterdiction$History" "oldest" "I" ∈ ly_G := ly_in 110 (by decide +kernel) (by decide +kernel)
theorem wk_7 : Cond.fieldLink "PathInterdiction$History" 21 "PathInterdiction$History" "held" "I" ∈ ly_G := ly_in 111 (by decide +kernel) (by decide +kernel)
theorem wk_8 : Cond.methodLink "PathInterdiction$Text" 3 Lib.objectInit ∈ ly_G := ly_in 125 (by decide +kernel) (by decide +kernel)
theorem wk_9 : Cond.fieldLink "PathInterdiction$Text" 9 "PathInterdiction$Text" "letters" "[B" ∈ ly_G := ly_in 126 (by decide +kernel) (by decide +kernel)
theorem wk_10 : Cond.fieldLink "PathInterdiction$Text" 15 "PathInterdiction$Text" "codes" "[I" ∈ ly_G := ly_in 127 (by decide +kernel) (by decide +kernel)
theorem wk_11 : Cond.fieldLink "PathInterdiction$Text" 19 "PathInterdiction$Text" "size" "I" ∈ ly_G := ly_in 128 (by decide +kernel) (by decide +kernel)
theorem wk_12 : Cond.fieldLink "PathInterdiction$Text" 23 "PathInterdiction$Text" "edges" "I" ∈ ly_G := ly_in 130 (by decide +kernel) (by decide +kernel)
theorem wk_13 : Cond.fieldLink "PathInterdiction$Text" 26 "PathInterdiction$Text" "at" "I" ∈ ly_G := ly_in 132 (by decide +kernel) (by decide +kernel)
theorem wk_14 : Cond.methodLink "PathInterdiction$Router" 3 Lib.objectInit ∈ ly_G := ly_in 150 (by decide +kernel) (by decide +kernel)
theorem wk_15 : Cond.fieldLink "PathInterdiction$Router" 9 "PathInterdiction$Router" "lengths" "[I" ∈ ly_G := ly_in 152 (by decide +kernel) (by decide +kernel)
theorem wk_16 : Cond.fieldLink "PathInterdiction$Router" 15 "PathInterdiction$Router" "distances" "[I" ∈ ly_G := ly_in 153 (by decide +kernel) (by decide +kernel)
theorem wk_17 : Cond.fieldLink "PathInterdiction$Router" 18 "PathInterdiction$Router" "used" "[I" ∈ ly_G := ly_in 154 (by decide +kernel) (by decide +kernel)
theorem wk_18 : Cond.fieldLink "PathInterdiction$Router" 21 "PathInterdiction$Router" "distancesBefore" "[I" ∈ ly_G := ly_in 155 (by decide +kernel) (by decide +kernel)
theorem wk_19 : Cond.fieldLink "PathInterdiction$Router" 24 "PathInterdiction$Router" "usedBefore" "[I" ∈ ly_G := ly_in 156 (by decide +kernel) (by decide +kernel)
theorem wk_20 : Cond.fieldLink "PathInterdiction$Router" 27 "PathInterdiction$Router" "onward" "[I" ∈ ly_G := ly_in 157 (by decide +kernel) (by decide +kernel)
theorem wk_21 : Cond.fieldLink "PathInterdiction$Router" 30 "PathInterdiction$Router" "graph" "LPathInterdiction$Graph;" ∈ ly_G := ly_in 151 (by decide +kernel) (by decide +kernel)
theorem wk_22 : Cond.methodLink "PathInterdiction$Walker" 3 Lib.objectInit ∈ ly_G := ly_in 178 (by decide +kernel) (by decide +kernel)
theorem wk_23 : Cond.fieldLink "PathInterdiction$Walker" 9 "PathInterdiction$Walker" "lengths" "[I" ∈ ly_G := ly_in 180 (by decide +kernel) (by decide +kernel)
theorem wk_24 : Cond.fieldLink "PathInterdiction$Walker" 15 "PathInterdiction$Walker" "trail" "[I" ∈ ly_G := ly_in 181 (by decide +kernel) (by decide +kernel)
theorem wk_25 : Cond.fieldLink "PathInterdiction$Walker" 18 "PathInterdiction$Walker" "trailSize" "I" ∈ ly_G := ly_in 182 (by decide +kernel) (by decide +kernel)
theorem wk_26 : Cond.fieldLink "PathInterdiction$Walker" 22 "PathInterdiction$Walker" "least" "[I" ∈ ly_G := ly_in 184 (by decide +kernel) (by decide +kernel)
theorem wk_27 : Cond.fieldLink "PathInterdiction$Walker" 25 "PathInterdiction$Walker" "leastSize" "I" ∈ ly_G := ly_in 185 (by decide +kernel) (by decide +kernel)
theorem wk_28 : Cond.fieldLink "PathInterdiction$Walker" 28 "PathInterdiction$Walker" "leastWanted" "I" ∈ ly_G := ly_in 186 (by decide +kernel) (by decide +kernel)
theorem wk_29 : Cond.fieldLink "PathInterdiction$Walker" 31 "PathInterdiction$Walker" "target" "I" ∈ ly_G := ly_in 187 (by decide +kernel) (by decide +kernel)
theorem wk_30 : Cond.fieldLink "PathInterdiction$Walker" 34 "PathInterdiction$Walker" "limit" "I" ∈ ly_G := ly_in 188 (by decide +kernel) (by decide +kernel)
theorem wk_31 : Cond.fieldLink "PathInterdiction$Walker" 37 "PathInterdiction$Walker" "arrivals" "I" ∈ ly_G := ly_in 189 (by decide +kernel) (by decide +kernel)
theorem wk_32 : Cond.fieldLink "PathInterdiction$Walker" 40 "PathInterdiction$Walker" "onlyFirst" "Z" ∈ ly_G := ly_in 190 (by decide +kernel) (by decide +kernel)
theorem wk_33 : Cond.fieldLink "PathInterdiction$Walker" 44 "PathInterdiction$Walker" "graph" "LPathInterdiction$Graph;" ∈ ly_G := ly_in 179 (by decide +kernel) (by decide +kernel)
theorem wk_34 : Cond.methodLink "PathInterdiction$AttackSearch" 3 Lib.objectInit ∈ ly_G := ly_in 219 (by decide +kernel) (by decide +kernel)
theorem wk_35 : Cond.fieldLink "PathInterdiction$AttackSearch" 9 "PathInterdiction$AttackSearch" "source" "I" ∈ ly_G := ly_in 222 (by decide +kernel) (by decide +kernel)
theorem wk_36 : Cond.fieldLink "PathInterdiction$AttackSearch" 15 "PathInterdiction$AttackSearch" "target" "I" ∈ ly_G := ly_in 223 (by decide +kernel) (by decide +kernel)
theorem wk_37 : Cond.fieldLink "PathInterdiction$AttackSearch" 18 "PathInterdiction$AttackSearch" "budget" "I" ∈ ly_G := ly_in 224 (by decide +kernel) (by decide +kernel)
theorem wk_38 : Cond.fieldLink "PathInterdiction$AttackSearch" 21 "PathInterdiction$AttackSearch" "repairs" "I" ∈ ly_G := ly_in 225 (by decide +kernel) (by decide +kernel)
theorem wk_39 : Cond.fieldLink "PathInterdiction$AttackSearch" 24 "PathInterdiction$AttackSearch" "aim" "I" ∈ ly_G := ly_in 226 (by decide +kernel) (by decide +kernel)
theorem wk_40 : Cond.fieldLink "PathInterdiction$AttackSearch" 27 "PathInterdiction$AttackSearch" "marking" "Z" ∈ ly_G := ly_in 227 (by decide +kernel) (by decide +kernel)
theorem wk_41 : Cond.fieldLink "PathInterdiction$AttackSearch" 31 "PathInterdiction$AttackSearch" "reached" "I" ∈ ly_G := ly_in 228 (by decide +kernel) (by decide +kernel)
theorem wk_42 : Cond.fieldLink "PathInterdiction$AttackSearch" 34 "PathInterdiction$AttackSearch" "price" "I" ∈ ly_G := ly_in 231 (by decide +kernel) (by decide +kernel)
theorem wk_43 : Cond.fieldLink "PathInterdiction$AttackSearch" 37 "PathInterdiction$AttackSearch" "chosen" "I" ∈ ly_G := ly_in 233 (by decide +kernel) (by decide +kernel)
theorem wk_44 : Cond.fieldLink "PathInterdiction$AttackSearch" 40 "PathInterdiction$AttackSearch" "helpful" "I" ∈ ly_G := ly_in 236 (by decide +kernel) (by decide +kernel)
theorem wk_45 : Cond.fieldLink "PathInterdiction$AttackSearch" 43 "PathInterdiction$AttackSearch" "graph" "LPathInterdiction$Graph;" ∈ ly_G := ly_in 220 (by decide +kernel) (by decide +kernel)
theorem wk_46 : Cond.fieldLink "PathInterdiction$AttackSearch" 47 "PathInterdiction$AttackSearch" "router" "LPathInterdiction$Router;" ∈ ly_G := ly_in 221 (by decide +kernel) (by decide +kernel)
theorem wk_47 : Cond.methodLink "PathInterdiction$GreedyAttack" 3 Lib.objectInit ∈ ly_G := ly_in 268 (by decide +kernel) (by decide +kernel)
theorem wk_48 : Cond.fieldLink "PathInterdiction$GreedyAttack" 9 "PathInterdiction$GreedyAttack" "chosen" "I" ∈ ly_G := ly_in 271 (by decide +kernel) (by decide +kernel)
theorem wk_49 : Cond.fieldLink "PathInterdiction$GreedyAttack" 15 "PathInterdiction$GreedyAttack" "graph" "LPathInterdiction$Graph;" ∈ ly_G := ly_in 269 (by decide +kernel) (by decide +kernel)
theorem wk_50 : Cond.fieldLink "PathInterdiction$GreedyAttack" 19 "PathInterdiction$GreedyAttack" "router" "LPathInterdiction$Router;" ∈ ly_G := ly_in 270 (by decide +kernel) (by decide +kernel)
theorem wk_51 : Cond.methodLink "PathInterdiction$Fortifier" 3 Lib.objectInit ∈ ly_G := ly_in 285 (by decide +kernel) (by decide +kernel)
theorem wk_52 : Cond.fieldLink "PathInterdiction$Fortifier" 9 "PathInterdiction$Fortifier" "source" "I" ∈ ly_G := ly_in 288 (by decide +kernel) (by decide +kernel)
theorem wk_53 : Cond.fieldLink "PathInterdiction$Fortifier" 15 "PathInterdiction$Fortifier" "target" "I" ∈ ly_G := ly_in 289 (by decide +kernel) (by decide +kernel)
theorem wk_54 : Cond.fieldLink "PathInterdiction$Fortifier" 18 "PathInterdiction$Fortifier" "budget" "I" ∈ ly_G := ly_in 290 (by decide +kernel) (by decide +kernel)
theorem wk_55 : Cond.fieldLink "PathInterdiction$Fortifier" 21 "PathInterdiction$Fortifier" "most" "I" ∈ ly_G := ly_in 291 (by decide +kernel) (by decide +kernel)
theorem wk_56 : Cond.fieldLink "PathInterdiction$Fortifier" 24 "PathInterdiction$Fortifier" "reached" "I" ∈ ly_G := ly_in 292 (by decide +kernel) (by decide +kernel)
theorem wk_57 : Cond.fieldLink "PathInterdiction$Fortifier" 27 "PathInterdiction$Fortifier" "chosen" "I" ∈ ly_G := ly_in 293 (by decide +kernel) (by decide +kernel)
theorem wk_58 : Cond.fieldLink "PathInterdiction$Fortifier" 30 "PathInterdiction$Fortifier" "graph" "LPathInterdiction$Graph;" ∈ ly_G := ly_in 286 (by decide +kernel) (by decide +kernel)
theorem wk_59 : Cond.fieldLink "PathInterdiction$Fortifier" 34 "PathInterdiction$Fortifier" "search" "LPathInterdiction$AttackSearch;" ∈ ly_G := ly_in 287 (by decide +kernel) (by decide +kernel)
theorem wk_60 : Cond.methodLink "PathInterdictionModel" 1 Lib.objectInit ∈ ly_G := ly_in 775 (by decide +kernel) (by decide +kernel)
theorem wk_61 : Cond.fieldLink "PathInterdictionModel" 7 "PathInterdictionModel" "m" "[I" ∈ ly_G := ly_in 776 (by decide +kernel) (by decide +kernel)
theorem wk_62 : Cond.fieldLink "PathInterdictionModel" 13 "PathInterdictionModel" "past" "[I" ∈ ly_G := ly_in 777 (by decide +kernel) (by decide +kernel)
theorem wk_63 : Cond.fieldLink "PathInterdictionModel" 16 "PathInterdictionModel" "finding" "I" ∈ ly_G := ly_in 779 (by decide +kernel) (by decide +kernel)
theorem wk_64 : Cond.fieldLink "PathInterdictionModel" 20 "PathInterdictionModel" "text" "[I" ∈ ly_G := ly_in 780 (by decide +kernel) (by decide +kernel)
theorem wk_65 : Cond.fieldLink "PathInterdictionModel" 23 "PathInterdictionModel" "read" "[I" ∈ ly_G := ly_in 782 (by decide +kernel) (by decide +kernel)
theorem wk_66 : Cond.fieldLink "PathInterdictionModel" 26 "PathInterdictionModel" "way" "[I" ∈ ly_G := ly_in 786 (by decide +kernel) (by decide +kernel)
theorem wk_67 : Cond.fieldLink "PathInterdictionModel" 29 "PathInterdictionModel" "path" "[I" ∈ ly_G := ly_in 787 (by decide +kernel) (by decide +kernel)
theorem wk_68 : Cond.fieldLink "PathInterdictionModel" 32 "PathInterdictionModel" "lengths" "[I" ∈ ly_G := ly_in 791 (by decide +kernel) (by decide +kernel)
theorem wk_69 : Cond.fieldLink "PathInterdictionModel" 35 "PathInterdictionModel" "best" "[I" ∈ ly_G := ly_in 792 (by decide +kernel) (by decide +kernel)
theorem wk_70 : Cond.methodLink "PathInterdiction" 1 Lib.objectInit ∈ ly_G := ly_in 74 (by decide +kernel) (by decide +kernel)
theorem wk_71 : Cond.classLink "PathInterdiction" 7 "PathInterdiction$Graph" ∈ ly_G := ly_in 77 (by decide +kernel) (by decide +kernel)
theorem wk_72 : Cond.instantiable "PathInterdiction$Graph" 3 ∈ ly_G := ly_in 78 (by decide +kernel) (by decide +kernel)
theorem wk_73 : Cond.initialized "PathInterdiction$Graph" ∈ ly_G := ly_in 56 (by decide +kernel) (by decide +kernel)
theorem wk_74 : Cond.code mX2_init.1 mX2_init.2.1 mX2_init.2.2.1 mX2_init.2.2.2 ∈ ly_G := ly_in 81 (by decide +kernel) (by decide +kernel)
theorem wk_75 : Cond.instanceMethod mX2_init.1 ∈ ly_G := ly_in 80 (by decide +kernel) (by decide +kernel)
theorem wk_76 : Cond.fieldLink "PathInterdiction" 10 "PathInterdiction" "graph" "LPathInterdiction$Graph;" ∈ ly_G := ly_in 312 (by decide +kernel) (by decide +kernel)
theorem wk_77 : Cond.classLink "PathInterdiction" 16 "PathInterdiction$History" ∈ ly_G := ly_in 103 (by decide +kernel) (by decide +kernel)
theorem wk_78 : Cond.instantiable "PathInterdiction$History" 3 ∈ ly_G := ly_in 104 (by decide +kernel) (by decide +kernel)
theorem wk_79 : Cond.initialized "PathInterdiction$History" ∈ ly_G := ly_in 57 (by decide +kernel) (by decide +kernel)
theorem wk_80 : Cond.code mX4_init.1 mX4_init.2.1 mX4_init.2.2.1 mX4_init.2.2.2 ∈ ly_G := ly_in 107 (by decide +kernel) (by decide +kernel)
theorem wk_81 : Cond.instanceMethod mX4_init.1 ∈ ly_G := ly_in 106 (by decide +kernel) (by decide +kernel)
theorem wk_82 : Cond.fieldLink "PathInterdiction" 19 "PathInterdiction" "history" "LPathInterdiction$History;" ∈ ly_G := ly_in 313 (by decide +kernel) (by decide +kernel)
theorem wk_83 : Cond.classLink "PathInterdiction" 23 "PathInterdiction$Text" ∈ ly_G := ly_in 120 (by decide +kernel) (by decide +kernel)
theorem wk_84 : Cond.instantiable "PathInterdiction$Text" 5 ∈ ly_G := ly_in 121 (by decide +kernel) (by decide +kernel)
theorem wk_85 : Cond.initialized "PathInterdiction$Text" ∈ ly_G := ly_in 58 (by decide +kernel) (by decide +kernel)
theorem wk_86 : Cond.code mX6_init.1 mX6_init.2.1 mX6_init.2.2.1 mX6_init.2.2.2 ∈ ly_G := ly_in 124 (by decide +kernel) (by decide +kernel)
theorem wk_87 : Cond.instanceMethod mX6_init.1 ∈ ly_G := ly_in 123 (by decide +kernel) (by decide +kernel)
theorem wk_88 : Cond.fieldLink "PathInterdiction" 26 "PathInterdiction" "text" "LPathInterdiction$Text;" ∈ ly_G := ly_in 314 (by decide +kernel) (by decide +kernel)
theorem wk_89 : Cond.classLink "PathInterdiction" 30 "PathInterdiction$Router" ∈ ly_G := ly_in 145 (by decide +kernel) (by decide +kernel)
theorem wk_90 : Cond.instantiable "PathInterdiction$Router" 7 ∈ ly_G := ly_in 146 (by decide +kernel) (by decide +kernel)
theorem wk_91 : Cond.initialized "PathInterdiction$Router" ∈ ly_G := ly_in 59 (by decide +kernel) (by decide +kernel)
theorem wk_92 : Cond.fieldLink "PathInterdiction" 10 "PathInterdiction" "graph" "LPathInterdiction$Graph;" ∈ ly_G := ly_in 312 (by decide +kernel) (by decide +kernel)
theorem wk_93 : Cond.code mX5_init.1 mX5_init.2.1 mX5_init.2.2.1 mX5_init.2.2.2 ∈ ly_G := ly_in 149 (by decide +kernel) (by decide +kernel)
theorem wk_94 : Cond.instanceMethod mX5_init.1 ∈ ly_G := ly_in 148 (by decide +kernel) (by decide +kernel)
theorem wk_95 : Cond.methodLink "PathInterdiction" 32 mX5_init.1 ∈ ly_G := ly_in 147 (by decide +kernel) (by decide +kernel)
theorem wk_96 : Cond.fieldLink "PathInterdiction" 35 "PathInterdiction" "router" "LPathInterdiction$Router;" ∈ ly_G := ly_in 315 (by decide +kernel) (by decide +kernel)
theorem wk_97 : Cond.classLink "PathInterdiction" 39 "PathInterdiction$Walker" ∈ ly_G := ly_in 173 (by decide +kernel) (by decide +kernel)
theorem wk_98 : Cond.instantiable "PathInterdiction$Walker" 11 ∈ ly_G := ly_in 174 (by decide +kernel) (by decide +kernel)
theorem wk_99 : Cond.initialized "PathInterdiction$Walker" ∈ ly_G := ly_in 60 (by decide +kernel) (by decide +kernel)
theorem wk_100 : Cond.fieldLink "PathInterdiction" 10 "PathInterdiction" "graph" "LPathInterdiction$Graph;" ∈ ly_G := ly_in 312 (by decide +kernel) (by decide +kernel)
theorem wk_101 : Cond.code mX7_init.1 mX7_init.2.1 mX7_init.2.2.1 mX7_init.2.2.2 ∈ ly_G := ly_in 177 (by decide +kernel) (by decide +kernel)
theorem wk_102 : Cond.instanceMethod mX7_init.1 ∈ ly_G := ly_in 176 (by decide +kernel) (by decide +kernel)
theorem wk_103 : Cond.methodLink "PathInterdiction" 41 mX7_init.1 ∈ ly_G := ly_in 175 (by decide +kernel) (by decide +kernel)
theorem wk_104 : Cond.fieldLink "PathInterdiction" 42 "PathInterdiction" "walker" "LPathInterdiction$Walker;" ∈ ly_G := ly_in 316 (by decide +kernel) (by decide +kernel)
theorem wk_105 : Cond.classLink "PathInterdiction" 46 "PathInterdiction$AttackSearch" ∈ ly_G := ly_in 214 (by decide +kernel) (by decide +kernel)
theorem wk_106 : Cond.instantiable "PathInterdiction$AttackSearch" 12 ∈ ly_G := ly_in 215 (by decide +kernel) (by decide +kernel)
theorem wk_107 : Cond.initialized "PathInterdiction$AttackSearch" ∈ ly_G := ly_in 61 (by decide +kernel) (by decide +kernel)
theorem wk_108 : Cond.fieldLink "PathInterdiction" 10 "PathInterdiction" "graph" "LPathInterdiction$Graph;" ∈ ly_G := ly_in 312 (by decide +kernel) (by decide +kernel)
theorem wk_109 : Cond.fieldLink "PathInterdiction" 35 "PathInterdiction" "router" "LPathInterdiction$Router;" ∈ ly_G := ly_in 315 (by decide +kernel) (by decide +kernel)
theorem wk_110 : Cond.code mX0_init.1 mX0_init.2.1 mX0_init.2.2.1 mX0_init.2.2.2 ∈ ly_G := ly_in 218 (by decide +kernel) (by decide +kernel)
theorem wk_111 : Cond.instanceMethod mX0_init.1 ∈ ly_G := ly_in 217 (by decide +kernel) (by decide +kernel)
theorem wk_112 : Cond.methodLink "PathInterdiction" 48 mX0_init.1 ∈ ly_G := ly_in 216 (by decide +kernel) (by decide +kernel)
theorem wk_113 : Cond.fieldLink "PathInterdiction" 51 "PathInterdiction" "search" "LPathInterdiction$AttackSearch;" ∈ ly_G := ly_in 317 (by decide +kernel) (by decide +kernel)
theorem wk_114 : Cond.classLink "PathInterdiction" 55 "PathInterdiction$GreedyAttack" ∈ ly_G := ly_in 263 (by decide +kernel) (by decide +kernel)
theorem wk_115 : Cond.instantiable "PathInterdiction$GreedyAttack" 3 ∈ ly_G := ly_in 264 (by decide +kernel) (by decide +kernel)
theorem wk_116 : Cond.initialized "PathInterdiction$GreedyAttack" ∈ ly_G := ly_in 62 (by decide +kernel) (by decide +kernel)
theorem wk_117 : Cond.fieldLink "PathInterdiction" 10 "PathInterdiction" "graph" "LPathInterdiction$Graph;" ∈ ly_G := ly_in 312 (by decide +kernel) (by decide +kernel)
theorem wk_118 : Cond.fieldLink "PathInterdiction" 35 "PathInterdiction" "router" "LPathInterdiction$Router;" ∈ ly_G := ly_in 315 (by decide +kernel) (by decide +kernel)
theorem wk_119 : Cond.code mX3_init.1 mX3_init.2.1 mX3_init.2.2.1 mX3_init.2.2.2 ∈ ly_G := ly_in 267 (by decide +kernel) (by decide +kernel)
theorem wk_120 : Cond.instanceMethod mX3_init.1 ∈ ly_G := ly_in 266 (by decide +kernel) (by decide +kernel)
theorem wk_121 : Cond.methodLink "PathInterdiction" 57 mX3_init.1 ∈ ly_G := ly_in 265 (by decide +kernel) (by decide +kernel)
theorem wk_122 : Cond.fieldLink "PathInterdiction" 58 "PathInterdiction" "greedyAttack" "LPathInterdiction$GreedyAttack;" ∈ ly_G := ly_in 318 (by decide +kernel) (by decide +kernel)
theorem wk_123 : Cond.classLink "PathInterdiction" 62 "PathInterdiction$Fortifier" ∈ ly_G := ly_in 280 (by decide +kernel) (by decide +kernel)
theorem wk_124 : Cond.instantiable "PathInterdiction$Fortifier" 8 ∈ ly_G := ly_in 281 (by decide +kernel) (by decide +kernel)
theorem wk_125 : Cond.initialized "PathInterdiction$Fortifier" ∈ ly_G := ly_in 63 (by decide +kernel) (by decide +kernel)
theorem wk_126 : Cond.fieldLink "PathInterdiction" 10 "PathInterdiction" "graph" "LPathInterdiction$Graph;" ∈ ly_G := ly_in 312 (by decide +kernel) (by decide +kernel)
theorem wk_127 : Cond.fieldLink "PathInterdiction" 51 "PathInterdiction" "search" "LPathInterdiction$AttackSearch;" ∈ ly_G := ly_in 317 (by decide +kernel) (by decide +kernel)
theorem wk_128 : Cond.code mX1_init.1 mX1_init.2.1 mX1_init.2.2.1 mX1_init.2.2.2 ∈ ly_G := ly_in 284 (by decide +kernel) (by decide +kernel)
theorem wk_129 : Cond.instanceMethod mX1_init.1 ∈ ly_G := ly_in 283 (by decide +kernel) (by decide +kernel)
theorem wk_130 : Cond.methodLink "PathInterdiction" 64 mX1_init.1 ∈ ly_G := ly_in 282 (by decide +kernel) (by decide +kernel)
theorem wk_131 : Cond.fieldLink "PathInterdiction" 67 "PathInterdiction" "fortifier" "LPathInterdiction$Fortifier;" ∈ ly_G := ly_in 319 (by decide +kernel) (by decide +kernel)
theorem wk_132 : Cond.fieldLink "PathInterdiction" 71 "PathInterdiction" "found" "I" ∈ ly_G := ly_in 320 (by decide +kernel) (by decide +kernel)

set_option maxHeartbeats 4000000 in
set_option maxRecDepth 100000 in
theorem k_X2_init (l : Launch) (dC : Nat → ClassId) (dI : Nat → Nat → Nat) (ca : Nat → ClassId) (h0 sz : Nat) : Met l mX2_init.1 (ws_y mX2_init) ({ frames := 1, cells := 1, slots := 16, locals := 12 }) (va_Pc [.ref h0] (fun U => U.heap.size = sz ∧ va_P (dC, dI) ly_C [(h0, .inr (2, [.null, .int 0, .int 0]))] U.heap ∧ va_K (dC, dI) ly_C [(ca 0, .int), (ca 1, .byte)] U ∧ va_D (fun _ => True) [(h0, .inr (2, [.null, .int 0, .int 0]))])) (va_Qv (fun _ : Nat → Nat => True) (fun u t => va_P (dC, dI) ly_C [(h0, .inr (2, [.ref (u 0), .int 0, .int 0])), ((u 0), .inl (ca 0, 16, .inl (fun _ => 0)))] t.heap ∧ va_D (va_A [(h0, .inr (2, [.null, .int 0, .int 0]))] sz) [(h0, .inr (2, [.ref (u 0), .int 0, .int 0])), ((u 0), .inl (ca 0, 16, .inl (fun _ => 0)))]) (va_A [(h0, .inr (2, [.null, .int 0, .int 0]))] sz)) 1 16 (va_A [(h0, .inr (2, [.null, .int 0, .int 0]))] sz) := by
  refine Met.ofW (cc := cX2_init) (maxL := 1) (ret := none) (by decide) rfl ?_
  intro p e s m args below meth c s₁ B hml hv
  obtain ⟨rfl, hsz, hP, hK, hD0⟩ := hv
  have hx := B.exec
  have hb := B.bytes
  have hr := B.returns
  have hts0 := atoms_spec (ws := ws_y mX2_init) B.pre
  have hts : ∀ w ∈ ly_G, w.before _ s = true := fun w hw => hts0 w (List.mem_cons_of_mem _ hw)
  have hown : s.vm.findClass RX2 = some m.cls := findClass_of_methodNamed B.named
  have hlocks := B.notSynchronized
  have hin : meth.name = "<init>" := (name_of_methodNamed B.named B.method).1
  subst hsz
  have hD := hD0.self (sz := s.heap.size)
  generalize hAe : va_A [(h0, .inr (2, [.null, .int 0, .int 0]))] s.heap.size = A at hD ⊢
  have hA : ∀ q : Nat, s.heap.size ≤ q → A q := fun q h => by rw [← hAe]; exact Or.inr h
  have hS : va_S A s.heap s.heap [] := va_S.rf
  have hl := lv_entry ([.ref h0]) (n := 1) (Nat.le_of_ble_eq_true rfl)
  rw [lg_entry_eq]
  generalize (lg_sl ([.ref h0]) ++ List.replicate (1 - (lg_sl ([.ref h0])).length) Slot.unset).toArray = ls at hl ⊢
  have hl : lv_has ls 1 [(0, .ref h0)] := hl
  refine lv_aload_n hx hb dX2_init_0 rfl (lv_at hl 0 rfl) ?_
  refine W.objInit hx hb hown (hts _ wk_0) (hts _ wl_oi) (hts _ wl_oc) rfl (by rw [hml]; exact hl.1) rfl dX2_init_1 (Nat.le_of_ble_eq_true rfl) (Nat.le_of_ble_eq_true rfl) ?_
  refine W.eq (g2 := F0 m 4 ls []) rfl ?_
  refine lv_aload_n hx hb dX2_init_4 rfl (lv_at hl 0 rfl) ?_
  refine lv_bipush (v := 16) hx hb dX2_init_5 (by decide) ?_
  refine va_newa (atype := .int) (ty := .int) (a0 := (16, .inl (fun _ => 0))) hx hb (hts (.arrayClass .int) wl_ai) rfl hK hP hD hS hA (fun cA => rfl) (by decide) (by decide) (Nat.le_of_ble_eq_true rfl) (Nat.le_of_ble_eq_true rfl) (Nat.le_of_ble_eq_true rfl) dX2_init_7 (fun q7 cA H hK1 hP hD hS => ?_)
  obtain rfl := ca_eq0 hK1
  have hP : va_P (dC, dI) ly_C [(h0, .inr (2, [.null, .int 0, .int 0])), (q7, .inl (ca 0, 16, .inl (fun _ => 0)))] H := hP
  have hD : va_D A [(h0, .inr (2, [.null, .int 0, .int 0])), (q7, .inl (ca 0, 16, .inl (fun _ => 0)))] := hD
  refine W.widen (k := 1) (n := 16) (Nat.le_of_ble_eq_true rfl) (Nat.le_of_ble_eq_true rfl) ?_
  refine va_putF (D := (dC, dI)) (ci := 2) (v := .ref q7) (ty := .array .int) (C := RX2) (T := TX2) (N := 3) hx hb hts igX2 tyX2 tyX2_ok nmX2 hown hK hP hD hS 0 rfl rfl 0 (by decide) (hts _ wk_1) (fun _ h9 => h9) rfl hin rfl (by decide +kernel) rfl rfl (Nat.le_of_ble_eq_true rfl) dX2_init_9 (fun H locs hP hD hS => ?_)
  have hP : va_P (dC, dI) ly_C [(h0, .inr (2, [.ref q7, .int 0, .int 0])), (q7, .inl (ca 0, 16, .inl (fun _ => 0)))] H := hP
  have hD : va_D A [(h0, .inr (2, [.ref q7, .int 0, .int 0])), (q7, .inl (ca 0, 16, .inl (fun _ => 0)))] := hD
  refine lv_aload_n hx hb dX2_init_12 rfl (lv_at hl 0 rfl) ?_
  refine lv_iconst (v := 0) hx hb dX2_init_13 (by decide) ?_
  refine va_put (D := (dC, dI)) (ci := 2) (v := .int 0) (ty := .int) (C := RX2) (T := TX2) (N := 3) hx hb hts igX2 tyX2 tyX2_ok nmX2 hown hK hP hD hS 0 rfl rfl 1 (by decide) (hts _ wk_2) (fun _ h9 => h9) rfl (by decide +kernel) rfl rfl (Nat.le_of_ble_eq_true rfl) dX2_init_14 (fun H locs hP hD hS => ?_)
  have hP : va_P (dC, dI) ly_C [(h0, .inr (2, [.ref q7, .int 0, .int 0])), (q7, .inl (ca 0, 16, .inl (fun _ => 0)))] H := hP
  have hD : va_D A [(h0, .inr (2, [.ref q7, .int 0, .int 0])), (q7, .inl (ca 0, 16, .inl (fun _ => 0)))] := hD
  refine lv_aload_n hx hb dX2_init_17 rfl (lv_at hl 0 rfl) ?_
  refine lv_iconst (v := 0) hx hb dX2_init_18 (by decide) ?_
  refine va_put (D := (dC, dI)) (ci := 2) (v := .int 0) (ty := .int) (C := RX2) (T := TX2) (N := 3) hx hb hts igX2 tyX2 tyX2_ok nmX2 hown hK hP hD hS 0 rfl rfl 2 (by decide) (hts _ wk_3) (fun _ h9 => h9) rfl (by decide +kernel) rfl rfl (Nat.le_of_ble_eq_true rfl) dX2_init_19 (fun H locs hP hD hS => ?_)
  have hP : va_P (dC, dI) ly_C [(h0, .inr (2, [.ref q7, .int 0, .int 0])), (q7, .inl (ca 0, 16, .inl (fun _ => 0)))] H := hP
  have hD : va_D A [(h0, .inr (2, [.ref q7, .int 0, .int 0])), (q7, .inl (ca 0, 16, .inl (fun _ => 0)))] := hD
  have hP9 := hP.sub (ws' := [(h0, .inr (2, [.ref q7, .int 0, .int 0])), (q7, .inl (ca 0, 16, .inl (fun _ => 0)))]) [0, 1] rfl
  have hD9 := hD.sub (ws' := [(h0, .inr (2, [.ref q7, .int 0, .int 0])), (q7, .inl (ca 0, 16, .inl (fun _ => 0)))]) [0, 1] (by decide) rfl
  exact W.vret hx hb hr (fun t ht hW => ⟨⟨fun i => [q7].getD i 0, rfl, trivial, by rw [ht]; exact hP9, hD9⟩, hS.F ht⟩) hS.2.2 dX2_init_22

set_option maxHeartbeats 4000000 in
set_option maxRecDepth 100000 in
theorem k_X4_init (l : Launch) (dC : Nat → ClassId) (dI : Nat → Nat → Nat) (ca : Nat → ClassId) (h0 sz : Nat) : Met l mX4_init.1 (ws_y mX4_init) ({ frames := 1, cells := 1, slots := 216, locals := 12 }) (va_Pc [.ref h0] (fun U => U.heap.size = sz ∧ va_P (dC, dI) ly_C [(h0, .inr (4, [.null, .int 0, .int 0]))] U.heap ∧ va_K (dC, dI) ly_C [(ca 0, .int), (ca 1, .byte)] U ∧ va_D (fun _ => True) [(h0, .inr (4, [.null, .int 0, .int 0]))])) (va_Qv (fun _ : Nat → Nat => True) (fun u t => va_P (dC, dI) ly_C [(h0, .inr (4, [.ref (u 0), .int 0, .int 0])), ((u 0), .inl (ca 0, 216, .inl (fun _ => 0)))] t.heap ∧ va_D (va_A [(h0, .inr (4, [.null, .int 0, .int 0]))] sz) [(h0, .inr (4, [.ref (u 0), .int 0, .int 0])), ((u 0), .inl (ca 0, 216, .inl (fun _ => 0)))]) (va_A [(h0, .inr (4, [.null, .int 0, .int 0]))] sz)) 1 216 (va_A [(h0, .inr (4, [.null, .int 0, .int 0]))] sz) := by
  refine Met.ofW (cc := cX4_init) (maxL := 1) (ret := none) (by decide) rfl ?_
  intro p e s m args below meth c s₁ B hml hv
  obtain ⟨rfl, hsz, hP, hK, hD0⟩ := hv
  have hx := B.exec
  have hb := B.bytes
  have hr := B.returns
  have hts0 := atoms_spec (ws := ws_y mX4_init) B.pre
  have hts : ∀ w ∈ ly_G, w.before _ s = true := fun w hw => hts0 w (List.mem_cons_of_mem _ hw)
  have hown : s.vm.findClass RX4 = some m.cls := findClass_of_methodNamed B.named
  have hlocks := B.notSynchronized
  have hin : meth.name = "<init>" := (name_of_methodNamed B.named B.method).1
  subst hsz
  have hD := hD0.self (sz := s.heap.size)
  generalize hAe : va_A [(h0, .inr (4, [.null, .int 0, .int 0]))] s.heap.size = A at hD ⊢
  have hA : ∀ q : Nat, s.heap.size ≤ q → A q := fun q h => by rw [← hAe]; exact Or.inr h
  have hS : va_S A s.heap s.heap [] := va_S.rf
  have hl := lv_entry ([.ref h0]) (n := 1) (Nat.le_of_ble_eq_true rfl)
  rw [lg_entry_eq]
  generalize (lg_sl ([.ref h0]) ++ List.replicate (1 - (lg_sl ([.ref h0])).length) Slot.unset).toArray = ls at hl ⊢
  have hl : lv_has ls 1 [(0, .ref h0)] := hl
  refine lv_aload_n hx hb dX4_init_0 rfl (lv_at hl 0 rfl) ?_
  refine W.objInit hx hb hown (hts _ wk_4) (hts _ wl_oi) (hts _ wl_oc) rfl (by rw [hml]; exact hl.1) rfl dX4_init_1 (Nat.le_of_ble_eq_true rfl) (Nat.le_of_ble_eq_true rfl) ?_
  refine W.eq (g2 := F0 m 4 ls []) rfl ?_
  refine lv_aload_n hx hb dX4_init_4 rfl (lv_at hl 0 rfl) ?_
  refine lv_sipush (v := 216) hx hb dX4_init_5 (by decide) ?_
  refine va_newa (atype := .int) (ty := .int) (a0 := (216, .inl (fun _ => 0))) hx hb (hts (.arrayClass .int) wl_ai) rfl hK hP hD hS hA (fun cA => rfl) (by decide) (by decide) (Nat.le_of_ble_eq_true rfl) (Nat.le_of_ble_eq_true rfl) (Nat.le_of_ble_eq_true rfl) dX4_init_8 (fun q8 cA H hK1 hP hD hS => ?_)
  obtain rfl := ca_eq0 hK1
  have hP : va_P (dC, dI) ly_C [(h0, .inr (4, [.null, .int 0, .int 0])), (q8, .inl (ca 0, 216, .inl (fun _ => 0)))] H := hP
  have hD : va_D A [(h0, .inr (4, [.null, .int 0, .int 0])), (q8, .inl (ca 0, 216, .inl (fun _ => 0)))] := hD
  refine W.widen (k := 1) (n := 216) (Nat.le_of_ble_eq_true rfl) (Nat.le_of_ble_eq_true rfl) ?_
  refine va_putF (D := (dC, dI)) (ci := 4) (v := .ref q8) (ty := .array .int) (C := RX4) (T := TX4) (N := 3) hx hb hts igX4 tyX4 tyX4_ok nmX4 hown hK hP hD hS 0 rfl rfl 0 (by decide) (hts _ wk_5) (fun _ h9 => h9) rfl hin rfl (by decide +kernel) rfl rfl (Nat.le_of_ble_eq_true rfl) dX4_init_10 (fun H locs hP hD hS => ?_)
  have hP : va_P (dC, dI) ly_C [(h0, .inr (4, [.ref q8, .int 0, .int 0])), (q8, .inl (ca 0, 216, .inl (fun _ => 0)))] H := hP
  have hD : va_D A [(h0, .inr (4, [.ref q8, .int 0, .int 0])), (q8, .inl (ca 0, 216, .inl (fun _ => 0)))] := hD
  refine lv_aload_n hx hb dX4_init_13 rfl (lv_at hl 0 rfl) ?_
  refine lv_iconst (v := 0) hx hb dX4_init_14 (by decide) ?_
  refine va_put (D := (dC, dI)) (ci := 4) (v := .int 0) (ty := .int) (C := RX4) (T := TX4) (N := 3) hx hb hts igX4 tyX4 tyX4_ok nmX4 hown hK hP hD hS 0 rfl rfl 1 (by decide) (hts _ wk_6) (fun _ h9 => h9) rfl (by decide +kernel) rfl rfl (Nat.le_of_ble_eq_true rfl) dX4_init_15 (fun H locs hP hD hS => ?_)
  have hP : va_P (dC, dI) ly_C [(h0, .inr (4, [.ref q8, .int 0, .int 0])), (q8, .inl (ca 0, 216, .inl (fun _ => 0)))] H := hP
  have hD : va_D A [(h0, .inr (4, [.ref q8, .int 0, .int 0])), (q8, .inl (ca 0, 216, .inl (fun _ => 0)))] := hD
  refine lv_aload_n hx hb dX4_init_18 rfl (lv_at hl 0 rfl) ?_
  refine lv_iconst (v := 0) hx hb dX4_init_19 (by decide) ?_
  refine va_put (D := (dC, dI)) (ci := 4) (v := .int 0) (ty := .int) (C := RX4) (T := TX4) (N := 3) hx hb hts igX4 tyX4 tyX4_ok nmX4 hown hK hP hD hS 0 rfl rfl 2 (by decide) (hts _ wk_7) (fun _ h9 => h9) rfl (by decide +kernel) rfl rfl (Nat.le_of_ble_eq_true rfl) dX4_init_20 (fun H locs hP hD hS => ?_)
  have hP : va_P (dC, dI) ly_C [(h0, .inr (4, [.ref q8, .int 0, .int 0])), (q8, .inl (ca 0, 216, .inl (fun _ => 0)))] H := hP
  have hD : va_D A [(h0, .inr (4, [.ref q8, .int 0, .int 0])), (q8, .inl (ca 0, 216, .inl (fun _ => 0)))] := hD
  have hP9 := hP.sub (ws' := [(h0, .inr (4, [.ref q8, .int 0, .int 0])), (q8, .inl (ca 0, 216, .inl (fun _ => 0)))]) [0, 1] rfl
  have hD9 := hD.sub (ws' := [(h0, .inr (4, [.ref q8, .int 0, .int 0])), (q8, .inl (ca 0, 216, .inl (fun _ => 0)))]) [0, 1] (by decide) rfl
  exact W.vret hx hb hr (fun t ht hW => ⟨⟨fun i => [q8].getD i 0, rfl, trivial, by rw [ht]; exact hP9, hD9⟩, hS.F ht⟩) hS.2.2 dX4_init_23

set_option maxHeartbeats 4000000 in
set_option maxRecDepth 100000 in
theorem k_X6_init (l : Launch) (dC : Nat → ClassId) (dI : Nat → Nat → Nat) (ca : Nat → ClassId) (h0 sz : Nat) : Met l mX6_init.1 (ws_y mX6_init) ({ frames := 1, cells := 2, slots := 126, locals := 12 }) (va_Pc [.ref h0] (fun U => U.heap.size = sz ∧ va_P (dC, dI) ly_C [(h0, .inr (6, [.null, .null, .int 0, .int 0, .int 0]))] U.heap ∧ va_K (dC, dI) ly_C [(ca 0, .int), (ca 1, .byte)] U ∧ va_D (fun _ => True) [(h0, .inr (6, [.null, .null, .int 0, .int 0, .int 0]))])) (va_Qv (fun _ : Nat → Nat => True) (fun u t => va_P (dC, dI) ly_C [(h0, .inr (6, [.ref (u 0), .ref (u 1), .int 0, .int 0, .int 0])), ((u 0), .inl (ca 1, 110, .inl (fun _ => 0))), ((u 1), .inl (ca 0, 16, .inl (fun _ => 0)))] t.heap ∧ va_D (va_A [(h0, .inr (6, [.null, .null, .int 0, .int 0, .int 0]))] sz) [(h0, .inr (6, [.ref (u 0), .ref (u 1), .int 0, .int 0, .int 0])), ((u 0), .inl (ca 1, 110, .inl (fun _ => 0))), ((u 1), .inl (ca 0, 16, .inl (fun _ => 0)))]) (va_A [(h0, .inr (6, [.null, .null, .int 0, .int 0, .int 0]))] sz)) 2 126 (va_A [(h0, .inr (6, [.null, .null, .int 0, .int 0, .int 0]))] sz) := by
  refine Met.ofW (cc := cX6_init) (maxL := 1) (ret := none) (by decide) rfl ?_
  intro p e s m args below meth c s₁ B hml hv
  obtain ⟨rfl, hsz, hP, hK, hD0⟩ := hv
  have hx := B.exec
  have hb := B.bytes
  have hr := B.returns
  have hts0 := atoms_spec (ws := ws_y mX6_init) B.pre
  have hts : ∀ w ∈ ly_G, w.before _ s = true := fun w hw => hts0 w (List.mem_cons_of_mem _ hw)
  have hown : s.vm.findClass RX6 = some m.cls := findClass_of_methodNamed B.named
  have hlocks := B.notSynchronized
  have hin : meth.name = "<init>" := (name_of_methodNamed B.named B.method).1
  subst hsz
  have hD := hD0.self (sz := s.heap.size)
  generalize hAe : va_A [(h0, .inr (6, [.null, .null, .int 0, .int 0, .int 0]))] s.heap.size = A at hD ⊢
  have hA : ∀ q : Nat, s.heap.size ≤ q → A q := fun q h => by rw [← hAe]; exact Or.inr h
  have hS : va_S A s.heap s.heap [] := va_S.rf
  have hl := lv_entry ([.ref h0]) (n := 1) (Nat.le_of_ble_eq_true rfl)
  rw [lg_entry_eq]
  generalize (lg_sl ([.ref h0]) ++ List.replicate (1 - (lg_sl ([.ref h0])).length) Slot.unset).toArray = ls at hl ⊢
  have hl : lv_has ls 1 [(0, .ref h0)] := hl
  refine lv_aload_n hx hb dX6_init_0 rfl (lv_at hl 0 rfl) ?_
  refine W.objInit hx hb hown (hts _ wk_8) (hts _ wl_oi) (hts _ wl_oc) rfl (by rw [hml]; exact hl.1) rfl dX6_init_1 (Nat.le_of_ble_eq_true rfl) (Nat.le_of_ble_eq_true rfl) ?_
  refine W.eq (g2 := F0 m 4 ls []) rfl ?_
  refine lv_aload_n hx hb dX6_init_4 rfl (lv_at hl 0 rfl) ?_
  refine lv_bipush (v := 110) hx hb dX6_init_5 (by decide) ?_
  refine va_newa (atype := .byte) (ty := .byte) (a0 := (110, .inl (fun _ => 0))) hx hb (hts (.arrayClass .byte) wl_ab) rfl hK hP hD hS hA (fun cA => rfl) (by decide) (by decide) (Nat.le_of_ble_eq_true rfl) (Nat.le_of_ble_eq_true rfl) (Nat.le_of_ble_eq_true rfl) dX6_init_7 (fun q7 cA H hK1 hP hD hS => ?_)
  obtain rfl := ca_eq1 hK1
  have hP : va_P (dC, dI) ly_C [(h0, .inr (6, [.null, .null, .int 0, .int 0, .int 0])), (q7, .inl (ca 1, 110, .inl (fun _ => 0)))] H := hP
  have hD : va_D A [(h0, .inr (6, [.null, .null, .int 0, .int 0, .int 0])), (q7, .inl (ca 1, 110, .inl (fun _ => 0)))] := hD
  refine W.widen (k := 1) (n := 110) (Nat.le_of_ble_eq_true rfl) (Nat.le_of_ble_eq_true rfl) ?_
  refine va_putF (D := (dC, dI)) (ci := 6) (v := .ref q7) (ty := .array .byte) (C := RX6) (T := TX6) (N := 5) hx hb hts igX6 tyX6 tyX6_ok nmX6 hown hK hP hD hS 0 rfl rfl 0 (by decide) (hts _ wk_9) (fun _ h9 => h9) rfl hin rfl (by decide +kernel) rfl rfl (Nat.le_of_ble_eq_true rfl) dX6_init_9 (fun H locs hP hD hS => ?_)
  have hP : va_P (dC, dI) ly_C [(h0, .inr (6, [.ref q7, .null, .int 0, .int 0, .int 0])), (q7, .inl (ca 1, 110, .inl (fun _ => 0)))] H := hP
  have hD : va_D A [(h0, .inr (6, [.ref q7, .null, .int 0, .int 0, .int 0])), (q7, .inl (ca 1, 110, .inl (fun _ => 0)))] := hD
  refine lv_aload_n hx hb dX6_init_12 rfl (lv_at hl 0 rfl) ?_
  refine lv_bipush (v := 16) hx hb dX6_init_13 (by decide) ?_
  refine va_newa (atype := .int) (ty := .int) (a0 := (16, .inl (fun _ => 0))) hx hb (hts (.arrayClass .int) wl_ai) rfl hK hP hD hS hA (fun cA => rfl) (by decide) (by decide) (Nat.le_of_ble_eq_true rfl) (Nat.le_of_ble_eq_true rfl) (Nat.le_of_ble_eq_true rfl) dX6_init_15 (fun q15 cA H hK1 hP hD hS => ?_)
  obtain rfl := ca_eq0 hK1
  have hP : va_P (dC, dI) ly_C [(h0, .inr (6, [.ref q7, .null, .int 0, .int 0, .int 0])), (q7, .inl (ca 1, 110, .inl (fun _ => 0))), (q15, .inl (ca 0, 16, .inl (fun _ => 0)))] H := hP
  have hD : va_D A [(h0, .inr (6, [.ref q7, .null, .int 0, .int 0, .int 0])), (q7, .inl (ca 1, 110, .inl (fun _ => 0))), (q15, .inl (ca 0, 16, .inl (fun _ => 0)))] := hD
  refine W.widen (k := 2) (n := 126) (Nat.le_of_ble_eq_true rfl) (Nat.le_of_ble_eq_true rfl) ?_
  refine va_putF (D := (dC, dI)) (ci := 6) (v := .ref q15) (ty := .array .int) (C := RX6) (T := TX6) (N := 5) hx hb hts igX6 tyX6 tyX6_ok nmX6 hown hK hP hD hS 0 rfl rfl 1 (by decide) (hts _ wk_10) (fun _ h9 => h9) rfl hin rfl (by decide +kernel) rfl rfl (Nat.le_of_ble_eq_true rfl) dX6_init_17 (fun H locs hP hD hS => ?_)
  have hP : va_P (dC, dI) ly_C [(h0, .inr (6, [.ref q7, .ref q15, .int 0, .int 0, .int 0])), (q7, .inl (ca 1, 110, .inl (fun _ => 0))), (q15, .inl (ca 0, 16, .inl (fun _ => 0)))] H := hP
  have hD : va_D A [(h0, .inr (6, [.ref q7, .ref q15, .int 0, .int 0, .int 0])), (q7, .inl (ca 1, 110, .inl (fun _ => 0))), (q15, .inl (ca 0, 16, .inl (fun _ => 0)))] := hD
  refine lv_aload_n hx hb dX6_init_20 rfl (lv_at hl 0 rfl) ?_
  refine lv_iconst (v := 0) hx hb dX6_init_21 (by decide) ?_
  refine va_put (D := (dC, dI)) (ci := 6) (v := .int 0) (ty := .int) (C := RX6) (T := TX6) (N := 5) hx hb hts igX6 tyX6 tyX6_ok nmX6 hown hK hP hD hS 0 rfl rfl 2 (by decide) (hts _ wk_11) (fun _ h9 => h9) rfl (by decide +kernel) rfl rfl (Nat.le_of_ble_eq_true rfl) dX6_init_22 (fun H locs hP hD hS => ?_)
  have hP : va_P (dC, dI) ly_C [(h0, .inr (6, [.ref q7, .ref q15, .int 0, .int 0, .int 0])), (q7, .inl (ca 1, 110, .inl (fun _ => 0))), (q15, .inl (ca 0, 16, .inl (fun _ => 0)))] H := hP
  have hD : va_D A [(h0, .inr (6, [.ref q7, .ref q15, .int 0, .int 0, .int 0])), (q7, .inl (ca 1, 110, .inl (fun _ => 0))), (q15, .inl (ca 0, 16, .inl (fun _ => 0)))] := hD
  refine lv_aload_n hx hb dX6_init_25 rfl (lv_at hl 0 rfl) ?_
  refine lv_iconst (v := 0) hx hb dX6_init_26 (by decide) ?_
  refine va_put (D := (dC, dI)) (ci := 6) (v := .int 0) (ty := .int) (C := RX6) (T := TX6) (N := 5) hx hb hts igX6 tyX6 tyX6_ok nmX6 hown hK hP hD hS 0 rfl rfl 3 (by decide) (hts _ wk_12) (fun _ h9 => h9) rfl (by decide +kernel) rfl rfl (Nat.le_of_ble_eq_true rfl) dX6_init_27 (fun H locs hP hD hS => ?_)
  have hP : va_P (dC, dI) ly_C [(h0, .inr (6, [.ref q7, .ref q15, .int 0, .int 0, .int 0])), (q7, .inl (ca 1, 110, .inl (fun _ => 0))), (q15, .inl (ca 0, 16, .inl (fun _ => 0)))] H := hP
  have hD : va_D A [(h0, .inr (6, [.ref q7, .ref q15, .int 0, .int 0, .int 0])), (q7, .inl (ca 1, 110, .inl (fun _ => 0))), (q15, .inl (ca 0, 16, .inl (fun _ => 0)))] := hD
  refine lv_aload_n hx hb dX6_init_30 rfl (lv_at hl 0 rfl) ?_
  refine lv_iconst (v := 0) hx hb dX6_init_31 (by decide) ?_
  refine va_put (D := (dC, dI)) (ci := 6) (v := .int 0) (ty := .int) (C := RX6) (T := TX6) (N := 5) hx hb hts igX6 tyX6 tyX6_ok nmX6 hown hK hP hD hS 0 rfl rfl 4 (by decide) (hts _ wk_13) (fun _ h9 => h9) rfl (by decide +kernel) rfl rfl (Nat.le_of_ble_eq_true rfl) dX6_init_32 (fun H locs hP hD hS => ?_)
  have hP : va_P (dC, dI) ly_C [(h0, .inr (6, [.ref q7, .ref q15, .int 0, .int 0, .int 0])), (q7, .inl (ca 1, 110, .inl (fun _ => 0))), (q15, .inl (ca 0, 16, .inl (fun _ => 0)))] H := hP
  have hD : va_D A [(h0, .inr (6, [.ref q7, .ref q15, .int 0, .int 0, .int 0])), (q7, .inl (ca 1, 110, .inl (fun _ => 0))), (q15, .inl (ca 0, 16, .inl (fun _ => 0)))] := hD
  have hP9 := hP.sub (ws' := [(h0, .inr (6, [.ref q7, .ref q15, .int 0, .int 0, .int 0])), (q7, .inl (ca 1, 110, .inl (fun _ => 0))), (q15, .inl (ca 0, 16, .inl (fun _ => 0)))]) [0, 1, 2] rfl
  have hD9 := hD.sub (ws' := [(h0, .inr (6, [.ref q7, .ref q15, .int 0, .int 0, .int 0])), (q7, .inl (ca 1, 110, .inl (fun _ => 0))), (q15, .inl (ca 0, 16, .inl (fun _ => 0)))]) [0, 1, 2] (by decide) rfl
  exact W.vret hx hb hr (fun t ht hW => ⟨⟨fun i => [q7, q15].getD i 0, rfl, trivial, by rw [ht]; exact hP9, hD9⟩, hS.F ht⟩) hS.2.2 dX6_init_35

set_option maxHeartbeats 4000000 in
set_option maxRecDepth 100000 in
theorem k_X5_init (l : Launch) (dC : Nat → ClassId) (dI : Nat → Nat → Nat) (ca : Nat → ClassId) (h0 h1 sz : Nat) : Met l mX5_init.1 (ws_y mX5_init) ({ frames := 1, cells := 6, slots := 56, locals := 12 }) (va_Pc [.ref h0, .ref h1] (fun U => U.heap.size = sz ∧ va_P (dC, dI) ly_C [(h0, .inr (5, [.null, .null, .null, .null, .null, .null, .null]))] U.heap ∧ va_K (dC, dI) ly_C [(ca 0, .int), (ca 1, .byte)] U ∧ va_D (fun _ => True) [(h0, .inr (5, [.null, .null, .null, .null, .null, .null, .null]))])) (va_Qv (fun _ : Nat → Nat => True) (fun u t => va_P (dC, dI) ly_C [(h0, .inr (5, [.ref h1, .ref (u 0), .ref (u 1), .ref (u 2), .ref (u 3), .ref (u 4), .ref (u 5)])), ((u 0), .inl (ca 0, 16, .inl (fun _ => 0))), ((u 1), .inl (ca 0, 8, .inl (fun _ => 0))), ((u 2), .inl (ca 0, 8, .inl (fun _ => 0))), ((u 3), .inl (ca 0, 8, .inl (fun _ => 0))), ((u 4), .inl (ca 0, 8, .inl (fun _ => 0))), ((u 5), .inl (ca 0, 8, .inl (fun _ => 0)))] t.heap ∧ va_D (va_A [(h0, .inr (5, [.null, .null, .null, .null, .null, .null, .null]))] sz) [(h0, .inr (5, [.ref h1, .ref (u 0), .ref (u 1), .ref (u 2), .ref (u 3), .ref (u 4), .ref (u 5)])), ((u 0), .inl (ca 0, 16, .inl (fun _ => 0))), ((u 1), .inl (ca 0, 8, .inl (fun _ => 0))), ((u 2), .inl (ca 0, 8, .inl (fun _ => 0))), ((u 3), .inl (ca 0, 8, .inl (fun _ => 0))), ((u 4), .inl (ca 0, 8, .inl (fun _ => 0))), ((u 5), .inl (ca 0, 8, .inl (fun _ => 0)))]) (va_A [(h0, .inr (5, [.null, .null, .null, .null, .null, .null, .null]))] sz)) 6 56 (va_A [(h0, .inr (5, [.null, .null, .null, .null, .null, .null, .null]))] sz) := by
  refine Met.ofW (cc := cX5_init) (maxL := 2) (ret := none) (by decide) rfl ?_
  intro p e s m args below meth c s₁ B hml hv
  obtain ⟨rfl, hsz, hP, hK, hD0⟩ := hv
  have hx := B.exec
  have hb := B.bytes
  have hr := B.returns
  have hts0 := atoms_spec (ws := ws_y mX5_init) B.pre
  have hts : ∀ w ∈ ly_G, w.before _ s = true := fun w hw => hts0 w (List.mem_cons_of_mem _ hw)
  have hown : s.vm.findClass RX5 = some m.cls := findClass_of_methodNamed B.named
  have hlocks := B.notSynchronized
  have hin : meth.name = "<init>" := (name_of_methodNamed B.named B.method).1
  subst hsz
  have hD := hD0.self (sz := s.heap.size)
  generalize hAe : va_A [(h0, .inr (5, [.null, .null, .null, .null, .null, .null, .null]))] s.heap.size = A at hD ⊢
  have hA : ∀ q : Nat, s.heap.size ≤ q → A q := fun q h => by rw [← hAe]; exact Or.inr h
  have hS : va_S A s.heap s.heap [] := va_S.rf
  have hl := lv_entry ([.ref h0, .ref h1]) (n := 2) (Nat.le_of_ble_eq_true rfl)
  rw [lg_entry_eq]
  generalize (lg_sl ([.ref h0, .ref h1]) ++ List.replicate (2 - (lg_sl ([.ref h0, .ref h1])).length) Slot.unset).toArray = ls at hl ⊢
  have hl : lv_has ls 2 [(0, .ref h0), (1, .ref h1)] := hl
  refine lv_aload_n hx hb dX5_init_0 rfl (lv_at hl 0 rfl) ?_
  refine W.objInit hx hb hown (hts _ wk_14) (hts _ wl_oi) (hts _ wl_oc) rfl (by rw [hml]; exact hl.1) rfl dX5_init_1 (Nat.le_of_ble_eq_true rfl) (Nat.le_of_ble_eq_true rfl) ?_
  refine W.eq (g2 := F0 m 4 ls []) rfl ?_
  refine lv_aload_n hx hb dX5_init_4 rfl (lv_at hl 0 rfl) ?_
  refine lv_bipush (v := 16) hx hb dX5_init_5 (by decide) ?_
  refine va_newa (atype := .int) (ty := .int) (a0 := (16, .inl (fun _ => 0))) hx hb (hts (.arrayClass .int) wl_ai) rfl hK hP hD hS hA (fun cA => rfl) (by decide) (by decide) (Nat.le_of_ble_eq_true rfl) (Nat.le_of_ble_eq_true rfl) (Nat.le_of_ble_eq_true rfl) dX5_init_7 (fun q7 cA H hK1 hP hD hS => ?_)
  obtain rfl := ca_eq0 hK1
  have hP : va_P (dC, dI) ly_C [(h0, .inr (5, [.null, .null, .null, .null, .null, .null, .null])), (q7, .inl (ca 0, 16, .inl (fun _ => 0)))] H := hP
  have hD : va_D A [(h0, .inr (5, [.null, .null, .null, .null, .null, .null, .null])), (q7, .inl (ca 0, 16, .inl (fun _ => 0)))] := hD
  refine W.widen (k := 1) (n := 16) (Nat.le_of_ble_eq_true rfl) (Nat.le_of_ble_eq_true rfl) ?_
  refine va_putF (D := (dC, dI)) (ci := 5) (v := .ref q7) (ty := .array .int) (C := RX5) (T := TX5) (N := 7) hx hb hts igX5 tyX5 tyX5_ok nmX5 hown hK hP hD hS 0 rfl rfl 1 (by decide) (hts _ wk_15) (fun _ h9 => h9) rfl hin rfl (by decide +kernel) rfl rfl (Nat.le_of_ble_eq_true rfl) dX5_init_9 (fun H locs hP hD hS => ?_)
  have hP : va_P (dC, dI) ly_C [(h0, .inr (5, [.null, .ref q7, .null, .null, .null, .null, .null])), (q7, .inl (ca 0, 16, .inl (fun _ => 0)))] H := hP
  have hD : va_D A [(h0, .inr (5, [.null, .ref q7, .null, .null, .null, .null, .null])), (q7, .inl (ca 0, 16, .inl (fun _ => 0)))] := hD
  refine lv_aload_n hx hb dX5_init_12 rfl (lv_at hl 0 rfl) ?_
  refine lv_bipush (v := 8) hx hb dX5_init_13 (by decide) ?_
  refine va_newa (atype := .int) (ty := .int) (a0 := (8, .inl (fun _ => 0))) hx hb (hts (.arrayClass .int) wl_ai) rfl hK hP hD hS hA (fun cA => rfl) (by decide) (by decide) (Nat.le_of_ble_eq_true rfl) (Nat.le_of_ble_eq_true rfl) (Nat.le_of_ble_eq_true rfl) dX5_init_15 (fun q15 cA H hK1 hP hD hS => ?_)
  obtain rfl := ca_eq0 hK1
  have hP : va_P (dC, dI) ly_C [(h0, .inr (5, [.null, .ref q7, .null, .null, .null, .null, .null])), (q7, .inl (ca 0, 16, .inl (fun _ => 0))), (q15, .inl (ca 0, 8, .inl (fun _ => 0)))] H := hP
  have hD : va_D A [(h0, .inr (5, [.null, .ref q7, .null, .null, .null, .null, .null])), (q7, .inl (ca 0, 16, .inl (fun _ => 0))), (q15, .inl (ca 0, 8, .inl (fun _ => 0)))] := hD
  refine W.widen (k := 2) (n := 24) (Nat.le_of_ble_eq_true rfl) (Nat.le_of_ble_eq_true rfl) ?_
  refine va_putF (D := (dC, dI)) (ci := 5) (v := .ref q15) (ty := .array .int) (C := RX5) (T := TX5) (N := 7) hx hb hts igX5 tyX5 tyX5_ok nmX5 hown hK hP hD hS 0 rfl rfl 2 (by decide) (hts _ wk_16) (fun _ h9 => h9) rfl hin rfl (by decide +kernel) rfl rfl (Nat.le_of_ble_eq_true rfl) dX5_init_17 (fun H locs hP hD hS => ?_)
  have hP : va_P (dC, dI) ly_C [(h0, .inr (5, [.null, .ref q7, .ref q15, .null, .null, .null, .null])), (q7, .inl (ca 0, 16, .inl (fun _ => 0))), (q15, .inl (ca 0, 8, .inl (fun _ => 0)))] H := hP
  have hD : va_D A [(h0, .inr (5, [.null, .ref q7, .ref q15, .null, .null, .null, .null])), (q7, .inl (ca 0, 16, .inl (fun _ => 0))), (q15, .inl (ca 0, 8, .inl (fun _ => 0)))] := hD
  refine lv_aload_n hx hb dX5_init_20 rfl (lv_at hl 0 rfl) ?_
  refine lv_bipush (v := 8) hx hb dX5_init_21 (by decide) ?_
  refine va_newa (atype := .int) (ty := .int) (a0 := (8, .inl (fun _ => 0))) hx hb (hts (.arrayClass .int) wl_ai) rfl hK hP hD hS hA (fun cA => rfl) (by decide) (by decide) (Nat.le_of_ble_eq_true rfl) (Nat.le_of_ble_eq_true rfl) (Nat.le_of_ble_eq_true rfl) dX5_init_23 (fun q23 cA H hK1 hP hD hS => ?_)
  obtain rfl := ca_eq0 hK1
  have hP : va_P (dC, dI) ly_C [(h0, .inr (5, [.null, .ref q7, .ref q15, .null, .null, .null, .null])), (q7, .inl (ca 0, 16, .inl (fun _ => 0))), (q15, .inl (ca 0, 8, .inl (fun _ => 0))), (q23, .inl (ca 0, 8, .inl (fun _ => 0)))] H := hP
  have hD : va_D A [(h0, .inr (5, [.null, .ref q7, .ref q15, .null, .null, .null, .null])), (q7, .inl (ca 0, 16, .inl (fun _ => 0))), (q15, .inl (ca 0, 8, .inl (fun _ => 0))), (q23, .inl (ca 0, 8, .inl (fun _ => 0)))] := hD
  refine W.widen (k := 3) (n := 32) (Nat.le_of_ble_eq_true rfl) (Nat.le_of_ble_eq_true rfl) ?_
  refine va_putF (D := (dC, dI)) (ci := 5) (v := .ref q23) (ty := .array .int) (C := RX5) (T := TX5) (N := 7) hx hb hts igX5 tyX5 tyX5_ok nmX5 hown hK hP hD hS 0 rfl rfl 3 (by decide) (hts _ wk_17) (fun _ h9 => h9) rfl hin rfl (by decide +kernel) rfl rfl (Nat.le_of_ble_eq_true rfl) dX5_init_25 (fun H locs hP hD hS => ?_)
  have hP : va_P (dC, dI) ly_C [(h0, .inr (5, [.null, .ref q7, .ref q15, .ref q23, .null, .null, .null])), (q7, .inl (ca 0, 16, .inl (fun _ => 0))), (q15, .inl (ca 0, 8, .inl (fun _ => 0))), (q23, .inl (ca 0, 8, .inl (fun _ => 0)))] H := hP
  have hD : va_D A [(h0, .inr (5, [.null, .ref q7, .ref q15, .ref q23, .null, .null, .null])), (q7, .inl (ca 0, 16, .inl (fun _ => 0))), (q15, .inl (ca 0, 8, .inl (fun _ => 0))), (q23, .inl (ca 0, 8, .inl (fun _ => 0)))] := hD
  refine lv_aload_n hx hb dX5_init_28 rfl (lv_at hl 0 rfl) ?_
  refine lv_bipush (v := 8) hx hb dX5_init_29 (by decide) ?_
  refine va_newa (atype := .int) (ty := .int) (a0 := (8, .inl (fun _ => 0))) hx hb (hts (.arrayClass .int) wl_ai) rfl hK hP hD hS hA (fun cA => rfl) (by decide) (by decide) (Nat.le_of_ble_eq_true rfl) (Nat.le_of_ble_eq_true rfl) (Nat.le_of_ble_eq_true rfl) dX5_init_31 (fun q31 cA H hK1 hP hD hS => ?_)
  obtain rfl := ca_eq0 hK1
  have hP : va_P (dC, dI) ly_C [(h0, .inr (5, [.null, .ref q7, .ref q15, .ref q23, .null, .null, .null])), (q7, .inl (ca 0, 16, .inl (fun _ => 0))), (q15, .inl (ca 0, 8, .inl (fun _ => 0))), (q23, .inl (ca 0, 8, .inl (fun _ => 0))), (q31, .inl (ca 0, 8, .inl (fun _ => 0)))] H := hP
  have hD : va_D A [(h0, .inr (5, [.null, .ref q7, .ref q15, .ref q23, .null, .null, .null])), (q7, .inl (ca 0, 16, .inl (fun _ => 0))), (q15, .inl (ca 0, 8, .inl (fun _ => 0))), (q23, .inl (ca 0, 8, .inl (fun _ => 0))), (q31, .inl (ca 0, 8, .inl (fun _ => 0)))] := hD
  refine W.widen (k := 4) (n := 40) (Nat.le_of_ble_eq_true rfl) (Nat.le_of_ble_eq_true rfl) ?_
  refine va_putF (D := (dC, dI)) (ci := 5) (v := .ref q31) (ty := .array .int) (C := RX5) (T := TX5) (N := 7) hx hb hts igX5 tyX5 tyX5_ok nmX5 hown hK hP hD hS 0 rfl rfl 4 (by decide) (hts _ wk_18) (fun _ h9 => h9) rfl hin rfl (by decide +kernel) rfl rfl (Nat.le_of_ble_eq_true rfl) dX5_init_33 (fun H locs hP hD hS => ?_)
  have hP : va_P (dC, dI) ly_C [(h0, .inr (5, [.null, .ref q7, .ref q15, .ref q23, .ref q31, .null, .null])), (q7, .inl (ca 0, 16, .inl (fun _ => 0))), (q15, .inl (ca 0, 8, .inl (fun _ => 0))), (q23, .inl (ca 0, 8, .inl (fun _ => 0))), (q31, .inl (ca 0, 8, .inl (fun _ => 0)))] H := hP
  have hD : va_D A [(h0, .inr (5, [.null, .ref q7, .ref q15, .ref q23, .ref q31, .null, .null])), (q7, .inl (ca 0, 16, .inl (fun _ => 0))), (q15, .inl (ca 0, 8, .inl (fun _ => 0))), (q23, .inl (ca 0, 8, .inl (fun _ => 0))), (q31, .inl (ca 0, 8, .inl (fun _ => 0)))] := hD
  refine lv_aload_n hx hb dX5_init_36 rfl (lv_at hl 0 rfl) ?_
  refine lv_bipush (v := 8) hx hb dX5_init_37 (by decide) ?_
  refine va_newa (atype := .int) (ty := .int) (a0 := (8, .inl (fun _ => 0))) hx hb (hts (.arrayClass .int) wl_ai) rfl hK hP hD hS hA (fun cA => rfl) (by decide) (by decide) (Nat.le_of_ble_eq_true rfl) (Nat.le_of_ble_eq_true rfl) (Nat.le_of_ble_eq_true rfl) dX5_init_39 (fun q39 cA H hK1 hP hD hS => ?_)
  obtain rfl := ca_eq0 hK1
  have hP : va_P (dC, dI) ly_C [(h0, .inr (5, [.null, .ref q7, .ref q15, .ref q23, .ref q31, .null, .null])), (q7, .inl (ca 0, 16, .inl (fun _ => 0))), (q15, .inl (ca 0, 8, .inl (fun _ => 0))), (q23, .inl (ca 0, 8, .inl (fun _ => 0))), (q31, .inl (ca 0, 8, .inl (fun _ => 0))), (q39, .inl (ca 0, 8, .inl (fun _ => 0)))] H := hP
  have hD : va_D A [(h0, .inr (5, [.null, .ref q7, .ref q15, .ref q23, .ref q31, .null, .null])), (q7, .inl (ca 0, 16, .inl (fun _ => 0))), (q15, .inl (ca 0, 8, .inl (fun _ => 0))), (q23, .inl (ca 0, 8, .inl (fun _ => 0))), (q31, .inl (ca 0, 8, .inl (fun _ => 0))), (q39, .inl (ca 0, 8, .inl (fun _ => 0)))] := hD
  refine W.widen (k := 5) (n := 48) (Nat.le_of_ble_eq_true rfl) (Nat.le_of_ble_eq_true rfl) ?_
  refine va_putF (D := (dC, dI)) (ci := 5) (v := .ref q39) (ty := .array .int) (C := RX5) (T := TX5) (N := 7) hx hb hts igX5 tyX5 tyX5_ok nmX5 hown hK hP hD hS 0 rfl rfl 5 (by decide) (hts _ wk_19) (fun _ h9 => h9) rfl hin rfl (by decide +kernel) rfl rfl (Nat.le_of_ble_eq_true rfl) dX5_init_41 (fun H locs hP hD hS => ?_)
  have hP : va_P (dC, dI) ly_C [(h0, .inr (5, [.null, .ref q7, .ref q15, .ref q23, .ref q31, .ref q39, .null])), (q7, .inl (ca 0, 16, .inl (fun _ => 0))), (q15, .inl (ca 0, 8, .inl (fun _ => 0))), (q23, .inl (ca 0, 8, .inl (fun _ => 0))), (q31, .inl (ca 0, 8, .inl (fun _ => 0))), (q39, .inl (ca 0, 8, .inl (fun _ => 0)))] H := hP
  have hD : va_D A [(h0, .inr (5, [.null, .ref q7, .ref q15, .ref q23, .ref q31, .ref q39, .null])), (q7, .inl (ca 0, 16, .inl (fun _ => 0))), (q15, .inl (ca 0, 8, .inl (fun _ => 0))), (q23, .inl (ca 0, 8, .inl (fun _ => 0))), (q31, .inl (ca 0, 8, .inl (fun _ => 0))), (q39, .inl (ca 0, 8, .inl (fun _ => 0)))] := hD
  refine lv_aload_n hx hb dX5_init_44 rfl (lv_at hl 0 rfl) ?_
  refine lv_bipush (v := 8) hx hb dX5_init_45 (by decide) ?_
  refine va_newa (atype := .int) (ty := .int) (a0 := (8, .inl (fun _ => 0))) hx hb (hts (.arrayClass .int) wl_ai) rfl hK hP hD hS hA (fun cA => rfl) (by decide) (by decide) (Nat.le_of_ble_eq_true rfl) (Nat.le_of_ble_eq_true rfl) (Nat.le_of_ble_eq_true rfl) dX5_init_47 (fun q47 cA H hK1 hP hD hS => ?_)
  obtain rfl := ca_eq0 hK1
  have hP : va_P (dC, dI) ly_C [(h0, .inr (5, [.null, .ref q7, .ref q15, .ref q23, .ref q31, .ref q39, .null])), (q7, .inl (ca 0, 16, .inl (fun _ => 0))), (q15, .inl (ca 0, 8, .inl (fun _ => 0))), (q23, .inl (ca 0, 8, .inl (fun _ => 0))), (q31, .inl (ca 0, 8, .inl (fun _ => 0))), (q39, .inl (ca 0, 8, .inl (fun _ => 0))), (q47, .inl (ca 0, 8, .inl (fun _ => 0)))] H := hP
  have hD : va_D A [(h0, .inr (5, [.null, .ref q7, .ref q15, .ref q23, .ref q31, .ref q39, .null])), (q7, .inl (ca 0, 16, .inl (fun _ => 0))), (q15, .inl (ca 0, 8, .inl (fun _ => 0))), (q23, .inl (ca 0, 8, .inl (fun _ => 0))), (q31, .inl (ca 0, 8, .inl (fun _ => 0))), (q39, .inl (ca 0, 8, .inl (fun _ => 0))), (q47, .inl (ca 0, 8, .inl (fun _ => 0)))] := hD
  refine W.widen (k := 6) (n := 56) (Nat.le_of_ble_eq_true rfl) (Nat.le_of_ble_eq_true rfl) ?_
  refine va_putF (D := (dC, dI)) (ci := 5) (v := .ref q47) (ty := .array .int) (C := RX5) (T := TX5) (N := 7) hx hb hts igX5 tyX5 tyX5_ok nmX5 hown hK hP hD hS 0 rfl rfl 6 (by decide) (hts _ wk_20) (fun _ h9 => h9) rfl hin rfl (by decide +kernel) rfl rfl (Nat.le_of_ble_eq_true rfl) dX5_init_49 (fun H locs hP hD hS => ?_)
  have hP : va_P (dC, dI) ly_C [(h0, .inr (5, [.null, .ref q7, .ref q15, .ref q23, .ref q31, .ref q39, .ref q47])), (q7, .inl (ca 0, 16, .inl (fun _ => 0))), (q15, .inl (ca 0, 8, .inl (fun _ => 0))), (q23, .inl (ca 0, 8, .inl (fun _ => 0))), (q31, .inl (ca 0, 8, .inl (fun _ => 0))), (q39, .inl (ca 0, 8, .inl (fun _ => 0))), (q47, .inl (ca 0, 8, .inl (fun _ => 0)))] H := hP
  have hD : va_D A [(h0, .inr (5, [.null, .ref q7, .ref q15, .ref q23, .ref q31, .ref q39, .ref q47])), (q7, .inl (ca 0, 16, .inl (fun _ => 0))), (q15, .inl (ca 0, 8, .inl (fun _ => 0))), (q23, .inl (ca 0, 8, .inl (fun _ => 0))), (q31, .inl (ca 0, 8, .inl (fun _ => 0))), (q39, .inl (ca 0, 8, .inl (fun _ => 0))), (q47, .inl (ca 0, 8, .inl (fun _ => 0)))] := hD
  refine lv_aload_n hx hb dX5_init_52 rfl (lv_at hl 0 rfl) ?_
  refine lv_aload_n hx hb dX5_init_53 rfl (lv_at hl 1 rfl) ?_
  refine va_putF (D := (dC, dI)) (ci := 5) (v := .ref h1) (ty := .object "PathInterdiction$Graph") (C := RX5) (T := TX5) (N := 7) hx hb hts igX5 tyX5 tyX5_ok nmX5 hown hK hP hD hS 0 rfl rfl 0 (by decide) (hts _ wk_21) (fun _ h9 => h9) rfl hin rfl (by decide +kernel) rfl rfl (Nat.le_of_ble_eq_true rfl) dX5_init_54 (fun H locs hP hD hS => ?_)
  have hP : va_P (dC, dI) ly_C [(h0, .inr (5, [.ref h1, .ref q7, .ref q15, .ref q23, .ref q31, .ref q39, .ref q47])), (q7, .inl (ca 0, 16, .inl (fun _ => 0))), (q15, .inl (ca 0, 8, .inl (fun _ => 0))), (q23, .inl (ca 0, 8, .inl (fun _ => 0))), (q31, .inl (ca 0, 8, .inl (fun _ => 0))), (q39, .inl (ca 0, 8, .inl (fun _ => 0))), (q47, .inl (ca 0, 8, .inl (fun _ => 0)))] H := hP
  have hD : va_D A [(h0, .inr (5, [.ref h1, .ref q7, .ref q15, .ref q23, .ref q31, .ref q39, .ref q47])), (q7, .inl (ca 0, 16, .inl (fun _ => 0))), (q15, .inl (ca 0, 8, .inl (fun _ => 0))), (q23, .inl (ca 0, 8, .inl (fun _ => 0))), (q31, .inl (ca 0, 8, .inl (fun _ => 0))), (q39, .inl (ca 0, 8, .inl (fun _ => 0))), (q47, .inl (ca 0, 8, .inl (fun _ => 0)))] := hD
  have hP9 := hP.sub (ws' := [(h0, .inr (5, [.ref h1, .ref q7, .ref q15, .ref q23, .ref q31, .ref q39, .ref q47])), (q7, .inl (ca 0, 16, .inl (fun _ => 0))), (q15, .inl (ca 0, 8, .inl (fun _ => 0))), (q23, .inl (ca 0, 8, .inl (fun _ => 0))), (q31, .inl (ca 0, 8, .inl (fun _ => 0))), (q39, .inl (ca 0, 8, .inl (fun _ => 0))), (q47, .inl (ca 0, 8, .inl (fun _ => 0)))]) [0, 1, 2, 3, 4, 5, 6] rfl
  have hD9 := hD.sub (ws' := [(h0, .inr (5, [.ref h1, .ref q7, .ref q15, .ref q23, .ref q31, .ref q39, .ref q47])), (q7, .inl (ca 0, 16, .inl (fun _ => 0))), (q15, .inl (ca 0, 8, .inl (fun _ => 0))), (q23, .inl (ca 0, 8, .inl (fun _ => 0))), (q31, .inl (ca 0, 8, .inl (fun _ => 0))), (q39, .inl (ca 0, 8, .inl (fun _ => 0))), (q47, .inl (ca 0, 8, .inl (fun _ => 0)))]) [0, 1, 2, 3, 4, 5, 6] (by decide) rfl
  exact W.vret hx hb hr (fun t ht hW => ⟨⟨fun i => [q7, q15, q23, q31, q39, q47].getD i 0, rfl, trivial, by rw [ht]; exact hP9, hD9⟩, hS.F ht⟩) hS.2.2 dX5_init_57

set_option maxHeartbeats 4000000 in
set_option maxRecDepth 100000 in
theorem k_X7_init (l : Launch) (dC : Nat → ClassId) (dI : Nat → Nat → Nat) (ca : Nat → ClassId) (h0 h1 sz : Nat) : Met l mX7_init.1 (ws_y mX7_init) ({ frames := 1, cells := 3, slots := 124, locals := 12 }) (va_Pc [.ref h0, .ref h1] (fun U => U.heap.size = sz ∧ va_P (dC, dI) ly_C [(h0, .inr (7, [.null, .null, .null, .int 0, .null, .int 0, .int 0, .int 0, .int 0, .int 0, .int 0]))] U.heap ∧ va_K (dC, dI) ly_C [(ca 0, .int), (ca 1, .byte)] U ∧ va_D (fun _ => True) [(h0, .inr (7, [.null, .null, .null, .int 0, .null, .int 0, .int 0, .int 0, .int 0, .int 0, .int 0]))])) (va_Qv (fun _ : Nat → Nat => True) (fun u t => va_P (dC, dI) ly_C [(h0, .inr (7, [.ref h1, .ref (u 0), .ref (u 1), .int 0, .ref (u 2), .int 0, .int 0, .int 0, .int 0, .int 0, .int 0])), ((u 0), .inl (ca 0, 16, .inl (fun _ => 0))), ((u 1), .inl (ca 0, 8, .inl (fun _ => 0))), ((u 2), .inl (ca 0, 100, .inl (fun _ => 0)))] t.heap ∧ va_D (va_A [(h0, .inr (7, [.null, .null, .null, .int 0, .null, .int 0, .int 0, .int 0, .int 0, .int 0, .int 0]))] sz) [(h0, .inr (7, [.ref h1, .ref (u 0), .ref (u 1), .int 0, .ref (u 2), .int 0, .int 0, .int 0, .int 0, .int 0, .int 0])), ((u 0), .inl (ca 0, 16, .inl (fun _ => 0))), ((u 1), .inl (ca 0, 8, .inl (fun _ => 0))), ((u 2), .inl (ca 0, 100, .inl (fun _ => 0)))]) (va_A [(h0, .inr (7, [.null, .null, .null, .int 0, .null, .int 0, .int 0, .int 0, .int 0, .int 0, .int 0]))] sz)) 3 124 (va_A [(h0, .inr (7, [.null, .null, .null, .int 0, .null, .int 0, .int 0, .int 0, .int 0, .int 0, .int 0]))] sz) := by
  refine Met.ofW (cc := cX7_init) (maxL := 2) (ret := none) (by decide) rfl ?_
  intro p e s m args below meth c s₁ B hml hv
  obtain ⟨rfl, hsz, hP, hK, hD0⟩ := hv
  have hx := B.exec
  have hb := B.bytes
  have hr := B.returns
  have hts0 := atoms_spec (ws := ws_y mX7_init) B.pre
  have hts : ∀ w ∈ ly_G, w.before _ s = true := fun w hw => hts0 w (List.mem_cons_of_mem _ hw)
  have hown : s.vm.findClass RX7 = some m.cls := findClass_of_methodNamed B.named
  have hlocks := B.notSynchronized
  have hin : meth.name = "<init>" := (name_of_methodNamed B.named B.method).1
  subst hsz
  have hD := hD0.self (sz := s.heap.size)
  generalize hAe : va_A [(h0, .inr (7, [.null, .null, .null, .int 0, .null, .int 0, .int 0, .int 0, .int 0, .int 0, .int 0]))] s.heap.size = A at hD ⊢
  have hA : ∀ q : Nat, s.heap.size ≤ q → A q := fun q h => by rw [← hAe]; exact Or.inr h
  have hS : va_S A s.heap s.heap [] := va_S.rf
  have hl := lv_entry ([.ref h0, .ref h1]) (n := 2) (Nat.le_of_ble_eq_true rfl)
  rw [lg_entry_eq]
  generalize (lg_sl ([.ref h0, .ref h1]) ++ List.replicate (2 - (lg_sl ([.ref h0, .ref h1])).length) Slot.unset).toArray = ls at hl ⊢
  have hl : lv_has ls 2 [(0, .ref h0), (1, .ref h1)] := hl
  refine lv_aload_n hx hb dX7_init_0 rfl (lv_at hl 0 rfl) ?_
  refine W.objInit hx hb hown (hts _ wk_22) (hts _ wl_oi) (hts _ wl_oc) rfl (by rw [hml]; exact hl.1) rfl dX7_init_1 (Nat.le_of_ble_eq_true rfl) (Nat.le_of_ble_eq_true rfl) ?_
  refine W.eq (g2 := F0 m 4 ls []) rfl ?_
  refine lv_aload_n hx hb dX7_init_4 rfl (lv_at hl 0 rfl) ?_
  refine lv_bipush (v := 16) hx hb dX7_init_5 (by decide) ?_
  refine va_newa (atype := .int) (ty := .int) (a0 := (16, .inl (fun _ => 0))) hx hb (hts (.arrayClass .int) wl_ai) rfl hK hP hD hS hA (fun cA => rfl) (by decide) (by decide) (Nat.le_of_ble_eq_true rfl) (Nat.le_of_ble_eq_true rfl) (Nat.le_of_ble_eq_true rfl) dX7_init_7 (fun q7 cA H hK1 hP hD hS => ?_)
  obtain rfl := ca_eq0 hK1
  have hP : va_P (dC, dI) ly_C [(h0, .inr (7, [.null, .null, .null, .int 0, .null, .int 0, .int 0, .int 0, .int 0, .int 0, .int 0])), (q7, .inl (ca 0, 16, .inl (fun _ => 0)))] H := hP
  have hD : va_D A [(h0, .inr (7, [.null, .null, .null, .int 0, .null, .int 0, .int 0, .int 0, .int 0, .int 0, .int 0])), (q7, .inl (ca 0, 16, .inl (fun _ => 0)))] := hD
  refine W.widen (k := 1) (n := 16) (Nat.le_of_ble_eq_true rfl) (Nat.le_of_ble_eq_true rfl) ?_
  refine va_putF (D := (dC, dI)) (ci := 7) (v := .ref q7) (ty := .array .int) (C := RX7) (T := TX7) (N := 11) hx hb hts igX7 tyX7 tyX7_ok nmX7 hown hK hP hD hS 0 rfl rfl 1 (by decide) (hts _ wk_23) (fun _ h9 => h9) rfl hin rfl (by decide +kernel) rfl rfl (Nat.le_of_ble_eq_true rfl) dX7_init_9 (fun H locs hP hD hS => ?_)
  have hP : va_P (dC, dI) ly_C [(h0, .inr (7, [.null, .ref q7, .null, .int 0, .null, .int 0, .int 0, .int 0, .int 0, .int 0, .int 0])), (q7, .inl (ca 0, 16, .inl (fun _ => 0)))] H := hP
  have hD : va_D A [(h0, .inr (7, [.null, .ref q7, .null, .int 0, .null, .int 0, .int 0, .int 0, .int 0, .int 0, .int 0])), (q7, .inl (ca 0, 16, .inl (fun _ => 0)))] := hD
  refine lv_aload_n hx hb dX7_init_12 rfl (lv_at hl 0 rfl) ?_
  refine lv_bipush (v := 8) hx hb dX7_init_13 (by decide) ?_
  refine va_newa (atype := .int) (ty := .int) (a0 := (8, .inl (fun _ => 0))) hx hb (hts (.arrayClass .int) wl_ai) rfl hK hP hD hS hA (fun cA => rfl) (by decide) (by decide) (Nat.le_of_ble_eq_true rfl) (Nat.le_of_ble_eq_true rfl) (Nat.le_of_ble_eq_true rfl) dX7_init_15 (fun q15 cA H hK1 hP hD hS => ?_)
  obtain rfl := ca_eq0 hK1
  have hP : va_P (dC, dI) ly_C [(h0, .inr (7, [.null, .ref q7, .null, .int 0, .null, .int 0, .int 0, .int 0, .int 0, .int 0, .int 0])), (q7, .inl (ca 0, 16, .inl (fun _ => 0))), (q15, .inl (ca 0, 8, .inl (fun _ => 0)))] H := hP
  have hD : va_D A [(h0, .inr (7, [.null, .ref q7, .null, .int 0, .null, .int 0, .int 0, .int 0, .int 0, .int 0, .int 0])), (q7, .inl (ca 0, 16, .inl (fun _ => 0))), (q15, .inl (ca 0, 8, .inl (fun _ => 0)))] := hD
  refine W.widen (k := 2) (n := 24) (Nat.le_of_ble_eq_true rfl) (Nat.le_of_ble_eq_true rfl) ?_
  refine va_putF (D := (dC, dI)) (ci := 7) (v := .ref q15) (ty := .array .int) (C := RX7) (T := TX7) (N := 11) hx hb hts igX7 tyX7 tyX7_ok nmX7 hown hK hP hD hS 0 rfl rfl 2 (by decide) (hts _ wk_24) (fun _ h9 => h9) rfl hin rfl (by decide +kernel) rfl rfl (Nat.le_of_ble_eq_true rfl) dX7_init_17 (fun H locs hP hD hS => ?_)
  have hP : va_P (dC, dI) ly_C [(h0, .inr (7, [.null, .ref q7, .ref q15, .int 0, .null, .int 0, .int 0, .int 0, .int 0, .int 0, .int 0])), (q7, .inl (ca 0, 16, .inl (fun _ => 0))), (q15, .inl (ca 0, 8, .inl (fun _ => 0)))] H := hP
  have hD : va_D A [(h0, .inr (7, [.null, .ref q7, .ref q15, .int 0, .null, .int 0, .int 0, .int 0, .int 0, .int 0, .int 0])), (q7, .inl (ca 0, 16, .inl (fun _ => 0))), (q15, .inl (ca 0, 8, .inl (fun _ => 0)))] := hD
  refine lv_aload_n hx hb dX7_init_20 rfl (lv_at hl 0 rfl) ?_
  refine lv_iconst (v := 0) hx hb dX7_init_21 (by decide) ?_
  refine va_put (D := (dC, dI)) (ci := 7) (v := .int 0) (ty := .int) (C := RX7) (T := TX7) (N := 11) hx hb hts igX7 tyX7 tyX7_ok nmX7 hown hK hP hD hS 0 rfl rfl 3 (by decide) (hts _ wk_25) (fun _ h9 => h9) rfl (by decide +kernel) rfl rfl (Nat.le_of_ble_eq_true rfl) dX7_init_22 (fun H locs hP hD hS => ?_)
  have hP : va_P (dC, dI) ly_C [(h0, .inr (7, [.null, .ref q7, .ref q15, .int 0, .null, .int 0, .int 0, .int 0, .int 0, .int 0, .int 0])), (q7, .inl (ca 0, 16, .inl (fun _ => 0))), (q15, .inl (ca 0, 8, .inl (fun _ => 0)))] H := hP
  have hD : va_D A [(h0, .inr (7, [.null, .ref q7, .ref q15, .int 0, .null, .int 0, .int 0, .int 0, .int 0, .int 0, .int 0])), (q7, .inl (ca 0, 16, .inl (fun _ => 0))), (q15, .inl (ca 0, 8, .inl (fun _ => 0)))] := hD
  refine lv_aload_n hx hb dX7_init_25 rfl (lv_at hl 0 rfl) ?_
  refine lv_bipush (v := 100) hx hb dX7_init_26 (by decide) ?_
  refine va_newa (atype := .int) (ty := .int) (a0 := (100, .inl (fun _ => 0))) hx hb (hts (.arrayClass .int) wl_ai) rfl hK hP hD hS hA (fun cA => rfl) (by decide) (by decide) (Nat.le_of_ble_eq_true rfl) (Nat.le_of_ble_eq_true rfl) (Nat.le_of_ble_eq_true rfl) dX7_init_28 (fun q28 cA H hK1 hP hD hS => ?_)
  obtain rfl := ca_eq0 hK1
  have hP : va_P (dC, dI) ly_C [(h0, .inr (7, [.null, .ref q7, .ref q15, .int 0, .null, .int 0, .int 0, .int 0, .int 0, .int 0, .int 0])), (q7, .inl (ca 0, 16, .inl (fun _ => 0))), (q15, .inl (ca 0, 8, .inl (fun _ => 0))), (q28, .inl (ca 0, 100, .inl (fun _ => 0)))] H := hP
  have hD : va_D A [(h0, .inr (7, [.null, .ref q7, .ref q15, .int 0, .null, .int 0, .int 0, .int 0, .int 0, .int 0, .int 0])), (q7, .inl (ca 0, 16, .inl (fun _ => 0))), (q15, .inl (ca 0, 8, .inl (fun _ => 0))), (q28, .inl (ca 0, 100, .inl (fun _ => 0)))] := hD
  refine W.widen (k := 3) (n := 124) (Nat.le_of_ble_eq_true rfl) (Nat.le_of_ble_eq_true rfl) ?_
  refine va_putF (D := (dC, dI)) (ci := 7) (v := .ref q28) (ty := .array .int) (C := RX7) (T := TX7) (N := 11) hx hb hts igX7 tyX7 tyX7_ok nmX7 hown hK hP hD hS 0 rfl rfl 4 (by decide) (hts _ wk_26) (fun _ h9 => h9) rfl hin rfl (by decide +kernel) rfl rfl (Nat.le_of_ble_eq_true rfl) dX7_init_30 (fun H locs hP hD hS => ?_)
  have hP : va_P (dC, dI) ly_C [(h0, .inr (7, [.null, .ref q7, .ref q15, .int 0, .ref q28, .int 0, .int 0, .int 0, .int 0, .int 0, .int 0])), (q7, .inl (ca 0, 16, .inl (fun _ => 0))), (q15, .inl (ca 0, 8, .inl (fun _ => 0))), (q28, .inl (ca 0, 100, .inl (fun _ => 0)))] H := hP
  have hD : va_D A [(h0, .inr (7, [.null, .ref q7, .ref q15, .int 0, .ref q28, .int 0, .int 0, .int 0, .int 0, .int 0, .int 0])), (q7, .inl (ca 0, 16, .inl (fun _ => 0))), (q15, .inl (ca 0, 8, .inl (fun _ => 0))), (q28, .inl (ca 0, 100, .inl (fun _ => 0)))] := hD
  refine lv_aload_n hx hb dX7_init_33 rfl (lv_at hl 0 rfl) ?_
  refine lv_iconst (v := 0) hx hb dX7_init_34 (by decide) ?_
  refine va_put (D := (dC, dI)) (ci := 7) (v := .int 0) (ty := .int) (C := RX7) (T := TX7) (N := 11) hx hb hts igX7 tyX7 tyX7_ok nmX7 hown hK hP hD hS 0 rfl rfl 5 (by decide) (hts _ wk_27) (fun _ h9 => h9) rfl (by decide +kernel) rfl rfl (Nat.le_of_ble_eq_true rfl) dX7_init_35 (fun H locs hP hD hS => ?_)
  have hP : va_P (dC, dI) ly_C [(h0, .inr (7, [.null, .ref q7, .ref q15, .int 0, .ref q28, .int 0, .int 0, .int 0, .int 0, .int 0, .int 0])), (q7, .inl (ca 0, 16, .inl (fun _ => 0))), (q15, .inl (ca 0, 8, .inl (fun _ => 0))), (q28, .inl (ca 0, 100, .inl (fun _ => 0)))] H := hP
  have hD : va_D A [(h0, .inr (7, [.null, .ref q7, .ref q15, .int 0, .ref q28, .int 0, .int 0, .int 0, .int 0, .int 0, .int 0])), (q7, .inl (ca 0, 16, .inl (fun _ => 0))), (q15, .inl (ca 0, 8, .inl (fun _ => 0))), (q28, .inl (ca 0, 100, .inl (fun _ => 0)))] := hD
  refine lv_aload_n hx hb dX7_init_38 rfl (lv_at hl 0 rfl) ?_
  refine lv_iconst (v := 0) hx hb dX7_init_39 (by decide) ?_
  refine va_put (D := (dC, dI)) (ci := 7) (v := .int 0) (ty := .int) (C := RX7) (T := TX7) (N := 11) hx hb hts igX7 tyX7 tyX7_ok nmX7 hown hK hP hD hS 0 rfl rfl 6 (by decide) (hts _ wk_28) (fun _ h9 => h9) rfl (by decide +kernel) rfl rfl (Nat.le_of_ble_eq_true rfl) dX7_init_40 (fun H locs hP hD hS => ?_)
  have hP : va_P (dC, dI) ly_C [(h0, .inr (7, [.null, .ref q7, .ref q15, .int 0, .ref q28, .int 0, .int 0, .int 0, .int 0, .int 0, .int 0])), (q7, .inl (ca 0, 16, .inl (fun _ => 0))), (q15, .inl (ca 0, 8, .inl (fun _ => 0))), (q28, .inl (ca 0, 100, .inl (fun _ => 0)))] H := hP
  have hD : va_D A [(h0, .inr (7, [.null, .ref q7, .ref q15, .int 0, .ref q28, .int 0, .int 0, .int 0, .int 0, .int 0, .int 0])), (q7, .inl (ca 0, 16, .inl (fun _ => 0))), (q15, .inl (ca 0, 8, .inl (fun _ => 0))), (q28, .inl (ca 0, 100, .inl (fun _ => 0)))] := hD
  refine lv_aload_n hx hb dX7_init_43 rfl (lv_at hl 0 rfl) ?_
  refine lv_iconst (v := 0) hx hb dX7_init_44 (by decide) ?_
  refine va_put (D := (dC, dI)) (ci := 7) (v := .int 0) (ty := .int) (C := RX7) (T := TX7) (N := 11) hx hb hts igX7 tyX7 tyX7_ok nmX7 hown hK hP hD hS 0 rfl rfl 7 (by decide) (hts _ wk_29) (fun _ h9 => h9) rfl (by decide +kernel) rfl rfl (Nat.le_of_ble_eq_true rfl) dX7_init_45 (fun H locs hP hD hS => ?_)
  have hP : va_P (dC, dI) ly_C [(h0, .inr (7, [.null, .ref q7, .ref q15, .int 0, .ref q28, .int 0, .int 0, .int 0, .int 0, .int 0, .int 0])), (q7, .inl (ca 0, 16, .inl (fun _ => 0))), (q15, .inl (ca 0, 8, .inl (fun _ => 0))), (q28, .inl (ca 0, 100, .inl (fun _ => 0)))] H := hP
  have hD : va_D A [(h0, .inr (7, [.null, .ref q7, .ref q15, .int 0, .ref q28, .int 0, .int 0, .int 0, .int 0, .int 0, .int 0])), (q7, .inl (ca 0, 16, .inl (fun _ => 0))), (q15, .inl (ca 0, 8, .inl (fun _ => 0))), (q28, .inl (ca 0, 100, .inl (fun _ => 0)))] := hD
  refine lv_aload_n hx hb dX7_init_48 rfl (lv_at hl 0 rfl) ?_
  refine lv_iconst (v := 0) hx hb dX7_init_49 (by decide) ?_
  refine va_put (D := (dC, dI)) (ci := 7) (v := .int 0) (ty := .int) (C := RX7) (T := TX7) (N := 11) hx hb hts igX7 tyX7 tyX7_ok nmX7 hown hK hP hD hS 0 rfl rfl 8 (by decide) (hts _ wk_30) (fun _ h9 => h9) rfl (by decide +kernel) rfl rfl (Nat.le_of_ble_eq_true rfl) dX7_init_50 (fun H locs hP hD hS => ?_)
  have hP : va_P (dC, dI) ly_C [(h0, .inr (7, [.null, .ref q7, .ref q15, .int 0, .ref q28, .int 0, .int 0, .int 0, .int 0, .int 0, .int 0])), (q7, .inl (ca 0, 16, .inl (fun _ => 0))), (q15, .inl (ca 0, 8, .inl (fun _ => 0))), (q28, .inl (ca 0, 100, .inl (fun _ => 0)))] H := hP
  have hD : va_D A [(h0, .inr (7, [.null, .ref q7, .ref q15, .int 0, .ref q28, .int 0, .int 0, .int 0, .int 0, .int 0, .int 0])), (q7, .inl (ca 0, 16, .inl (fun _ => 0))), (q15, .inl (ca 0, 8, .inl (fun _ => 0))), (q28, .inl (ca 0, 100, .inl (fun _ => 0)))] := hD
  refine lv_aload_n hx hb dX7_init_53 rfl (lv_at hl 0 rfl) ?_
  refine lv_iconst (v := 0) hx hb dX7_init_54 (by decide) ?_
  refine va_put (D := (dC, dI)) (ci := 7) (v := .int 0) (ty := .int) (C := RX7) (T := TX7) (N := 11) hx hb hts igX7 tyX7 tyX7_ok nmX7 hown hK hP hD hS 0 rfl rfl 9 (by decide) (hts _ wk_31) (fun _ h9 => h9) rfl (by decide +kernel) rfl rfl (Nat.le_of_ble_eq_true rfl) dX7_init_55 (fun H locs hP hD hS => ?_)
  have hP : va_P (dC, dI) ly_C [(h0, .inr (7, [.null, .ref q7, .ref q15, .int 0, .ref q28, .int 0, .int 0, .int 0, .int 0, .int 0, .int 0])), (q7, .inl (ca 0, 16, .inl (fun _ => 0))), (q15, .inl (ca 0, 8, .inl (fun _ => 0))), (q28, .inl (ca 0, 100, .inl (fun _ => 0)))] H := hP
  have hD : va_D A [(h0, .inr (7, [.null, .ref q7, .ref q15, .int 0, .ref q28, .int 0, .int 0, .int 0, .int 0, .int 0, .int 0])), (q7, .inl (ca 0, 16, .inl (fun _ => 0))), (q15, .inl (ca 0, 8, .inl (fun _ => 0))), (q28, .inl (ca 0, 100, .inl (fun _ => 0)))] := hD
  refine lv_aload_n hx hb dX7_init_58 rfl (lv_at hl 0 rfl) ?_
  refine lv_iconst (v := 0) hx hb dX7_init_59 (by decide) ?_
  refine va_put (D := (dC, dI)) (ci := 7) (v := .int 0) (ty := .boolean) (C := RX7) (T := TX7) (N := 11) hx hb hts igX7 tyX7 tyX7_ok nmX7 hown hK hP hD hS 0 rfl rfl 10 (by decide) (hts _ wk_32) (fun _ h9 => h9) rfl (by decide +kernel) rfl rfl (Nat.le_of_ble_eq_true rfl) dX7_init_60 (fun H locs hP hD hS => ?_)
  have hP : va_P (dC, dI) ly_C [(h0, .inr (7, [.null, .ref q7, .ref q15, .int 0, .ref q28, .int 0, .int 0, .int 0, .int 0, .int 0, .int 0])), (q7, .inl (ca 0, 16, .inl (fun _ => 0))), (q15, .inl (ca 0, 8, .inl (fun _ => 0))), (q28, .inl (ca 0, 100, .inl (fun _ => 0)))] H := hP
  have hD : va_D A [(h0, .inr (7, [.null, .ref q7, .ref q15, .int 0, .ref q28, .int 0, .int 0, .int 0, .int 0, .int 0, .int 0])), (q7, .inl (ca 0, 16, .inl (fun _ => 0))), (q15, .inl (ca 0, 8, .inl (fun _ => 0))), (q28, .inl (ca 0, 100, .inl (fun _ => 0)))] := hD
  refine lv_aload_n hx hb dX7_init_63 rfl (lv_at hl 0 rfl) ?_
  refine lv_aload_n hx hb dX7_init_64 rfl (lv_at hl 1 rfl) ?_
  refine va_putF (D := (dC, dI)) (ci := 7) (v := .ref h1) (ty := .object "PathInterdiction$Graph") (C := RX7) (T := TX7) (N := 11) hx hb hts igX7 tyX7 tyX7_ok nmX7 hown hK hP hD hS 0 rfl rfl 0 (by decide) (hts _ wk_33) (fun _ h9 => h9) rfl hin rfl (by decide +kernel) rfl rfl (Nat.le_of_ble_eq_true rfl) dX7_init_65 (fun H locs hP hD hS => ?_)
  have hP : va_P (dC, dI) ly_C [(h0, .inr (7, [.ref h1, .ref q7, .ref q15, .int 0, .ref q28, .int 0, .int 0, .int 0, .int 0, .int 0, .int 0])), (q7, .inl (ca 0, 16, .inl (fun _ => 0))), (q15, .inl (ca 0, 8, .inl (fun _ => 0))), (q28, .inl (ca 0, 100, .inl (fun _ => 0)))] H := hP
  have hD : va_D A [(h0, .inr (7, [.ref h1, .ref q7, .ref q15, .int 0, .ref q28, .int 0, .int 0, .int 0, .int 0, .int 0, .int 0])), (q7, .inl (ca 0, 16, .inl (fun _ => 0))), (q15, .inl (ca 0, 8, .inl (fun _ => 0))), (q28, .inl (ca 0, 100, .inl (fun _ => 0)))] := hD
  have hP9 := hP.sub (ws' := [(h0, .inr (7, [.ref h1, .ref q7, .ref q15, .int 0, .ref q28, .int 0, .int 0, .int 0, .int 0, .int 0, .int 0])), (q7, .inl (ca 0, 16, .inl (fun _ => 0))), (q15, .inl (ca 0, 8, .inl (fun _ => 0))), (q28, .inl (ca 0, 100, .inl (fun _ => 0)))]) [0, 1, 2, 3] rfl
  have hD9 := hD.sub (ws' := [(h0, .inr (7, [.ref h1, .ref q7, .ref q15, .int 0, .ref q28, .int 0, .int 0, .int 0, .int 0, .int 0, .int 0])), (q7, .inl (ca 0, 16, .inl (fun _ => 0))), (q15, .inl (ca 0, 8, .inl (fun _ => 0))), (q28, .inl (ca 0, 100, .inl (fun _ => 0)))]) [0, 1, 2, 3] (by decide) rfl
  exact W.vret hx hb hr (fun t ht hW => ⟨⟨fun i => [q7, q15, q28].getD i 0, rfl, trivial, by rw [ht]; exact hP9, hD9⟩, hS.F ht⟩) hS.2.2 dX7_init_68

set_option maxHeartbeats 4000000 in
set_option maxRecDepth 100000 in
theorem k_X0_init (l : Launch) (dC : Nat → ClassId) (dI : Nat → Nat → Nat) (ca : Nat → ClassId) (h0 h1 h2 sz : Nat) : Met l mX0_init.1 (ws_y mX0_init) ({ frames := 1, cells := 0, slots := 0, locals := 12 }) (va_Pc [.ref h0, .ref h1, .ref h2] (fun U => U.heap.size = sz ∧ va_P (dC, dI) ly_C [(h0, .inr (0, [.null, .null, .int 0, .int 0, .int 0, .int 0, .int 0, .int 0, .int 0, .int 0, .int 0, .int 0]))] U.heap ∧ va_K (dC, dI) ly_C [(ca 0, .int), (ca 1, .byte)] U ∧ va_D (fun _ => True) [(h0, .inr (0, [.null, .null, .int 0, .int 0, .int 0, .int 0, .int 0, .int 0, .int 0, .int 0, .int 0, .int 0]))])) (va_Qv (fun _ : Nat → Nat => True) (fun u t => va_P (dC, dI) ly_C [(h0, .inr (0, [.ref h1, .ref h2, .int 0, .int 0, .int 0, .int 0, .int 0, .int 0, .int 0, .int 0, .int 0, .int 0]))] t.heap ∧ va_D (va_A [(h0, .inr (0, [.null, .null, .int 0, .int 0, .int 0, .int 0, .int 0, .int 0, .int 0, .int 0, .int 0, .int 0]))] sz) [(h0, .inr (0, [.ref h1, .ref h2, .int 0, .int 0, .int 0, .int 0, .int 0, .int 0, .int 0, .int 0, .int 0, .int 0]))]) (va_A [(h0, .inr (0, [.null, .null, .int 0, .int 0, .int 0, .int 0, .int 0, .int 0, .int 0, .int 0, .int 0, .int 0]))] sz)) 0 0 (va_A [(h0, .inr (0, [.null, .null, .int 0, .int 0, .int 0, .int 0, .int 0, .int 0, .int 0, .int 0, .int 0, .int 0]))] sz) := by
  refine Met.ofW (cc := cX0_init) (maxL := 3) (ret := none) (by decide) rfl ?_
  intro p e s m args below meth c s₁ B hml hv
  obtain ⟨rfl, hsz, hP, hK, hD0⟩ := hv
  have hx := B.exec
  have hb := B.bytes
  have hr := B.returns
  have hts0 := atoms_spec (ws := ws_y mX0_init) B.pre
  have hts : ∀ w ∈ ly_G, w.before _ s = true := fun w hw => hts0 w (List.mem_cons_of_mem _ hw)
  have hown : s.vm.findClass RX0 = some m.cls := findClass_of_methodNamed B.named
  have hlocks := B.notSynchronized
  have hin : meth.name = "<init>" := (name_of_methodNamed B.named B.method).1
  subst hsz
  have hD := hD0.self (sz := s.heap.size)
  generalize hAe : va_A [(h0, .inr (0, [.null, .null, .int 0, .int 0, .int 0, .int 0, .int 0, .int 0, .int 0, .int 0, .int 0, .int 0]))] s.heap.size = A at hD ⊢
  have hA : ∀ q : Nat, s.heap.size ≤ q → A q := fun q h => by rw [← hAe]; exact Or.inr h
  have hS : va_S A s.heap s.heap [] := va_S.rf
  have hl := lv_entry ([.ref h0, .ref h1, .ref h2]) (n := 3) (Nat.le_of_ble_eq_true rfl)
  rw [lg_entry_eq]
  generalize (lg_sl ([.ref h0, .ref h1, .ref h2]) ++ List.replicate (3 - (lg_sl ([.ref h0, .ref h1, .ref h2])).length) Slot.unset).toArray = ls at hl ⊢
  have hl : lv_has ls 3 [(0, .ref h0), (1, .ref h1), (2, .ref h2)] := hl
  refine lv_aload_n hx hb dX0_init_0 rfl (lv_at hl 0 rfl) ?_
  refine W.objInit hx hb hown (hts _ wk_34) (hts _ wl_oi) (hts _ wl_oc) rfl (by rw [hml]; exact hl.1) rfl dX0_init_1 (Nat.le_of_ble_eq_true rfl) (Nat.le_of_ble_eq_true rfl) ?_
  refine W.eq (g2 := F0 m 4 ls []) rfl ?_
  refine lv_aload_n hx hb dX0_init_4 rfl (lv_at hl 0 rfl) ?_
  refine lv_iconst (v := 0) hx hb dX0_init_5 (by decide) ?_
  refine va_put (D := (dC, dI)) (ci := 0) (v := .int 0) (ty := .int) (C := RX0) (T := TX0) (N := 12) hx hb hts igX0 tyX0 tyX0_ok nmX0 hown hK hP hD hS 0 rfl rfl 2 (by decide) (hts _ wk_35) (fun _ h9 => h9) rfl (by decide +kernel) rfl rfl (Nat.le_of_ble_eq_true rfl) dX0_init_6 (fun H locs hP hD hS => ?_)
  have hP : va_P (dC, dI) ly_C [(h0, .inr (0, [.null, .null, .int 0, .int 0, .int 0, .int 0, .int 0, .int 0, .int 0, .int 0, .int 0, .int 0]))] H := hP
  have hD : va_D A [(h0, .inr (0, [.null, .null, .int 0, .int 0, .int 0, .int 0, .int 0, .int 0, .int 0, .int 0, .int 0, .int 0]))] := hD
  refine lv_aload_n hx hb dX0_init_9 rfl (lv_at hl 0 rfl) ?_
  refine lv_iconst (v := 0) hx hb dX0_init_10 (by decide) ?_
  refine va_put (D := (dC, dI)) (ci := 0) (v := .int 0) (ty := .int) (C := RX0) (T := TX0) (N := 12) hx hb hts igX0 tyX0 tyX0_ok nmX0 hown hK hP hD hS 0 rfl rfl 3 (by decide) (hts _ wk_36) (fun _ h9 => h9) rfl (by decide +kernel) rfl rfl (Nat.le_of_ble_eq_true rfl) dX0_init_11 (fun H locs hP hD hS => ?_)
  have hP : va_P (dC, dI) ly_C [(h0, .inr (0, [.null, .null, .int 0, .int 0, .int 0, .int 0, .int 0, .int 0, .int 0, .int 0, .int 0, .int 0]))] H := hP
  have hD : va_D A [(h0, .inr (0, [.null, .null, .int 0, .int 0, .int 0, .int 0, .int 0, .int 0, .int 0, .int 0, .int 0, .int 0]))] := hD
  refine lv_aload_n hx hb dX0_init_14 rfl (lv_at hl 0 rfl) ?_
  refine lv_iconst (v := 0) hx hb dX0_init_15 (by decide) ?_
  refine va_put (D := (dC, dI)) (ci := 0) (v := .int 0) (ty := .int) (C := RX0) (T := TX0) (N := 12) hx hb hts igX0 tyX0 tyX0_ok nmX0 hown hK hP hD hS 0 rfl rfl 4 (by decide) (hts _ wk_37) (fun _ h9 => h9) rfl (by decide +kernel) rfl rfl (Nat.le_of_ble_eq_true rfl) dX0_init_16 (fun H locs hP hD hS => ?_)
  have hP : va_P (dC, dI) ly_C [(h0, .inr (0, [.null, .null, .int 0, .int 0, .int 0, .int 0, .int 0, .int 0, .int 0, .int 0, .int 0, .int 0]))] H := hP
  have hD : va_D A [(h0, .inr (0, [.null, .null, .int 0, .int 0, .int 0, .int 0, .int 0, .int 0, .int 0, .int 0, .int 0, .int 0]))] := hD
  refine lv_aload_n hx hb dX0_init_19 rfl (lv_at hl 0 rfl) ?_
  refine lv_iconst (v := 0) hx hb dX0_init_20 (by decide) ?_
  refine va_put (D := (dC, dI)) (ci := 0) (v := .int 0) (ty := .int) (C := RX0) (T := TX0) (N := 12) hx hb hts igX0 tyX0 tyX0_ok nmX0 hown hK hP hD hS 0 rfl rfl 5 (by decide) (hts _ wk_38) (fun _ h9 => h9) rfl (by decide +kernel) rfl rfl (Nat.le_of_ble_eq_true rfl) dX0_init_21 (fun H locs hP hD hS => ?_)
  have hP : va_P (dC, dI) ly_C [(h0, .inr (0, [.null, .null, .int 0, .int 0, .int 0, .int 0, .int 0, .int 0, .int 0, .int 0, .int 0, .int 0]))] H := hP
  have hD : va_D A [(h0, .inr (0, [.null, .null, .int 0, .int 0, .int 0, .int 0, .int 0, .int 0, .int 0, .int 0, .int 0, .int 0]))] := hD
  refine lv_aload_n hx hb dX0_init_24 rfl (lv_at hl 0 rfl) ?_
  refine lv_iconst (v := 0) hx hb dX0_init_25 (by decide) ?_
  refine va_put (D := (dC, dI)) (ci := 0) (v := .int 0) (ty := .int) (C := RX0) (T := TX0) (N := 12) hx hb hts igX0 tyX0 tyX0_ok nmX0 hown hK hP hD hS 0 rfl rfl 6 (by decide) (hts _ wk_39) (fun _ h9 => h9) rfl (by decide +kernel) rfl rfl (Nat.le_of_ble_eq_true rfl) dX0_init_26 (fun H locs hP hD hS => ?_)
  have hP : va_P (dC, dI) ly_C [(h0, .inr (0, [.null, .null, .int 0, .int 0, .int 0, .int 0, .int 0, .int 0, .int 0, .int 0, .int 0, .int 0]))] H := hP
  have hD : va_D A [(h0, .inr (0, [.null, .null, .int 0, .int 0, .int 0, .int 0, .int 0, .int 0, .int 0, .int 0, .int 0, .int 0]))] := hD
  refine lv_aload_n hx hb dX0_init_29 rfl (lv_at hl 0 rfl) ?_
  refine lv_iconst (v := 0) hx hb dX0_init_30 (by decide) ?_
  refine va_put (D := (dC, dI)) (ci := 0) (v := .int 0) (ty := .boolean) (C := RX0) (T := TX0) (N := 12) hx hb hts igX0 tyX0 tyX0_ok nmX0 hown hK hP hD hS 0 rfl rfl 7 (by decide) (hts _ wk_40) (fun _ h9 => h9) rfl (by decide +kernel) rfl rfl (Nat.le_of_ble_eq_true rfl) dX0_init_31 (fun H locs hP hD hS => ?_)
  have hP : va_P (dC, dI) ly_C [(h0, .inr (0, [.null, .null, .int 0, .int 0, .int 0, .int 0, .int 0, .int 0, .int 0, .int 0, .int 0, .int 0]))] H := hP
  have hD : va_D A [(h0, .inr (0, [.null, .null, .int 0, .int 0, .int 0, .int 0, .int 0, .int 0, .int 0, .int 0, .int 0, .int 0]))] := hD
  refine lv_aload_n hx hb dX0_init_34 rfl (lv_at hl 0 rfl) ?_
  refine lv_iconst (v := 0) hx hb dX0_init_35 (by decide) ?_
  refine va_put (D := (dC, dI)) (ci := 0) (v := .int 0) (ty := .int) (C := RX0) (T := TX0) (N := 12) hx hb hts igX0 tyX0 tyX0_ok nmX0 hown hK hP hD hS 0 rfl rfl 8 (by decide) (hts _ wk_41) (fun _ h9 => h9) rfl (by decide +kernel) rfl rfl (Nat.le_of_ble_eq_true rfl) dX0_init_36 (fun H locs hP hD hS => ?_)
  have hP : va_P (dC, dI) ly_C [(h0, .inr (0, [.null, .null, .int 0, .int 0, .int 0, .int 0, .int 0, .int 0, .int 0, .int 0, .int 0, .int 0]))] H := hP
  have hD : va_D A [(h0, .inr (0, [.null, .null, .int 0, .int 0, .int 0, .int 0, .int 0, .int 0, .int 0, .int 0, .int 0, .int 0]))] := hD
  refine lv_aload_n hx hb dX0_init_39 rfl (lv_at hl 0 rfl) ?_
  refine lv_iconst (v := 0) hx hb dX0_init_40 (by decide) ?_
  refine va_put (D := (dC, dI)) (ci := 0) (v := .int 0) (ty := .int) (C := RX0) (T := TX0) (N := 12) hx hb hts igX0 tyX0 tyX0_ok nmX0 hown hK hP hD hS 0 rfl rfl 9 (by decide) (hts _ wk_42) (fun _ h9 => h9) rfl (by decide +kernel) rfl rfl (Nat.le_of_ble_eq_true rfl) dX0_init_41 (fun H locs hP hD hS => ?_)
  have hP : va_P (dC, dI) ly_C [(h0, .inr (0, [.null, .null, .int 0, .int 0, .int 0, .int 0, .int 0, .int 0, .int 0, .int 0, .int 0, .int 0]))] H := hP
  have hD : va_D A [(h0, .inr (0, [.null, .null, .int 0, .int 0, .int 0, .int 0, .int 0, .int 0, .int 0, .int 0, .int 0, .int 0]))] := hD
  refine lv_aload_n hx hb dX0_init_44 rfl (lv_at hl 0 rfl) ?_
  refine lv_iconst (v := 0) hx hb dX0_init_45 (by decide) ?_
  refine va_put (D := (dC, dI)) (ci := 0) (v := .int 0) (ty := .int) (C := RX0) (T := TX0) (N := 12) hx hb hts igX0 tyX0 tyX0_ok nmX0 hown hK hP hD hS 0 rfl rfl 10 (by decide) (hts _ wk_43) (fun _ h9 => h9) rfl (by decide +kernel) rfl rfl (Nat.le_of_ble_eq_true rfl) dX0_init_46 (fun H locs hP hD hS => ?_)
  have hP : va_P (dC, dI) ly_C [(h0, .inr (0, [.null, .null, .int 0, .int 0, .int 0, .int 0, .int 0, .int 0, .int 0, .int 0, .int 0, .int 0]))] H := hP
  have hD : va_D A [(h0, .inr (0, [.null, .null, .int 0, .int 0, .int 0, .int 0, .int 0, .int 0, .int 0, .int 0, .int 0, .int 0]))] := hD
  refine lv_aload_n hx hb dX0_init_49 rfl (lv_at hl 0 rfl) ?_
  refine lv_iconst (v := 0) hx hb dX0_init_50 (by decide) ?_
  refine va_put (D := (dC, dI)) (ci := 0) (v := .int 0) (ty := .int) (C := RX0) (T := TX0) (N := 12) hx hb hts igX0 tyX0 tyX0_ok nmX0 hown hK hP hD hS 0 rfl rfl 11 (by decide) (hts _ wk_44) (fun _ h9 => h9) rfl (by decide +kernel) rfl rfl (Nat.le_of_ble_eq_true rfl) dX0_init_51 (fun H locs hP hD hS => ?_)
  have hP : va_P (dC, dI) ly_C [(h0, .inr (0, [.null, .null, .int 0, .int 0, .int 0, .int 0, .int 0, .int 0, .int 0, .int 0, .int 0, .int 0]))] H := hP
  have hD : va_D A [(h0, .inr (0, [.null, .null, .int 0, .int 0, .int 0, .int 0, .int 0, .int 0, .int 0, .int 0, .int 0, .int 0]))] := hD
  refine lv_aload_n hx hb dX0_init_54 rfl (lv_at hl 0 rfl) ?_
  refine lv_aload_n hx hb dX0_init_55 rfl (lv_at hl 1 rfl) ?_
  refine va_putF (D := (dC, dI)) (ci := 0) (v := .ref h1) (ty := .object "PathInterdiction$Graph") (C := RX0) (T := TX0) (N := 12) hx hb hts igX0 tyX0 tyX0_ok nmX0 hown hK hP hD hS 0 rfl rfl 0 (by decide) (hts _ wk_45) (fun _ h9 => h9) rfl hin rfl (by decide +kernel) rfl rfl (Nat.le_of_ble_eq_true rfl) dX0_init_56 (fun H locs hP hD hS => ?_)
  have hP : va_P (dC, dI) ly_C [(h0, .inr (0, [.ref h1, .null, .int 0, .int 0, .int 0, .int 0, .int 0, .int 0, .int 0, .int 0, .int 0, .int 0]))] H := hP
  have hD : va_D A [(h0, .inr (0, [.ref h1, .null, .int 0, .int 0, .int 0, .int 0, .int 0, .int 0, .int 0, .int 0, .int 0, .int 0]))] := hD
  refine lv_aload_n hx hb dX0_init_59 rfl (lv_at hl 0 rfl) ?_
  refine lv_aload_n hx hb dX0_init_60 rfl (lv_at hl 2 rfl) ?_
  refine va_putF (D := (dC, dI)) (ci := 0) (v := .ref h2) (ty := .object "PathInterdiction$Router") (C := RX0) (T := TX0) (N := 12) hx hb hts igX0 tyX0 tyX0_ok nmX0 hown hK hP hD hS 0 rfl rfl 1 (by decide) (hts _ wk_46) (fun _ h9 => h9) rfl hin rfl (by decide +kernel) rfl rfl (Nat.le_of_ble_eq_true rfl) dX0_init_61 (fun H locs hP hD hS => ?_)
  have hP : va_P (dC, dI) ly_C [(h0, .inr (0, [.ref h1, .ref h2, .int 0, .int 0, .int 0, .int 0, .int 0, .int 0, .int 0, .int 0, .int 0, .int 0]))] H := hP
  have hD : va_D A [(h0, .inr (0, [.ref h1, .ref h2, .int 0, .int 0, .int 0, .int 0, .int 0, .int 0, .int 0, .int 0, .int 0, .int 0]))] := hD
  have hP9 := hP.sub (ws' := [(h0, .inr (0, [.ref h1, .ref h2, .int 0, .int 0, .int 0, .int 0, .int 0, .int 0, .int 0, .int 0, .int 0, .int 0]))]) [0] rfl
  have hD9 := hD.sub (ws' := [(h0, .inr (0, [.ref h1, .ref h2, .int 0, .int 0, .int 0, .int 0, .int 0, .int 0, .int 0, .int 0, .int 0, .int 0]))]) [0] (by decide) rfl
  exact W.vret hx hb hr (fun t ht hW => ⟨⟨fun i => [].getD i 0, rfl, trivial, by rw [ht]; exact hP9, hD9⟩, hS.F ht⟩) hS.2.2 dX0_init_64

set_option maxHeartbeats 4000000 in
set_option maxRecDepth 100000 in
theorem k_X3_init (l : Launch) (dC : Nat → ClassId) (dI : Nat → Nat → Nat) (ca : Nat → ClassId) (h0 h1 h2 sz : Nat) : Met l mX3_init.1 (ws_y mX3_init) ({ frames := 1, cells := 0, slots := 0, locals := 12 }) (va_Pc [.ref h0, .ref h1, .ref h2] (fun U => U.heap.size = sz ∧ va_P (dC, dI) ly_C [(h0, .inr (3, [.null, .null, .int 0]))] U.heap ∧ va_K (dC, dI) ly_C [(ca 0, .int), (ca 1, .byte)] U ∧ va_D (fun _ => True) [(h0, .inr (3, [.null, .null, .int 0]))])) (va_Qv (fun _ : Nat → Nat => True) (fun u t => va_P (dC, dI) ly_C [(h0, .inr (3, [.ref h1, .ref h2, .int 0]))] t.heap ∧ va_D (va_A [(h0, .inr (3, [.null, .null, .int 0]))] sz) [(h0, .inr (3, [.ref h1, .ref h2, .int 0]))]) (va_A [(h0, .inr (3, [.null, .null, .int 0]))] sz)) 0 0 (va_A [(h0, .inr (3, [.null, .null, .int 0]))] sz) := by
  refine Met.ofW (cc := cX3_init) (maxL := 3) (ret := none) (by decide) rfl ?_
  intro p e s m args below meth c s₁ B hml hv
  obtain ⟨rfl, hsz, hP, hK, hD0⟩ := hv
  have hx := B.exec
  have hb := B.bytes
  have hr := B.returns
  have hts0 := atoms_spec (ws := ws_y mX3_init) B.pre
  have hts : ∀ w ∈ ly_G, w.before _ s = true := fun w hw => hts0 w (List.mem_cons_of_mem _ hw)
  have hown : s.vm.findClass RX3 = some m.cls := findClass_of_methodNamed B.named
  have hlocks := B.notSynchronized
  have hin : meth.name = "<init>" := (name_of_methodNamed B.named B.method).1
  subst hsz
  have hD := hD0.self (sz := s.heap.size)
  generalize hAe : va_A [(h0, .inr (3, [.null, .null, .int 0]))] s.heap.size = A at hD ⊢
  have hA : ∀ q : Nat, s.heap.size ≤ q → A q := fun q h => by rw [← hAe]; exact Or.inr h
  have hS : va_S A s.heap s.heap [] := va_S.rf
  have hl := lv_entry ([.ref h0, .ref h1, .ref h2]) (n := 3) (Nat.le_of_ble_eq_true rfl)
  rw [lg_entry_eq]
  generalize (lg_sl ([.ref h0, .ref h1, .ref h2]) ++ List.replicate (3 - (lg_sl ([.ref h0, .ref h1, .ref h2])).length) Slot.unset).toArray = ls at hl ⊢
  have hl : lv_has ls 3 [(0, .ref h0), (1, .ref h1), (2, .ref h2)] := hl
  refine lv_aload_n hx hb dX3_init_0 rfl (lv_at hl 0 rfl) ?_
  refine W.objInit hx hb hown (hts _ wk_47) (hts _ wl_oi) (hts _ wl_oc) rfl (by rw [hml]; exact hl.1) rfl dX3_init_1 (Nat.le_of_ble_eq_true rfl) (Nat.le_of_ble_eq_true rfl) ?_
  refine W.eq (g2 := F0 m 4 ls []) rfl ?_
  refine lv_aload_n hx hb dX3_init_4 rfl (lv_at hl 0 rfl) ?_
  refine lv_iconst (v := 0) hx hb dX3_init_5 (by decide) ?_
  refine va_put (D := (dC, dI)) (ci := 3) (v := .int 0) (ty := .int) (C := RX3) (T := TX3) (N := 3) hx hb hts igX3 tyX3 tyX3_ok nmX3 hown hK hP hD hS 0 rfl rfl 2 (by decide) (hts _ wk_48) (fun _ h9 => h9) rfl (by decide +kernel) rfl rfl (Nat.le_of_ble_eq_true rfl) dX3_init_6 (fun H locs hP hD hS => ?_)
  have hP : va_P (dC, dI) ly_C [(h0, .inr (3, [.null, .null, .int 0]))] H := hP
  have hD : va_D A [(h0, .inr (3, [.null, .null, .int 0]))] := hD
  refine lv_aload_n hx hb dX3_init_9 rfl (lv_at hl 0 rfl) ?_
  refine lv_aload_n hx hb dX3_init_10 rfl (lv_at hl 1 rfl) ?_
  refine va_putF (D := (dC, dI)) (ci := 3) (v := .ref h1) (ty := .object "PathInterdiction$Graph") (C := RX3) (T := TX3) (N := 3) hx hb hts igX3 tyX3 tyX3_ok nmX3 hown hK hP hD hS 0 rfl rfl 0 (by decide) (hts _ wk_49) (fun _ h9 => h9) rfl hin rfl (by decide +kernel) rfl rfl (Nat.le_of_ble_eq_true rfl) dX3_init_11 (fun H locs hP hD hS => ?_)
  have hP : va_P (dC, dI) ly_C [(h0, .inr (3, [.ref h1, .null, .int 0]))] H := hP
  have hD : va_D A [(h0, .inr (3, [.ref h1, .null, .int 0]))] := hD
  refine lv_aload_n hx hb dX3_init_14 rfl (lv_at hl 0 rfl) ?_
  refine lv_aload_n hx hb dX3_init_15 rfl (lv_at hl 2 rfl) ?_
  refine va_putF (D := (dC, dI)) (ci := 3) (v := .ref h2) (ty := .object "PathInterdiction$Router") (C := RX3) (T := TX3) (N := 3) hx hb hts igX3 tyX3 tyX3_ok nmX3 hown hK hP hD hS 0 rfl rfl 1 (by decide) (hts _ wk_50) (fun _ h9 => h9) rfl hin rfl (by decide +kernel) rfl rfl (Nat.le_of_ble_eq_true rfl) dX3_init_16 (fun H locs hP hD hS => ?_)
  have hP : va_P (dC, dI) ly_C [(h0, .inr (3, [.ref h1, .ref h2, .int 0]))] H := hP
  have hD : va_D A [(h0, .inr (3, [.ref h1, .ref h2, .int 0]))] := hD
  have hP9 := hP.sub (ws' := [(h0, .inr (3, [.ref h1, .ref h2, .int 0]))]) [0] rfl
  have hD9 := hD.sub (ws' := [(h0, .inr (3, [.ref h1, .ref h2, .int 0]))]) [0] (by decide) rfl
  exact W.vret hx hb hr (fun t ht hW => ⟨⟨fun i => [].getD i 0, rfl, trivial, by rw [ht]; exact hP9, hD9⟩, hS.F ht⟩) hS.2.2 dX3_init_19

set_option maxHeartbeats 4000000 in
set_option maxRecDepth 100000 in
theorem k_X1_init (l : Launch) (dC : Nat → ClassId) (dI : Nat → Nat → Nat) (ca : Nat → ClassId) (h0 h1 h2 sz : Nat) : Met l mX1_init.1 (ws_y mX1_init) ({ frames := 1, cells := 0, slots := 0, locals := 12 }) (va_Pc [.ref h0, .ref h1, .ref h2] (fun U => U.heap.size = sz ∧ va_P (dC, dI) ly_C [(h0, .inr (1, [.null, .null, .int 0, .int 0, .int 0, .int 0, .int 0, .int 0]))] U.heap ∧ va_K (dC, dI) ly_C [(ca 0, .int), (ca 1, .byte)] U ∧ va_D (fun _ => True) [(h0, .inr (1, [.null, .null, .int 0, .int 0, .int 0, .int 0, .int 0, .int 0]))])) (va_Qv (fun _ : Nat → Nat => True) (fun u t => va_P (dC, dI) ly_C [(h0, .inr (1, [.ref h1, .ref h2, .int 0, .int 0, .int 0, .int 0, .int 0, .int 0]))] t.heap ∧ va_D (va_A [(h0, .inr (1, [.null, .null, .int 0, .int 0, .int 0, .int 0, .int 0, .int 0]))] sz) [(h0, .inr (1, [.ref h1, .ref h2, .int 0, .int 0, .int 0, .int 0, .int 0, .int 0]))]) (va_A [(h0, .inr (1, [.null, .null, .int 0, .int 0, .int 0, .int 0, .int 0, .int 0]))] sz)) 0 0 (va_A [(h0, .inr (1, [.null, .null, .int 0, .int 0, .int 0, .int 0, .int 0, .int 0]))] sz) := by
  refine Met.ofW (cc := cX1_init) (maxL := 3) (ret := none) (by decide) rfl ?_
  intro p e s m args below meth c s₁ B hml hv
  obtain ⟨rfl, hsz, hP, hK, hD0⟩ := hv
  have hx := B.exec
  have hb := B.bytes
  have hr := B.returns
  have hts0 := atoms_spec (ws := ws_y mX1_init) B.pre
  have hts : ∀ w ∈ ly_G, w.before _ s = true := fun w hw => hts0 w (List.mem_cons_of_mem _ hw)
  have hown : s.vm.findClass RX1 = some m.cls := findClass_of_methodNamed B.named
  have hlocks := B.notSynchronized
  have hin : meth.name = "<init>" := (name_of_methodNamed B.named B.method).1
  subst hsz
  have hD := hD0.self (sz := s.heap.size)
  generalize hAe : va_A [(h0, .inr (1, [.null, .null, .int 0, .int 0, .int 0, .int 0, .int 0, .int 0]))] s.heap.size = A at hD ⊢
  have hA : ∀ q : Nat, s.heap.size ≤ q → A q := fun q h => by rw [← hAe]; exact Or.inr h
  have hS : va_S A s.heap s.heap [] := va_S.rf
  have hl := lv_entry ([.ref h0, .ref h1, .ref h2]) (n := 3) (Nat.le_of_ble_eq_true rfl)
  rw [lg_entry_eq]
  generalize (lg_sl ([.ref h0, .ref h1, .ref h2]) ++ List.replicate (3 - (lg_sl ([.ref h0, .ref h1, .ref h2])).length) Slot.unset).toArray = ls at hl ⊢
  have hl : lv_has ls 3 [(0, .ref h0), (1, .ref h1), (2, .ref h2)] := hl
  refine lv_aload_n hx hb dX1_init_0 rfl (lv_at hl 0 rfl) ?_
  refine W.objInit hx hb hown (hts _ wk_51) (hts _ wl_oi) (hts _ wl_oc) rfl (by rw [hml]; exact hl.1) rfl dX1_init_1 (Nat.le_of_ble_eq_true rfl) (Nat.le_of_ble_eq_true rfl) ?_
  refine W.eq (g2 := F0 m 4 ls []) rfl ?_
  refine lv_aload_n hx hb dX1_init_4 rfl (lv_at hl 0 rfl) ?_
  refine lv_iconst (v := 0) hx hb dX1_init_5 (by decide) ?_
  refine va_put (D := (dC, dI)) (ci := 1) (v := .int 0) (ty := .int) (C := RX1) (T := TX1) (N := 8) hx hb hts igX1 tyX1 tyX1_ok nmX1 hown hK hP hD hS 0 rfl rfl 2 (by decide) (hts _ wk_52) (fun _ h9 => h9) rfl (by decide +kernel) rfl rfl (Nat.le_of_ble_eq_true rfl) dX1_init_6 (fun H locs hP hD hS => ?_)
  have hP : va_P (dC, dI) ly_C [(h0, .inr (1, [.null, .null, .int 0, .int 0, .int 0, .int 0, .int 0, .int 0]))] H := hP
  have hD : va_D A [(h0, .inr (1, [.null, .null, .int 0, .int 0, .int 0, .int 0, .int 0, .int 0]))] := hD
  refine lv_aload_n hx hb dX1_init_9 rfl (lv_at hl 0 rfl) ?_
  refine lv_iconst (v := 0) hx hb dX1_init_10 (by decide) ?_
  refine va_put (D := (dC, dI)) (ci := 1) (v := .int 0) (ty := .int) (C := RX1) (T := TX1) (N := 8) hx hb hts igX1 tyX1 tyX1_ok nmX1 hown hK hP hD hS 0 rfl rfl 3 (by decide) (hts _ wk_53) (fun _ h9 => h9) rfl (by decide +kernel) rfl rfl (Nat.le_of_ble_eq_true rfl) dX1_init_11 (fun H locs hP hD hS => ?_)
  have hP : va_P (dC, dI) ly_C [(h0, .inr (1, [.null, .null, .int 0, .int 0, .int 0, .int 0, .int 0, .int 0]))] H := hP
  have hD : va_D A [(h0, .inr (1, [.null, .null, .int 0, .int 0, .int 0, .int 0, .int 0, .int 0]))] := hD
  refine lv_aload_n hx hb dX1_init_14 rfl (lv_at hl 0 rfl) ?_
  refine lv_iconst (v := 0) hx hb dX1_init_15 (by decide) ?_
  refine va_put (D := (dC, dI)) (ci := 1) (v := .int 0) (ty := .int) (C := RX1) (T := TX1) (N := 8) hx hb hts igX1 tyX1 tyX1_ok nmX1 hown hK hP hD hS 0 rfl rfl 4 (by decide) (hts _ wk_54) (fun _ h9 => h9) rfl (by decide +kernel) rfl rfl (Nat.le_of_ble_eq_true rfl) dX1_init_16 (fun H locs hP hD hS => ?_)
  have hP : va_P (dC, dI) ly_C [(h0, .inr (1, [.null, .null, .int 0, .int 0, .int 0, .int 0, .int 0, .int 0]))] H := hP
  have hD : va_D A [(h0, .inr (1, [.null, .null, .int 0, .int 0, .int 0, .int 0, .int 0, .int 0]))] := hD
  refine lv_aload_n hx hb dX1_init_19 rfl (lv_at hl 0 rfl) ?_
  refine lv_iconst (v := 0) hx hb dX1_init_20 (by decide) ?_
  refine va_put (D := (dC, dI)) (ci := 1) (v := .int 0) (ty := .int) (C := RX1) (T := TX1) (N := 8) hx hb hts igX1 tyX1 tyX1_ok nmX1 hown hK hP hD hS 0 rfl rfl 5 (by decide) (hts _ wk_55) (fun _ h9 => h9) rfl (by decide +kernel) rfl rfl (Nat.le_of_ble_eq_true rfl) dX1_init_21 (fun H locs hP hD hS => ?_)
  have hP : va_P (dC, dI) ly_C [(h0, .inr (1, [.null, .null, .int 0, .int 0, .int 0, .int 0, .int 0, .int 0]))] H := hP
  have hD : va_D A [(h0, .inr (1, [.null, .null, .int 0, .int 0, .int 0, .int 0, .int 0, .int 0]))] := hD
  refine lv_aload_n hx hb dX1_init_24 rfl (lv_at hl 0 rfl) ?_
  refine lv_iconst (v := 0) hx hb dX1_init_25 (by decide) ?_
  refine va_put (D := (dC, dI)) (ci := 1) (v := .int 0) (ty := .int) (C := RX1) (T := TX1) (N := 8) hx hb hts igX1 tyX1 tyX1_ok nmX1 hown hK hP hD hS 0 rfl rfl 6 (by decide) (hts _ wk_56) (fun _ h9 => h9) rfl (by decide +kernel) rfl rfl (Nat.le_of_ble_eq_true rfl) dX1_init_26 (fun H locs hP hD hS => ?_)
  have hP : va_P (dC, dI) ly_C [(h0, .inr (1, [.null, .null, .int 0, .int 0, .int 0, .int 0, .int 0, .int 0]))] H := hP
  have hD : va_D A [(h0, .inr (1, [.null, .null, .int 0, .int 0, .int 0, .int 0, .int 0, .int 0]))] := hD
  refine lv_aload_n hx hb dX1_init_29 rfl (lv_at hl 0 rfl) ?_
  refine lv_iconst (v := 0) hx hb dX1_init_30 (by decide) ?_
  refine va_put (D := (dC, dI)) (ci := 1) (v := .int 0) (ty := .int) (C := RX1) (T := TX1) (N := 8) hx hb hts igX1 tyX1 tyX1_ok nmX1 hown hK hP hD hS 0 rfl rfl 7 (by decide) (hts _ wk_57) (fun _ h9 => h9) rfl (by decide +kernel) rfl rfl (Nat.le_of_ble_eq_true rfl) dX1_init_31 (fun H locs hP hD hS => ?_)
  have hP : va_P (dC, dI) ly_C [(h0, .inr (1, [.null, .null, .int 0, .int 0, .int 0, .int 0, .int 0, .int 0]))] H := hP
  have hD : va_D A [(h0, .inr (1, [.null, .null, .int 0, .int 0, .int 0, .int 0, .int 0, .int 0]))] := hD
  refine lv_aload_n hx hb dX1_init_34 rfl (lv_at hl 0 rfl) ?_
  refine lv_aload_n hx hb dX1_init_35 rfl (lv_at hl 1 rfl) ?_
  refine va_putF (D := (dC, dI)) (ci := 1) (v := .ref h1) (ty := .object "PathInterdiction$Graph") (C := RX1) (T := TX1) (N := 8) hx hb hts igX1 tyX1 tyX1_ok nmX1 hown hK hP hD hS 0 rfl rfl 0 (by decide) (hts _ wk_58) (fun _ h9 => h9) rfl hin rfl (by decide +kernel) rfl rfl (Nat.le_of_ble_eq_true rfl) dX1_init_36 (fun H locs hP hD hS => ?_)
  have hP : va_P (dC, dI) ly_C [(h0, .inr (1, [.ref h1, .null, .int 0, .int 0, .int 0, .int 0, .int 0, .int 0]))] H := hP
  have hD : va_D A [(h0, .inr (1, [.ref h1, .null, .int 0, .int 0, .int 0, .int 0, .int 0, .int 0]))] := hD
  refine lv_aload_n hx hb dX1_init_39 rfl (lv_at hl 0 rfl) ?_
  refine lv_aload_n hx hb dX1_init_40 rfl (lv_at hl 2 rfl) ?_
  refine va_putF (D := (dC, dI)) (ci := 1) (v := .ref h2) (ty := .object "PathInterdiction$AttackSearch") (C := RX1) (T := TX1) (N := 8) hx hb hts igX1 tyX1 tyX1_ok nmX1 hown hK hP hD hS 0 rfl rfl 1 (by decide) (hts _ wk_59) (fun _ h9 => h9) rfl hin rfl (by decide +kernel) rfl rfl (Nat.le_of_ble_eq_true rfl) dX1_init_41 (fun H locs hP hD hS => ?_)
  have hP : va_P (dC, dI) ly_C [(h0, .inr (1, [.ref h1, .ref h2, .int 0, .int 0, .int 0, .int 0, .int 0, .int 0]))] H := hP
  have hD : va_D A [(h0, .inr (1, [.ref h1, .ref h2, .int 0, .int 0, .int 0, .int 0, .int 0, .int 0]))] := hD
  have hP9 := hP.sub (ws' := [(h0, .inr (1, [.ref h1, .ref h2, .int 0, .int 0, .int 0, .int 0, .int 0, .int 0]))]) [0] rfl
  have hD9 := hD.sub (ws' := [(h0, .inr (1, [.ref h1, .ref h2, .int 0, .int 0, .int 0, .int 0, .int 0, .int 0]))]) [0] (by decide) rfl
  exact W.vret hx hb hr (fun t ht hW => ⟨⟨fun i => [].getD i 0, rfl, trivial, by rw [ht]; exact hP9, hD9⟩, hS.F ht⟩) hS.2.2 dX1_init_44

set_option maxHeartbeats 4000000 in
set_option maxRecDepth 100000 in
theorem k_X9_init (l : Launch) (dC : Nat → ClassId) (dI : Nat → Nat → Nat) (ca : Nat → ClassId) (h0 sz : Nat) : Met l mX9_init.1 (ws_y mX9_init) ({ frames := 1, cells := 8, slots := 1404, locals := 12 }) (va_Pc [.ref h0] (fun U => U.heap.size = sz ∧ va_P (dC, dI) ly_C [(h0, .inr (9, [.null, .null, .int 0, .int 0, .null, .int 0, .null, .int 0, .int 0, .int 0, .null, .null, .int 0, .int 0, .int 0, .null, .null, .int 0, .long 0]))] U.heap ∧ va_K (dC, dI) ly_C [(ca 0, .int), (ca 1, .byte)] U ∧ va_D (fun _ => True) [(h0, .inr (9, [.null, .null, .int 0, .int 0, .null, .int 0, .null, .int 0, .int 0, .int 0, .null, .null, .int 0, .int 0, .int 0, .null, .null, .int 0, .long 0]))])) (va_Qv (fun _ : Nat → Nat => True) (fun u t => va_P (dC, dI) ly_C [(h0, .inr (9, [.ref (u 0), .ref (u 1), .int 0, .int (-1), .ref (u 2), .int 0, .ref (u 3), .int 0, .int 0, .int 0, .ref (u 4), .ref (u 5), .int 0, .int 0, .int 0, .ref (u 6), .ref (u 7), .int 0, .long 0])), ((u 0), .inl (ca 0, 82, .inl (fun _ => 0))), ((u 1), .inl (ca 0, 984, .inl (fun _ => 0))), ((u 2), .inl (ca 0, 110, .inl (fun _ => 0))), ((u 3), .inl (ca 0, 80, .inl (fun _ => 0))), ((u 4), .inl (ca 0, 32, .inl (fun _ => 0))), ((u 5), .inl (ca 0, 8, .inl (fun _ => 0))), ((u 6), .inl (ca 0, 100, .inl (fun _ => 0))), ((u 7), .inl (ca 0, 8, .inl (fun _ => 0)))] t.heap ∧ va_D (va_A [(h0, .inr (9, [.null, .null, .int 0, .int 0, .null, .int 0, .null, .int 0, .int 0, .int 0, .null, .null, .int 0, .int 0, .int 0, .null, .null, .int 0, .long 0]))] sz) [(h0, .inr (9, [.ref (u 0), .ref (u 1), .int 0, .int (-1), .ref (u 2), .int 0, .ref (u 3), .int 0, .int 0, .int 0, .ref (u 4), .ref (u 5), .int 0, .int 0, .int 0, .ref (u 6), .ref (u 7), .int 0, .long 0])), ((u 0), .inl (ca 0, 82, .inl (fun _ => 0))), ((u 1), .inl (ca 0, 984, .inl (fun _ => 0))), ((u 2), .inl (ca 0, 110, .inl (fun _ => 0))), ((u 3), .inl (ca 0, 80, .inl (fun _ => 0))), ((u 4), .inl (ca 0, 32, .inl (fun _ => 0))), ((u 5), .inl (ca 0, 8, .inl (fun _ => 0))), ((u 6), .inl (ca 0, 100, .inl (fun _ => 0))), ((u 7), .inl (ca 0, 8, .inl (fun _ => 0)))]) (va_A [(h0, .inr (9, [.null, .null, .int 0, .int 0, .null, .int 0, .null, .int 0, .int 0, .int 0, .null, .null, .int 0, .int 0, .int 0, .null, .null, .int 0, .long 0]))] sz)) 8 1404 (va_A [(h0, .inr (9, [.null, .null, .int 0, .int 0, .null, .int 0, .null, .int 0, .int 0, .int 0, .null, .null, .int 0, .int 0, .int 0, .null, .null, .int 0, .long 0]))] sz) := by
  refine Met.ofW (cc := cX9_init) (maxL := 1) (ret := none) (by decide) rfl ?_
  intro p e s m args below meth c s₁ B hml hv
  obtain ⟨rfl, hsz, hP, hK, hD0⟩ := hv
  have hx := B.exec
  have hb := B.bytes
  have hr := B.returns
  have hts0 := atoms_spec (ws := ws_y mX9_init) B.pre
  have hts : ∀ w ∈ ly_G, w.before _ s = true := fun w hw => hts0 w (List.mem_cons_of_mem _ hw)
  have hown : s.vm.findClass RX9 = some m.cls := findClass_of_methodNamed B.named
  have hlocks := B.notSynchronized
  have hin : meth.name = "<init>" := (name_of_methodNamed B.named B.method).1
  subst hsz
  have hD := hD0.self (sz := s.heap.size)
  generalize hAe : va_A [(h0, .inr (9, [.null, .null, .int 0, .int 0, .null, .int 0, .null, .int 0, .int 0, .int 0, .null, .null, .int 0, .int 0, .int 0, .null, .null, .int 0, .long 0]))] s.heap.size = A at hD ⊢
  have hA : ∀ q : Nat, s.heap.size ≤ q → A q := fun q h => by rw [← hAe]; exact Or.inr h
  have hS : va_S A s.heap s.heap [] := va_S.rf
  have hl := lv_entry ([.ref h0]) (n := 1) (Nat.le_of_ble_eq_true rfl)
  rw [lg_entry_eq]
  generalize (lg_sl ([.ref h0]) ++ List.replicate (1 - (lg_sl ([.ref h0])).length) Slot.unset).toArray = ls at hl ⊢
  have hl : lv_has ls 1 [(0, .ref h0)] := hl
  refine lv_aload_n hx hb dX9_init_0 rfl (lv_at hl 0 rfl) ?_
  refine W.objInit hx hb hown (hts _ wk_60) (hts _ wl_oi) (hts _ wl_oc) rfl (by rw [hml]; exact hl.1) rfl dX9_init_1 (Nat.le_of_ble_eq_true rfl) (Nat.le_of_ble_eq_true rfl) ?_
  refine W.eq (g2 := F0 m 4 ls []) rfl ?_
  refine lv_aload_n hx hb dX9_init_4 rfl (lv_at hl 0 rfl) ?_
  refine lv_bipush (v := 82) hx hb dX9_init_5 (by decide) ?_
  refine va_newa (atype := .int) (ty := .int) (a0 := (82, .inl (fun _ => 0))) hx hb (hts (.arrayClass .int) wl_ai) rfl hK hP hD hS hA (fun cA => rfl) (by decide) (by decide) (Nat.le_of_ble_eq_true rfl) (Nat.le_of_ble_eq_true rfl) (Nat.le_of_ble_eq_true rfl) dX9_init_7 (fun q7 cA H hK1 hP hD hS => ?_)
  obtain rfl := ca_eq0 hK1
  have hP : va_P (dC, dI) ly_C [(h0, .inr (9, [.null, .null, .int 0, .int 0, .null, .int 0, .null, .int 0, .int 0, .int 0, .null, .null, .int 0, .int 0, .int 0, .null, .null, .int 0, .long 0])), (q7, .inl (ca 0, 82, .inl (fun _ => 0)))] H := hP
  have hD : va_D A [(h0, .inr (9, [.null, .null, .int 0, .int 0, .null, .int 0, .null, .int 0, .int 0, .int 0, .null, .null, .int 0, .int 0, .int 0, .null, .null, .int 0, .long 0])), (q7, .inl (ca 0, 82, .inl (fun _ => 0)))] := hD
  refine W.widen (k := 1) (n := 82) (Nat.le_of_ble_eq_true rfl) (Nat.le_of_ble_eq_true rfl) ?_
  refine va_putF (D := (dC, dI)) (ci := 9) (v := .ref q7) (ty := .array .int) (C := RX9) (T := TX9) (N := 19) hx hb hts igX9 tyX9 tyX9_ok nmX9 hown hK hP hD hS 0 rfl rfl 0 (by decide) (hts _ wk_61) (fun _ h9 => h9) rfl hin rfl (by decide +kernel) rfl rfl (Nat.le_of_ble_eq_true rfl) dX9_init_9 (fun H locs hP hD hS => ?_)
  have hP : va_P (dC, dI) ly_C [(h0, .inr (9, [.ref q7, .null, .int 0, .int 0, .null, .int 0, .null, .int 0, .int 0, .int 0, .null, .null, .int 0, .int 0, .int 0, .null, .null, .int 0, .long 0])), (q7, .inl (ca 0, 82, .inl (fun _ => 0)))] H := hP
  have hD : va_D A [(h0, .inr (9, [.ref q7, .null, .int 0, .int 0, .null, .int 0, .null, .int 0, .int 0, .int 0, .null, .null, .int 0, .int 0, .int 0, .null, .null, .int 0, .long 0])), (q7, .inl (ca 0, 82, .inl (fun _ => 0)))] := hD
  refine lv_aload_n hx hb dX9_init_12 rfl (lv_at hl 0 rfl) ?_
  refine lv_sipush (v := 984) hx hb dX9_init_13 (by decide) ?_
  refine va_newa (atype := .int) (ty := .int) (a0 := (984, .inl (fun _ => 0))) hx hb (hts (.arrayClass .int) wl_ai) rfl hK hP hD hS hA (fun cA => rfl) (by decide) (by decide) (Nat.le_of_ble_eq_true rfl) (Nat.le_of_ble_eq_true rfl) (Nat.le_of_ble_eq_true rfl) dX9_init_16 (fun q16 cA H hK1 hP hD hS => ?_)
  obtain rfl := ca_eq0 hK1
  have hP : va_P (dC, dI) ly_C [(h0, .inr (9, [.ref q7, .null, .int 0, .int 0, .null, .int 0, .null, .int 0, .int 0, .int 0, .null, .null, .int 0, .int 0, .int 0, .null, .null, .int 0, .long 0])), (q7, .inl (ca 0, 82, .inl (fun _ => 0))), (q16, .inl (ca 0, 984, .inl (fun _ => 0)))] H := hP
  have hD : va_D A [(h0, .inr (9, [.ref q7, .null, .int 0, .int 0, .null, .int 0, .null, .int 0, .int 0, .int 0, .null, .null, .int 0, .int 0, .int 0, .null, .null, .int 0, .long 0])), (q7, .inl (ca 0, 82, .inl (fun _ => 0))), (q16, .inl (ca 0, 984, .inl (fun _ => 0)))] := hD
  refine W.widen (k := 2) (n := 1066) (Nat.le_of_ble_eq_true rfl) (Nat.le_of_ble_eq_true rfl) ?_
  refine va_putF (D := (dC, dI)) (ci := 9) (v := .ref q16) (ty := .array .int) (C := RX9) (T := TX9) (N := 19) hx hb hts igX9 tyX9 tyX9_ok nmX9 hown hK hP hD hS 0 rfl rfl 1 (by decide) (hts _ wk_62) (fun _ h9 => h9) rfl hin rfl (by decide +kernel) rfl rfl (Nat.le_of_ble_eq_true rfl) dX9_init_18 (fun H locs hP hD hS => ?_)
  have hP : va_P (dC, dI) ly_C [(h0, .inr (9, [.ref q7, .ref q16, .int 0, .int 0, .null, .int 0, .null, .int 0, .int 0, .int 0, .null, .null, .int 0, .int 0, .int 0, .null, .null, .int 0, .long 0])), (q7, .inl (ca 0, 82, .inl (fun _ => 0))), (q16, .inl (ca 0, 984, .inl (fun _ => 0)))] H := hP
  have hD : va_D A [(h0, .inr (9, [.ref q7, .ref q16, .int 0, .int 0, .null, .int 0, .null, .int 0, .int 0, .int 0, .null, .null, .int 0, .int 0, .int 0, .null, .null, .int 0, .long 0])), (q7, .inl (ca 0, 82, .inl (fun _ => 0))), (q16, .inl (ca 0, 984, .inl (fun _ => 0)))] := hD
  refine lv_aload_n hx hb dX9_init_21 rfl (lv_at hl 0 rfl) ?_
  refine lv_iconst (v := (-1)) hx hb dX9_init_22 (by decide) ?_
  refine va_put (D := (dC, dI)) (ci := 9) (v := .int (-1)) (ty := .int) (C := RX9) (T := TX9) (N := 19) hx hb hts igX9 tyX9 tyX9_ok nmX9 hown hK hP hD hS 0 rfl rfl 3 (by decide) (hts _ wk_63) (fun _ h9 => h9) rfl (by decide +kernel) rfl rfl (Nat.le_of_ble_eq_true rfl) dX9_init_23 (fun H locs hP hD hS => ?_)
  have hP : va_P (dC, dI) ly_C [(h0, .inr (9, [.ref q7, .ref q16, .int 0, .int (-1), .null, .int 0, .null, .int 0, .int 0, .int 0, .null, .null, .int 0, .int 0, .int 0, .null, .null, .int 0, .long 0])), (q7, .inl (ca 0, 82, .inl (fun _ => 0))), (q16, .inl (ca 0, 984, .inl (fun _ => 0)))] H := hP
  have hD : va_D A [(h0, .inr (9, [.ref q7, .ref q16, .int 0, .int (-1), .null, .int 0, .null, .int 0, .int 0, .int 0, .null, .null, .int 0, .int 0, .int 0, .null, .null, .int 0, .long 0])), (q7, .inl (ca 0, 82, .inl (fun _ => 0))), (q16, .inl (ca 0, 984, .inl (fun _ => 0)))] := hD
  refine lv_aload_n hx hb dX9_init_26 rfl (lv_at hl 0 rfl) ?_
  refine lv_bipush (v := 110) hx hb dX9_init_27 (by decide) ?_
  refine va_newa (atype := .int) (ty := .int) (a0 := (110, .inl (fun _ => 0))) hx hb (hts (.arrayClass .int) wl_ai) rfl hK hP hD hS hA (fun cA => rfl) (by decide) (by decide) (Nat.le_of_ble_eq_true rfl) (Nat.le_of_ble_eq_true rfl) (Nat.le_of_ble_eq_true rfl) dX9_init_29 (fun q29 cA H hK1 hP hD hS => ?_)
  obtain rfl := ca_eq0 hK1
  have hP : va_P (dC, dI) ly_C [(h0, .inr (9, [.ref q7, .ref q16, .int 0, .int (-1), .null, .int 0, .null, .int 0, .int 0, .int 0, .null, .null, .int 0, .int 0, .int 0, .null, .null, .int 0, .long 0])), (q7, .inl (ca 0, 82, .inl (fun _ => 0))), (q16, .inl (ca 0, 984, .inl (fun _ => 0))), (q29, .inl (ca 0, 110, .inl (fun _ => 0)))] H := hP
  have hD : va_D A [(h0, .inr (9, [.ref q7, .ref q16, .int 0, .int (-1), .null, .int 0, .null, .int 0, .int 0, .int 0, .null, .null, .int 0, .int 0, .int 0, .null, .null, .int 0, .long 0])), (q7, .inl (ca 0, 82, .inl (fun _ => 0))), (q16, .inl (ca 0, 984, .inl (fun _ => 0))), (q29, .inl (ca 0, 110, .inl (fun _ => 0)))] := hD
  refine W.widen (k := 3) (n := 1176) (Nat.le_of_ble_eq_true rfl) (Nat.le_of_ble_eq_true rfl) ?_
  refine va_putF (D := (dC, dI)) (ci := 9) (v := .ref q29) (ty := .array .int) (C := RX9) (T := TX9) (N := 19) hx hb hts igX9 tyX9 tyX9_ok nmX9 hown hK hP hD hS 0 rfl rfl 4 (by decide) (hts _ wk_64) (fun _ h9 => h9) rfl hin rfl (by decide +kernel) rfl rfl (Nat.le_of_ble_eq_true rfl) dX9_init_31 (fun H locs hP hD hS => ?_)
  have hP : va_P (dC, dI) ly_C [(h0, .inr (9, [.ref q7, .ref q16, .int 0, .int (-1), .ref q29, .int 0, .null, .int 0, .int 0, .int 0, .null, .null, .int 0, .int 0, .int 0, .null, .null, .int 0, .long 0])), (q7, .inl (ca 0, 82, .inl (fun _ => 0))), (q16, .inl (ca 0, 984, .inl (fun _ => 0))), (q29, .inl (ca 0, 110, .inl (fun _ => 0)))] H := hP
  have hD : va_D A [(h0, .inr (9, [.ref q7, .ref q16, .int 0, .int (-1), .ref q29, .int 0, .null, .int 0, .int 0, .int 0, .null, .null, .int 0, .int 0, .int 0, .null, .null, .int 0, .long 0])), (q7, .inl (ca 0, 82, .inl (fun _ => 0))), (q16, .inl (ca 0, 984, .inl (fun _ => 0))), (q29, .inl (ca 0, 110, .inl (fun _ => 0)))] := hD
  refine lv_aload_n hx hb dX9_init_34 rfl (lv_at hl 0 rfl) ?_
  refine lv_bipush (v := 80) hx hb dX9_init_35 (by decide) ?_
  refine va_newa (atype := .int) (ty := .int) (a0 := (80, .inl (fun _ => 0))) hx hb (hts (.arrayClass .int) wl_ai) rfl hK hP hD hS hA (fun cA => rfl) (by decide) (by decide) (Nat.le_of_ble_eq_true rfl) (Nat.le_of_ble_eq_true rfl) (Nat.le_of_ble_eq_true rfl) dX9_init_37 (fun q37 cA H hK1 hP hD hS => ?_)
  obtain rfl := ca_eq0 hK1
  have hP : va_P (dC, dI) ly_C [(h0, .inr (9, [.ref q7, .ref q16, .int 0, .int (-1), .ref q29, .int 0, .null, .int 0, .int 0, .int 0, .null, .null, .int 0, .int 0, .int 0, .null, .null, .int 0, .long 0])), (q7, .inl (ca 0, 82, .inl (fun _ => 0))), (q16, .inl (ca 0, 984, .inl (fun _ => 0))), (q29, .inl (ca 0, 110, .inl (fun _ => 0))), (q37, .inl (ca 0, 80, .inl (fun _ => 0)))] H := hP
  have hD : va_D A [(h0, .inr (9, [.ref q7, .ref q16, .int 0, .int (-1), .ref q29, .int 0, .null, .int 0, .int 0, .int 0, .null, .null, .int 0, .int 0, .int 0, .null, .null, .int 0, .long 0])), (q7, .inl (ca 0, 82, .inl (fun _ => 0))), (q16, .inl (ca 0, 984, .inl (fun _ => 0))), (q29, .inl (ca 0, 110, .inl (fun _ => 0))), (q37, .inl (ca 0, 80, .inl (fun _ => 0)))] := hD
  refine W.widen (k := 4) (n := 1256) (Nat.le_of_ble_eq_true rfl) (Nat.le_of_ble_eq_true rfl) ?_
  refine va_putF (D := (dC, dI)) (ci := 9) (v := .ref q37) (ty := .array .int) (C := RX9) (T := TX9) (N := 19) hx hb hts igX9 tyX9 tyX9_ok nmX9 hown hK hP hD hS 0 rfl rfl 6 (by decide) (hts _ wk_65) (fun _ h9 => h9) rfl hin rfl (by decide +kernel) rfl rfl (Nat.le_of_ble_eq_true rfl) dX9_init_39 (fun H locs hP hD hS => ?_)
  have hP : va_P (dC, dI) ly_C [(h0, .inr (9, [.ref q7, .ref q16, .int 0, .int (-1), .ref q29, .int 0, .ref q37, .int 0, .int 0, .int 0, .null, .null, .int 0, .int 0, .int 0, .null, .null, .int 0, .long 0])), (q7, .inl (ca 0, 82, .inl (fun _ => 0))), (q16, .inl (ca 0, 984, .inl (fun _ => 0))), (q29, .inl (ca 0, 110, .inl (fun _ => 0))), (q37, .inl (ca 0, 80, .inl (fun _ => 0)))] H := hP
  have hD : va_D A [(h0, .inr (9, [.ref q7, .ref q16, .int 0, .int (-1), .ref q29, .int 0, .ref q37, .int 0, .int 0, .int 0, .null, .null, .int 0, .int 0, .int 0, .null, .null, .int 0, .long 0])), (q7, .inl (ca 0, 82, .inl (fun _ => 0))), (q16, .inl (ca 0, 984, .inl (fun _ => 0))), (q29, .inl (ca 0, 110, .inl (fun _ => 0))), (q37, .inl (ca 0, 80, .inl (fun _ => 0)))] := hD
  refine lv_aload_n hx hb dX9_init_42 rfl (lv_at hl 0 rfl) ?_
  refine lv_bipush (v := 32) hx hb dX9_init_43 (by decide) ?_
  refine va_newa (atype := .int) (ty := .int) (a0 := (32, .inl (fun _ => 0))) hx hb (hts (.arrayClass .int) wl_ai) rfl hK hP hD hS hA (fun cA => rfl) (by decide) (by decide) (Nat.le_of_ble_eq_true rfl) (Nat.le_of_ble_eq_true rfl) (Nat.le_of_ble_eq_true rfl) dX9_init_45 (fun q45 cA H hK1 hP hD hS => ?_)
  obtain rfl := ca_eq0 hK1
  have hP : va_P (dC, dI) ly_C [(h0, .inr (9, [.ref q7, .ref q16, .int 0, .int (-1), .ref q29, .int 0, .ref q37, .int 0, .int 0, .int 0, .null, .null, .int 0, .int 0, .int 0, .null, .null, .int 0, .long 0])), (q7, .inl (ca 0, 82, .inl (fun _ => 0))), (q16, .inl (ca 0, 984, .inl (fun _ => 0))), (q29, .inl (ca 0, 110, .inl (fun _ => 0))), (q37, .inl (ca 0, 80, .inl (fun _ => 0))), (q45, .inl (ca 0, 32, .inl (fun _ => 0)))] H := hP
  have hD : va_D A [(h0, .inr (9, [.ref q7, .ref q16, .int 0, .int (-1), .ref q29, .int 0, .ref q37, .int 0, .int 0, .int 0, .null, .null, .int 0, .int 0, .int 0, .null, .null, .int 0, .long 0])), (q7, .inl (ca 0, 82, .inl (fun _ => 0))), (q16, .inl (ca 0, 984, .inl (fun _ => 0))), (q29, .inl (ca 0, 110, .inl (fun _ => 0))), (q37, .inl (ca 0, 80, .inl (fun _ => 0))), (q45, .inl (ca 0, 32, .inl (fun _ => 0)))] := hD
  refine W.widen (k := 5) (n := 1288) (Nat.le_of_ble_eq_true rfl) (Nat.le_of_ble_eq_true rfl) ?_
  refine va_putF (D := (dC, dI)) (ci := 9) (v := .ref q45) (ty := .array .int) (C := RX9) (T := TX9) (N := 19) hx hb hts igX9 tyX9 tyX9_ok nmX9 hown hK hP hD hS 0 rfl rfl 10 (by decide) (hts _ wk_66) (fun _ h9 => h9) rfl hin rfl (by decide +kernel) rfl rfl (Nat.le_of_ble_eq_true rfl) dX9_init_47 (fun H locs hP hD hS => ?_)
  have hP : va_P (dC, dI) ly_C [(h0, .inr (9, [.ref q7, .ref q16, .int 0, .int (-1), .ref q29, .int 0, .ref q37, .int 0, .int 0, .int 0, .ref q45, .null, .int 0, .int 0, .int 0, .null, .null, .int 0, .long 0])), (q7, .inl (ca 0, 82, .inl (fun _ => 0))), (q16, .inl (ca 0, 984, .inl (fun _ => 0))), (q29, .inl (ca 0, 110, .inl (fun _ => 0))), (q37, .inl (ca 0, 80, .inl (fun _ => 0))), (q45, .inl (ca 0, 32, .inl (fun _ => 0)))] H := hP
  have hD : va_D A [(h0, .inr (9, [.ref q7, .ref q16, .int 0, .int (-1), .ref q29, .int 0, .ref q37, .int 0, .int 0, .int 0, .ref q45, .null, .int 0, .int 0, .int 0, .null, .null, .int 0, .long 0])), (q7, .inl (ca 0, 82, .inl (fun _ => 0))), (q16, .inl (ca 0, 984, .inl (fun _ => 0))), (q29, .inl (ca 0, 110, .inl (fun _ => 0))), (q37, .inl (ca 0, 80, .inl (fun _ => 0))), (q45, .inl (ca 0, 32, .inl (fun _ => 0)))] := hD
  refine lv_aload_n hx hb dX9_init_50 rfl (lv_at hl 0 rfl) ?_
  refine lv_bipush (v := 8) hx hb dX9_init_51 (by decide) ?_
  refine va_newa (atype := .int) (ty := .int) (a0 := (8, .inl (fun _ => 0))) hx hb (hts (.arrayClass .int) wl_ai) rfl hK hP hD hS hA (fun cA => rfl) (by decide) (by decide) (Nat.le_of_ble_eq_true rfl) (Nat.le_of_ble_eq_true rfl) (Nat.le_of_ble_eq_true rfl) dX9_init_53 (fun q53 cA H hK1 hP hD hS => ?_)
  obtain rfl := ca_eq0 hK1
  have hP : va_P (dC, dI) ly_C [(h0, .inr (9, [.ref q7, .ref q16, .int 0, .int (-1), .ref q29, .int 0, .ref q37, .int 0, .int 0, .int 0, .ref q45, .null, .int 0, .int 0, .int 0, .null, .null, .int 0, .long 0])), (q7, .inl (ca 0, 82, .inl (fun _ => 0))), (q16, .inl (ca 0, 984, .inl (fun _ => 0))), (q29, .inl (ca 0, 110, .inl (fun _ => 0))), (q37, .inl (ca 0, 80, .inl (fun _ => 0))), (q45, .inl (ca 0, 32, .inl (fun _ => 0))), (q53, .inl (ca 0, 8, .inl (fun _ => 0)))] H := hP
  have hD : va_D A [(h0, .inr (9, [.ref q7, .ref q16, .int 0, .int (-1), .ref q29, .int 0, .ref q37, .int 0, .int 0, .int 0, .ref q45, .null, .int 0, .int 0, .int 0, .null, .null, .int 0, .long 0])), (q7, .inl (ca 0, 82, .inl (fun _ => 0))), (q16, .inl (ca 0, 984, .inl (fun _ => 0))), (q29, .inl (ca 0, 110, .inl (fun _ => 0))), (q37, .inl (ca 0, 80, .inl (fun _ => 0))), (q45, .inl (ca 0, 32, .inl (fun _ => 0))), (q53, .inl (ca 0, 8, .inl (fun _ => 0)))] := hD
  refine W.widen (k := 6) (n := 1296) (Nat.le_of_ble_eq_true rfl) (Nat.le_of_ble_eq_true rfl) ?_
  refine va_putF (D := (dC, dI)) (ci := 9) (v := .ref q53) (ty := .array .int) (C := RX9) (T := TX9) (N := 19) hx hb hts igX9 tyX9 tyX9_ok nmX9 hown hK hP hD hS 0 rfl rfl 11 (by decide) (hts _ wk_67) (fun _ h9 => h9) rfl hin rfl (by decide +kernel) rfl rfl (Nat.le_of_ble_eq_true rfl) dX9_init_55 (fun H locs hP hD hS => ?_)
  have hP : va_P (dC, dI) ly_C [(h0, .inr (9, [.ref q7, .ref q16, .int 0, .int (-1), .ref q29, .int 0, .ref q37, .int 0, .int 0, .int 0, .ref q45, .ref q53, .int 0, .int 0, .int 0, .null, .null, .int 0, .long 0])), (q7, .inl (ca 0, 82, .inl (fun _ => 0))), (q16, .inl (ca 0, 984, .inl (fun _ => 0))), (q29, .inl (ca 0, 110, .inl (fun _ => 0))), (q37, .inl (ca 0, 80, .inl (fun _ => 0))), (q45, .inl (ca 0, 32, .inl (fun _ => 0))), (q53, .inl (ca 0, 8, .inl (fun _ => 0)))] H := hP
  have hD : va_D A [(h0, .inr (9, [.ref q7, .ref q16, .int 0, .int (-1), .ref q29, .int 0, .ref q37, .int 0, .int 0, .int 0, .ref q45, .ref q53, .int 0, .int 0, .int 0, .null, .null, .int 0, .long 0])), (q7, .inl (ca 0, 82, .inl (fun _ => 0))), (q16, .inl (ca 0, 984, .inl (fun _ => 0))), (q29, .inl (ca 0, 110, .inl (fun _ => 0))), (q37, .inl (ca 0, 80, .inl (fun _ => 0))), (q45, .inl (ca 0, 32, .inl (fun _ => 0))), (q53, .inl (ca 0, 8, .inl (fun _ => 0)))] := hD
  refine lv_aload_n hx hb dX9_init_58 rfl (lv_at hl 0 rfl) ?_
  refine lv_bipush (v := 100) hx hb dX9_init_59 (by decide) ?_
  refine va_newa (atype := .int) (ty := .int) (a0 := (100, .inl (fun _ => 0))) hx hb (hts (.arrayClass .int) wl_ai) rfl hK hP hD hS hA (fun cA => rfl) (by decide) (by decide) (Nat.le_of_ble_eq_true rfl) (Nat.le_of_ble_eq_true rfl) (Nat.le_of_ble_eq_true rfl) dX9_init_61 (fun q61 cA H hK1 hP hD hS => ?_)
  obtain rfl := ca_eq0 hK1
  have hP : va_P (dC, dI) ly_C [(h0, .inr (9, [.ref q7, .ref q16, .int 0, .int (-1), .ref q29, .int 0, .ref q37, .int 0, .int 0, .int 0, .ref q45, .ref q53, .int 0, .int 0, .int 0, .null, .null, .int 0, .long 0])), (q7, .inl (ca 0, 82, .inl (fun _ => 0))), (q16, .inl (ca 0, 984, .inl (fun _ => 0))), (q29, .inl (ca 0, 110, .inl (fun _ => 0))), (q37, .inl (ca 0, 80, .inl (fun _ => 0))), (q45, .inl (ca 0, 32, .inl (fun _ => 0))), (q53, .inl (ca 0, 8, .inl (fun _ => 0))), (q61, .inl (ca 0, 100, .inl (fun _ => 0)))] H := hP
  have hD : va_D A [(h0, .inr (9, [.ref q7, .ref q16, .int 0, .int (-1), .ref q29, .int 0, .ref q37, .int 0, .int 0, .int 0, .ref q45, .ref q53, .int 0, .int 0, .int 0, .null, .null, .int 0, .long 0])), (q7, .inl (ca 0, 82, .inl (fun _ => 0))), (q16, .inl (ca 0, 984, .inl (fun _ => 0))), (q29, .inl (ca 0, 110, .inl (fun _ => 0))), (q37, .inl (ca 0, 80, .inl (fun _ => 0))), (q45, .inl (ca 0, 32, .inl (fun _ => 0))), (q53, .inl (ca 0, 8, .inl (fun _ => 0))), (q61, .inl (ca 0, 100, .inl (fun _ => 0)))] := hD
  refine W.widen (k := 7) (n := 1396) (Nat.le_of_ble_eq_true rfl) (Nat.le_of_ble_eq_true rfl) ?_
  refine va_putF (D := (dC, dI)) (ci := 9) (v := .ref q61) (ty := .array .int) (C := RX9) (T := TX9) (N := 19) hx hb hts igX9 tyX9 tyX9_ok nmX9 hown hK hP hD hS 0 rfl rfl 15 (by decide) (hts _ wk_68) (fun _ h9 => h9) rfl hin rfl (by decide +kernel) rfl rfl (Nat.le_of_ble_eq_true rfl) dX9_init_63 (fun H locs hP hD hS => ?_)
  have hP : va_P (dC, dI) ly_C [(h0, .inr (9, [.ref q7, .ref q16, .int 0, .int (-1), .ref q29, .int 0, .ref q37, .int 0, .int 0, .int 0, .ref q45, .ref q53, .int 0, .int 0, .int 0, .ref q61, .null, .int 0, .long 0])), (q7, .inl (ca 0, 82, .inl (fun _ => 0))), (q16, .inl (ca 0, 984, .inl (fun _ => 0))), (q29, .inl (ca 0, 110, .inl (fun _ => 0))), (q37, .inl (ca 0, 80, .inl (fun _ => 0))), (q45, .inl (ca 0, 32, .inl (fun _ => 0))), (q53, .inl (ca 0, 8, .inl (fun _ => 0))), (q61, .inl (ca 0, 100, .inl (fun _ => 0)))] H := hP
  have hD : va_D A [(h0, .inr (9, [.ref q7, .ref q16, .int 0, .int (-1), .ref q29, .int 0, .ref q37, .int 0, .int 0, .int 0, .ref q45, .ref q53, .int 0, .int 0, .int 0, .ref q61, .null, .int 0, .long 0])), (q7, .inl (ca 0, 82, .inl (fun _ => 0))), (q16, .inl (ca 0, 984, .inl (fun _ => 0))), (q29, .inl (ca 0, 110, .inl (fun _ => 0))), (q37, .inl (ca 0, 80, .inl (fun _ => 0))), (q45, .inl (ca 0, 32, .inl (fun _ => 0))), (q53, .inl (ca 0, 8, .inl (fun _ => 0))), (q61, .inl (ca 0, 100, .inl (fun _ => 0)))] := hD
  refine lv_aload_n hx hb dX9_init_66 rfl (lv_at hl 0 rfl) ?_
  refine lv_bipush (v := 8) hx hb dX9_init_67 (by decide) ?_
  refine va_newa (atype := .int) (ty := .int) (a0 := (8, .inl (fun _ => 0))) hx hb (hts (.arrayClass .int) wl_ai) rfl hK hP hD hS hA (fun cA => rfl) (by decide) (by decide) (Nat.le_of_ble_eq_true rfl) (Nat.le_of_ble_eq_true rfl) (Nat.le_of_ble_eq_true rfl) dX9_init_69 (fun q69 cA H hK1 hP hD hS => ?_)
  obtain rfl := ca_eq0 hK1
  have hP : va_P (dC, dI) ly_C [(h0, .inr (9, [.ref q7, .ref q16, .int 0, .int (-1), .ref q29, .int 0, .ref q37, .int 0, .int 0, .int 0, .ref q45, .ref q53, .int 0, .int 0, .int 0, .ref q61, .null, .int 0, .long 0])), (q7, .inl (ca 0, 82, .inl (fun _ => 0))), (q16, .inl (ca 0, 984, .inl (fun _ => 0))), (q29, .inl (ca 0, 110, .inl (fun _ => 0))), (q37, .inl (ca 0, 80, .inl (fun _ => 0))), (q45, .inl (ca 0, 32, .inl (fun _ => 0))), (q53, .inl (ca 0, 8, .inl (fun _ => 0))), (q61, .inl (ca 0, 100, .inl (fun _ => 0))), (q69, .inl (ca 0, 8, .inl (fun _ => 0)))] H := hP
  have hD : va_D A [(h0, .inr (9, [.ref q7, .ref q16, .int 0, .int (-1), .ref q29, .int 0, .ref q37, .int 0, .int 0, .int 0, .ref q45, .ref q53, .int 0, .int 0, .int 0, .ref q61, .null, .int 0, .long 0])), (q7, .inl (ca 0, 82, .inl (fun _ => 0))), (q16, .inl (ca 0, 984, .inl (fun _ => 0))), (q29, .inl (ca 0, 110, .inl (fun _ => 0))), (q37, .inl (ca 0, 80, .inl (fun _ => 0))), (q45, .inl (ca 0, 32, .inl (fun _ => 0))), (q53, .inl (ca 0, 8, .inl (fun _ => 0))), (q61, .inl (ca 0, 100, .inl (fun _ => 0))), (q69, .inl (ca 0, 8, .inl (fun _ => 0)))] := hD
  refine W.widen (k := 8) (n := 1404) (Nat.le_of_ble_eq_true rfl) (Nat.le_of_ble_eq_true rfl) ?_
  refine va_putF (D := (dC, dI)) (ci := 9) (v := .ref q69) (ty := .array .int) (C := RX9) (T := TX9) (N := 19) hx hb hts igX9 tyX9 tyX9_ok nmX9 hown hK hP hD hS 0 rfl rfl 16 (by decide) (hts _ wk_69) (fun _ h9 => h9) rfl hin rfl (by decide +kernel) rfl rfl (Nat.le_of_ble_eq_true rfl) dX9_init_71 (fun H locs hP hD hS => ?_)
  have hP : va_P (dC, dI) ly_C [(h0, .inr (9, [.ref q7, .ref q16, .int 0, .int (-1), .ref q29, .int 0, .ref q37, .int 0, .int 0, .int 0, .ref q45, .ref q53, .int 0, .int 0, .int 0, .ref q61, .ref q69, .int 0, .long 0])), (q7, .inl (ca 0, 82, .inl (fun _ => 0))), (q16, .inl (ca 0, 984, .inl (fun _ => 0))), (q29, .inl (ca 0, 110, .inl (fun _ => 0))), (q37, .inl (ca 0, 80, .inl (fun _ => 0))), (q45, .inl (ca 0, 32, .inl (fun _ => 0))), (q53, .inl (ca 0, 8, .inl (fun _ => 0))), (q61, .inl (ca 0, 100, .inl (fun _ => 0))), (q69, .inl (ca 0, 8, .inl (fun _ => 0)))] H := hP
  have hD : va_D A [(h0, .inr (9, [.ref q7, .ref q16, .int 0, .int (-1), .ref q29, .int 0, .ref q37, .int 0, .int 0, .int 0, .ref q45, .ref q53, .int 0, .int 0, .int 0, .ref q61, .ref q69, .int 0, .long 0])), (q7, .inl (ca 0, 82, .inl (fun _ => 0))), (q16, .inl (ca 0, 984, .inl (fun _ => 0))), (q29, .inl (ca 0, 110, .inl (fun _ => 0))), (q37, .inl (ca 0, 80, .inl (fun _ => 0))), (q45, .inl (ca 0, 32, .inl (fun _ => 0))), (q53, .inl (ca 0, 8, .inl (fun _ => 0))), (q61, .inl (ca 0, 100, .inl (fun _ => 0))), (q69, .inl (ca 0, 8, .inl (fun _ => 0)))] := hD
  have hP9 := hP.sub (ws' := [(h0, .inr (9, [.ref q7, .ref q16, .int 0, .int (-1), .ref q29, .int 0, .ref q37, .int 0, .int 0, .int 0, .ref q45, .ref q53, .int 0, .int 0, .int 0, .ref q61, .ref q69, .int 0, .long 0])), (q7, .inl (ca 0, 82, .inl (fun _ => 0))), (q16, .inl (ca 0, 984, .inl (fun _ => 0))), (q29, .inl (ca 0, 110, .inl (fun _ => 0))), (q37, .inl (ca 0, 80, .inl (fun _ => 0))), (q45, .inl (ca 0, 32, .inl (fun _ => 0))), (q53, .inl (ca 0, 8, .inl (fun _ => 0))), (q61, .inl (ca 0, 100, .inl (fun _ => 0))), (q69, .inl (ca 0, 8, .inl (fun _ => 0)))]) [0, 1, 2, 3, 4, 5, 6, 7, 8] rfl
  have hD9 := hD.sub (ws' := [(h0, .inr (9, [.ref q7, .ref q16, .int 0, .int (-1), .ref q29, .int 0, .ref q37, .int 0, .int 0, .int 0, .ref q45, .ref q53, .int 0, .int 0, .int 0, .ref q61, .ref q69, .int 0, .long 0])), (q7, .inl (ca 0, 82, .inl (fun _ => 0))), (q16, .inl (ca 0, 984, .inl (fun _ => 0))), (q29, .inl (ca 0, 110, .inl (fun _ => 0))), (q37, .inl (ca 0, 80, .inl (fun _ => 0))), (q45, .inl (ca 0, 32, .inl (fun _ => 0))), (q53, .inl (ca 0, 8, .inl (fun _ => 0))), (q61, .inl (ca 0, 100, .inl (fun _ => 0))), (q69, .inl (ca 0, 8, .inl (fun _ => 0)))]) [0, 1, 2, 3, 4, 5, 6, 7, 8] (by decide) rfl
  exact W.vret hx hb hr (fun t ht hW => ⟨⟨fun i => [q7, q16, q29, q37, q45, q53, q61, q69].getD i 0, rfl, trivial, by rw [ht]; exact hP9, hD9⟩, hS.F ht⟩) hS.2.2 dX9_init_74

set_option maxHeartbeats 4000000 in
set_option maxRecDepth 100000 in
theorem k_X8_init (l : Launch) (dC : Nat → ClassId) (dI : Nat → Nat → Nat) (ca : Nat → ClassId) (h0 sz : Nat) : Met l mX8_init.1 (ws_y mX8_init) ({ frames := 2, cells := 21, slots := 590, locals := 34 }) (va_Pc [.ref h0] (fun U => U.heap.size = sz ∧ va_P (dC, dI) ly_C [(h0, .inr (8, [.null, .null, .null, .null, .null, .null, .null, .null, .int 0]))] U.heap ∧ va_K (dC, dI) ly_C [(ca 0, .int), (ca 1, .byte)] U ∧ va_D (fun _ => True) [(h0, .inr (8, [.null, .null, .null, .null, .null, .null, .null, .null, .int 0]))] ∧ va_Nw (.methodLinkNest "PathInterdiction" 9 yX2_init "PathInterdiction") U ∧ va_Nw (.methodLinkNest "PathInterdiction" 18 yX4_init "PathInterdiction") U ∧ va_Nw (.methodLinkNest "PathInterdiction" 25 yX6_init "PathInterdiction") U)) (va_Qv (fun _ : Nat → Nat => True) (fun u t => va_P (dC, dI) ly_C [(h0, .inr (8, [.ref (u 0), .ref (u 2), .ref (u 4), .ref (u 7), .ref (u 14), .ref (u 18), .ref (u 19), .ref (u 20), .int (-1)])), ((u 0), .inr (2, [.ref (u 1), .int 0, .int 0])), ((u 1), .inl (ca 0, 16, .inl (fun _ => 0))), ((u 2), .inr (4, [.ref (u 3), .int 0, .int 0])), ((u 3), .inl (ca 0, 216, .inl (fun _ => 0))), ((u 4), .inr (6, [.ref (u 5), .ref (u 6), .int 0, .int 0, .int 0])), ((u 5), .inl (ca 1, 110, .inl (fun _ => 0))), ((u 6), .inl (ca 0, 16, .inl (fun _ => 0))), ((u 7), .inr (5, [.ref (u 0), .ref (u 8), .ref (u 9), .ref (u 10), .ref (u 11), .ref (u 12), .ref (u 13)])), ((u 8), .inl (ca 0, 16, .inl (fun _ => 0))), ((u 9), .inl (ca 0, 8, .inl (fun _ => 0))), ((u 10), .inl (ca 0, 8, .inl (fun _ => 0))), ((u 11), .inl (ca 0, 8, .inl (fun _ => 0))), ((u 12), .inl (ca 0, 8, .inl (fun _ => 0))), ((u 13), .inl (ca 0, 8, .inl (fun _ => 0))), ((u 14), .inr (7, [.ref (u 0), .ref (u 15), .ref (u 16), .int 0, .ref (u 17), .int 0, .int 0, .int 0, .int 0, .int 0, .int 0])), ((u 15), .inl (ca 0, 16, .inl (fun _ => 0))), ((u 16), .inl (ca 0, 8, .inl (fun _ => 0))), ((u 17), .inl (ca 0, 100, .inl (fun _ => 0))), ((u 18), .inr (0, [.ref (u 0), .ref (u 7), .int 0, .int 0, .int 0, .int 0, .int 0, .int 0, .int 0, .int 0, .int 0, .int 0])), ((u 19), .inr (3, [.ref (u 0), .ref (u 7), .int 0])), ((u 20), .inr (1, [.ref (u 0), .ref (u 18), .int 0, .int 0, .int 0, .int 0, .int 0, .int 0]))] t.heap ∧ va_D (va_A [(h0, .inr (8, [.null, .null, .null, .null, .null, .null, .null, .null, .int 0]))] sz) [(h0, .inr (8, [.ref (u 0), .ref (u 2), .ref (u 4), .ref (u 7), .ref (u 14), .ref (u 18), .ref (u 19), .ref (u 20), .int (-1)])), ((u 0), .inr (2, [.ref (u 1), .int 0, .int 0])), ((u 1), .inl (ca 0, 16, .inl (fun _ => 0))), ((u 2), .inr (4, [.ref (u 3), .int 0, .int 0])), ((u 3), .inl (ca 0, 216, .inl (fun _ => 0))), ((u 4), .inr (6, [.ref (u 5), .ref (u 6), .int 0, .int 0, .int 0])), ((u 5), .inl (ca 1, 110, .inl (fun _ => 0))), ((u 6), .inl (ca 0, 16, .inl (fun _ => 0))), ((u 7), .inr (5, [.ref (u 0), .ref (u 8), .ref (u 9), .ref (u 10), .ref (u 11), .ref (u 12), .ref (u 13)])), ((u 8), .inl (ca 0, 16, .inl (fun _ => 0))), ((u 9), .inl (ca 0, 8, .inl (fun _ => 0))), ((u 10), .inl (ca 0, 8, .inl (fun _ => 0))), ((u 11), .inl (ca 0, 8, .inl (fun _ => 0))), ((u 12), .inl (ca 0, 8, .inl (fun _ => 0))), ((u 13), .inl (ca 0, 8, .inl (fun _ => 0))), ((u 14), .inr (7, [.ref (u 0), .ref (u 15), .ref (u 16), .int 0, .ref (u 17), .int 0, .int 0, .int 0, .int 0, .int 0, .int 0])), ((u 15), .inl (ca 0, 16, .inl (fun _ => 0))), ((u 16), .inl (ca 0, 8, .inl (fun _ => 0))), ((u 17), .inl (ca 0, 100, .inl (fun _ => 0))), ((u 18), .inr (0, [.ref (u 0), .ref (u 7), .int 0, .int 0, .int 0, .int 0, .int 0, .int 0, .int 0, .int 0, .int 0, .int 0])), ((u 19), .inr (3, [.ref (u 0), .ref (u 7), .int 0])), ((u 20), .inr (1, [.ref (u 0), .ref (u 18), .int 0, .int 0, .int 0, .int 0, .int 0, .int 0]))]) (va_A [(h0, .inr (8, [.null, .null, .null, .null, .null, .null, .null, .null, .int 0]))] sz)) 21 590 (va_A [(h0, .inr (8, [.null, .null, .null, .null, .null, .null, .null, .null, .int 0]))] sz) := by
  refine Met.ofW (cc := cX8_init) (maxL := 1) (ret := none) (by decide) rfl ?_
  intro p e s m args below meth c s₁ B hml hv
  obtain ⟨rfl, hsz, hP, hK, hD0, hN1, hN2, hN3⟩ := hv
  have hx := B.exec
  have hb := B.bytes
  have hr := B.returns
  have hts0 := atoms_spec (ws := ws_y mX8_init) B.pre
  have hts : ∀ w ∈ ly_G, w.before _ s = true := fun w hw => hts0 w (List.mem_cons_of_mem _ hw)
  have hown : s.vm.findClass RX8 = some m.cls := findClass_of_methodNamed B.named
  have hlocks := B.notSynchronized
  have hin : meth.name = "<init>" := (name_of_methodNamed B.named B.method).1
  subst hsz
  have hD := hD0.self (sz := s.heap.size)
  generalize hAe : va_A [(h0, .inr (8, [.null, .null, .null, .null, .null, .null, .null, .null, .int 0]))] s.heap.size = A at hD ⊢
  have hA : ∀ q : Nat, s.heap.size ≤ q → A q := fun q h => by rw [← hAe]; exact Or.inr h
  have hS : va_S A s.heap s.heap [] := va_S.rf
  have hl := lv_entry ([.ref h0]) (n := 1) (Nat.le_of_ble_eq_true rfl)
  rw [lg_entry_eq]
  generalize (lg_sl ([.ref h0]) ++ List.replicate (1 - (lg_sl ([.ref h0])).length) Slot.unset).toArray = ls at hl ⊢
  have hl : lv_has ls 1 [(0, .ref h0)] := hl
  refine lv_aload_n hx hb dX8_init_0 rfl (lv_at hl 0 rfl) ?_
  refine W.objInit hx hb hown (hts _ wk_70) (hts _ wl_oi) (hts _ wl_oc) rfl (by rw [hml]; exact hl.1) rfl dX8_init_1 (Nat.le_of_ble_eq_true rfl) (Nat.le_of_ble_eq_true rfl) ?_
  refine W.eq (g2 := F0 m 4 ls []) rfl ?_
  refine lv_aload_n hx hb dX8_init_4 rfl (lv_at hl 0 rfl) ?_
  refine va_new (ci := 2) (fs := [.null, .int 0, .int 0]) (C := RX2) (T := TX2) (N := 3) hx hb hts igX2 tyX2 tyX2_ok hown (hts _ wk_71) (hts _ wk_72) (hts _ wk_73) hK hP hD hS hA rfl (fun j hj => by rcases (show j = 0 ∨ j = 1 ∨ j = 2 by omega) with rfl | rfl | rfl <;> rfl) (Nat.le_of_ble_eq_true rfl) (Nat.le_of_ble_eq_true rfl) dX8_init_5 (fun q5 H hP hD hS => ?_)
  have hP : va_P (dC, dI) ly_C [(h0, .inr (8, [.null, .null, .null, .null, .null, .null, .null, .null, .int 0])), (q5, .inr (2, [.null, .int 0, .int 0]))] H := hP
  have hD : va_D A [(h0, .inr (8, [.null, .null, .null, .null, .null, .null, .null, .null, .int 0])), (q5, .inr (2, [.null, .int 0, .int 0]))] := hD
  refine W.widen (k := 1) (n := 3) (Nat.le_of_ble_eq_true rfl) (Nat.le_of_ble_eq_true rfl) ?_
  refine lv_dup hx hb dX8_init_8 rfl ?_
  have hPc := hP.sub (ws' := [(q5, .inr (2, [.null, .int 0, .int 0]))]) [1] rfl
  have hDc := hD.sub (ws' := [(q5, .inr (2, [.null, .int 0, .int 0]))]) [1] (by decide) rfl
  have hFc := va_free (wc := [(q5, .inr (2, [.null, .int 0, .int 0]))]) hD hS hA [1] rfl
  refine va_callv (va_runIN (As := []) (rest := [.ref q5, .ref h0]) ⟨hx, hb, hml, hown, hts⟩ (k_X2_init l dC dI ca q5 H.size) ⟨va_cnB 0 hts (ws_good wk_74) rfl rfl rfl hN1 (hts _ wk_73) (by decide +kernel) ⟨Nat.le_of_ble_eq_true rfl, Nat.le_of_ble_eq_true rfl⟩, rfl, hts _ wk_75⟩ ⟨fun a U g mk q => by obtain ⟨z0, z1, qP, qK, qD⟩ := q; exact ⟨z0, z1, qP, va_K.moved (u := U) (U := U.calling g mk a) (Vm.Alike.refl U.vm) qK, qD⟩, fun U hU hW => ⟨rfl, by rw [hU], by rw [hU]; exact hPc, va_K.moved hW.alike hK, hDc.weaken (fun _ _ _ _ => trivial)⟩⟩ rfl rfl hl.1 rfl (lv_room (Nat.le_of_ble_eq_true rfl)) dX8_init_9 ⟨Nat.le_of_ble_eq_true rfl, Nat.le_of_ble_eq_true rfl⟩) hS (fun q _ h => hFc q h) hFc (fun u9 t H1 locs ht hvm hw hB hz1 hk1 hS => ?_)
  obtain ⟨hP1, hD1⟩ := hB
  rw [ht] at hP1
  obtain ⟨hP, hD⟩ := va_join (wr := [(h0, .inr (8, [.null, .null, .null, .null, .null, .null, .null, .null, .int 0]))]) (w1 := [(q5, .inr (2, [.ref (u9 0), .int 0, .int 0])), ((u9 0), .inl (ca 0, 16, .inl (fun _ => 0)))]) hP hD [1] [0] rfl rfl (by decide) (by decide) hk1 hFc hP1 hD1
  generalize H1 = H at hP hS ⊢
  have hP : va_P (dC, dI) ly_C [(h0, .inr (8, [.null, .null, .null, .null, .null, .null, .null, .null, .int 0])), (q5, .inr (2, [.ref (u9 0), .int 0, .int 0])), ((u9 0), .inl (ca 0, 16, .inl (fun _ => 0)))] H := hP
  have hD : va_D A [(h0, .inr (8, [.null, .null, .null, .null, .null, .null, .null, .null, .int 0])), (q5, .inr (2, [.ref (u9 0), .int 0, .int 0])), ((u9 0), .inl (ca 0, 16, .inl (fun _ => 0)))] := hD
  refine W.widen (k := 2) (n := 19) (Nat.le_of_ble_eq_true rfl) (Nat.le_of_ble_eq_true rfl) ?_
  refine va_putF (D := (dC, dI)) (ci := 8) (v := .ref q5) (ty := .object "PathInterdiction$Graph") (C := RX8) (T := TX8) (N := 9) hx hb hts igX8 tyX8 tyX8_ok nmX8 hown hK hP hD hS 0 rfl rfl 0 (by decide) (hts _ wk_76) (fun _ h9 => h9) rfl hin rfl (by decide +kernel) rfl rfl (Nat.le_of_ble_eq_true rfl) dX8_init_12 (fun H locs hP hD hS => ?_)
  have hP : va_P (dC, dI) ly_C [(h0, .inr (8, [.ref q5, .null, .null, .null, .null, .null, .null, .null, .int 0])), (q5, .inr (2, [.ref (u9 0), .int 0, .int 0])), ((u9 0), .inl (ca 0, 16, .inl (fun _ => 0)))] H := hP
  have hD : va_D A [(h0, .inr (8, [.ref q5, .null, .null, .null, .null, .null, .null, .null, .int 0])), (q5, .inr (2, [.ref (u9 0), .int 0, .int 0])), ((u9 0), .inl (ca 0, 16, .inl (fun _ => 0)))] := hD
  refine lv_aload_n hx hb dX8_init_15 rfl (lv_at hl 0 rfl) ?_
  refine va_new (ci := 4) (fs := [.null, .int 0, .int 0]) (C := RX4) (T := TX4) (N := 3) hx hb hts igX4 tyX4 tyX4_ok hown (hts _ wk_77) (hts _ wk_78) (hts _ wk_79) hK hP hD hS hA rfl (fun j hj => by rcases (show j = 0 ∨ j = 1 ∨ j = 2 by omega) with rfl | rfl | rfl <;> rfl) (Nat.le_of_ble_eq_true rfl) (Nat.le_of_ble_eq_true rfl) dX8_init_16 (fun q16 H hP hD hS => ?_)
  have hP : va_P (dC, dI) ly_C [(h0, .inr (8, [.ref q5, .null, .null, .null, .null, .null, .null, .null, .int 0])), (q5, .inr (2, [.ref (u9 0), .int 0, .int 0])), ((u9 0), .inl (ca 0, 16, .inl (fun _ => 0))), (q16, .inr (4, [.null, .int 0, .int 0]))] H := hP
  have hD : va_D A [(h0, .inr (8, [.ref q5, .null, .null, .null, .null, .null, .null, .null, .int 0])), (q5, .inr (2, [.ref (u9 0), .int 0, .int 0])), ((u9 0), .inl (ca 0, 16, .inl (fun _ => 0))), (q16, .inr (4, [.null, .int 0, .int 0]))] := hD
  refine W.widen (k := 3) (n := 22) (Nat.le_of_ble_eq_true rfl) (Nat.le_of_ble_eq_true rfl) ?_
  refine lv_dup hx hb dX8_init_19 rfl ?_
  have hPc := hP.sub (ws' := [(q16, .inr (4, [.null, .int 0, .int 0]))]) [3] rfl
  have hDc := hD.sub (ws' := [(q16, .inr (4, [.null, .int 0, .int 0]))]) [3] (by decide) rfl
  have hFc := va_free (wc := [(q16, .inr (4, [.null, .int 0, .int 0]))]) hD hS hA [3] rfl
  refine va_callv (va_runIN (As := []) (rest := [.ref q16, .ref h0]) ⟨hx, hb, hml, hown, hts⟩ (k_X4_init l dC dI ca q16 H.size) ⟨va_cnB 0 hts (ws_good wk_80) rfl rfl rfl hN2 (hts _ wk_79) (by decide +kernel) ⟨Nat.le_of_ble_eq_true rfl, Nat.le_of_ble_eq_true rfl⟩, rfl, hts _ wk_81⟩ ⟨fun a U g mk q => by obtain ⟨z0, z1, qP, qK, qD⟩ := q; exact ⟨z0, z1, qP, va_K.moved (u := U) (U := U.calling g mk a) (Vm.Alike.refl U.vm) qK, qD⟩, fun U hU hW => ⟨rfl, by rw [hU], by rw [hU]; exact hPc, va_K.moved hW.alike hK, hDc.weaken (fun _ _ _ _ => trivial)⟩⟩ rfl rfl hl.1 rfl (lv_room (Nat.le_of_ble_eq_true rfl)) dX8_init_20 ⟨Nat.le_of_ble_eq_true rfl, Nat.le_of_ble_eq_true rfl⟩) hS (fun q _ h => hFc q h) hFc (fun u20 t H1 locs ht hvm hw hB hz1 hk1 hS => ?_)
  obtain ⟨hP1, hD1⟩ := hB
  rw [ht] at hP1
  obtain ⟨hP, hD⟩ := va_join (wr := [(h0, .inr (8, [.ref q5, .null, .null, .null, .null, .null, .null, .null, .int 0])), (q5, .inr (2, [.ref (u9 0), .int 0, .int 0])), ((u9 0), .inl (ca 0, 16, .inl (fun _ => 0)))]) (w1 := [(q16, .inr (4, [.ref (u20 0), .int 0, .int 0])), ((u20 0), .inl (ca 0, 216, .inl (fun _ => 0)))]) hP hD [3] [0, 1, 2] rfl rfl (by decide) (by decide) hk1 hFc hP1 hD1
  generalize H1 = H at hP hS ⊢
  have hP : va_P (dC, dI) ly_C [(h0, .inr (8, [.ref q5, .null, .null, .null, .null, .null, .null, .null, .int 0])), (q5, .inr (2, [.ref (u9 0), .int 0, .int 0])), ((u9 0), .inl (ca 0, 16, .inl (fun _ => 0))), (q16, .inr (4, [.ref (u20 0), .int 0, .int 0])), ((u20 0), .inl (ca 0, 216, .inl (fun _ => 0)))] H := hP
  have hD : va_D A [(h0, .inr (8, [.ref q5, .null, .null, .null, .null, .null, .null, .null, .int 0])), (q5, .inr (2, [.ref (u9 0), .int 0, .int 0])), ((u9 0), .inl (ca 0, 16, .inl (fun _ => 0))), (q16, .inr (4, [.ref (u20 0), .int 0, .int 0])), ((u20 0), .inl (ca 0, 216, .inl (fun _ => 0)))] := hD
  refine W.widen (k := 4) (n := 238) (Nat.le_of_ble_eq_true rfl) (Nat.le_of_ble_eq_true rfl) ?_
  refine va_putF (D := (dC, dI)) (ci := 8) (v := .ref q16) (ty := .object "PathInterdiction$History") (C := RX8) (T := TX8) (N := 9) hx hb hts igX8 tyX8 tyX8_ok nmX8 hown hK hP hD hS 0 rfl rfl 1 (by decide) (hts _ wk_82) (fun _ h9 => h9) rfl hin rfl (by decide +kernel) rfl rfl (Nat.le_of_ble_eq_true rfl) dX8_init_23 (fun H locs hP hD hS => ?_)
  have hP : va_P (dC, dI) ly_C [(h0, .inr (8, [.ref q5, .ref q16, .null, .null, .null, .null, .null, .null, .int 0])), (q5, .inr (2, [.ref (u9 0), .int 0, .int 0])), ((u9 0), .inl (ca 0, 16, .inl (fun _ => 0))), (q16, .inr (4, [.ref (u20 0), .int 0, .int 0])), ((u20 0), .inl (ca 0, 216, .inl (fun _ => 0)))] H := hP
  have hD : va_D A [(h0, .inr (8, [.ref q5, .ref q16, .null, .null, .null, .null, .null, .null, .int 0])), (q5, .inr (2, [.ref (u9 0), .int 0, .int 0])), ((u9 0), .inl (ca 0, 16, .inl (fun _ => 0))), (q16, .inr (4, [.ref (u20 0), .int 0, .int 0])), ((u20 0), .inl (ca 0, 216, .inl (fun _ => 0)))] := hD
  refine lv_aload_n hx hb dX8_init_26 rfl (lv_at hl 0 rfl) ?_
  refine va_new (ci := 6) (fs := [.null, .null, .int 0, .int 0, .int 0]) (C := RX6) (T := TX6) (N := 5) hx hb hts igX6 tyX6 tyX6_ok hown (hts _ wk_83) (hts _ wk_84) (hts _ wk_85) hK hP hD hS hA rfl (fun j hj => by rcases (show j = 0 ∨ j = 1 ∨ j = 2 ∨ j = 3 ∨ j = 4 by omega) with rfl | rfl | rfl | rfl | rfl <;> rfl) (Nat.le_of_ble_eq_true rfl) (Nat.le_of_ble_eq_true rfl) dX8_init_27 (fun q27 H hP hD hS => ?_)
  have hP : va_P (dC, dI) ly_C [(h0, .inr (8, [.ref q5, .ref q16, .null, .null, .null, .null, .null, .null, .int 0])), (q5, .inr (2, [.ref (u9 0), .int 0, .int 0])), ((u9 0), .inl (ca 0, 16, .inl (fun _ => 0))), (q16, .inr (4, [.ref (u20 0), .int 0, .int 0])), ((u20 0), .inl (ca 0, 216, .inl (fun _ => 0))), (q27, .inr (6, [.null, .null, .int 0, .int 0, .int 0]))] H := hP
  have hD : va_D A [(h0, .inr (8, [.ref q5, .ref q16, .null, .null, .null, .null, .null, .null, .int 0])), (q5, .inr (2, [.ref (u9 0), .int 0, .int 0])), ((u9 0), .inl (ca 0, 16, .inl (fun _ => 0))), (q16, .inr (4, [.ref (u20 0), .int 0, .int 0])), ((u20 0), .inl (ca 0, 216, .inl (fun _ => 0))), (q27, .inr (6, [.null, .null, .int 0, .int 0, .int 0]))] := hD
  refine W.widen (k := 5) (n := 243) (Nat.le_of_ble_eq_true rfl) (Nat.le_of_ble_eq_true rfl) ?_
  refine lv_dup hx hb dX8_init_30 rfl ?_
  have hPc := hP.sub (ws' := [(q27, .inr (6, [.null, .null, .int 0, .int 0, .int 0]))]) [5] rfl
  have hDc := hD.sub (ws' := [(q27, .inr (6, [.null, .null, .int 0, .int 0, .int 0]))]) [5] (by decide) rfl
  have hFc := va_free (wc := [(q27, .inr (6, [.null, .null, .int 0, .int 0, .int 0]))]) hD hS hA [5] rfl
  refine va_callv (va_runIN (As := []) (rest := [.ref q27, .ref h0]) ⟨hx, hb, hml, hown, hts⟩ (k_X6_init l dC dI ca q27 H.size) ⟨va_cnB 0 hts (ws_good wk_86) rfl rfl rfl hN3 (hts _ wk_85) (by decide +kernel) ⟨Nat.le_of_ble_eq_true rfl, Nat.le_of_ble_eq_true rfl⟩, rfl, hts _ wk_87⟩ ⟨fun a U g mk q => by obtain ⟨z0, z1, qP, qK, qD⟩ := q; exact ⟨z0, z1, qP, va_K.moved (u := U) (U := U.calling g mk a) (Vm.Alike.refl U.vm) qK, qD⟩, fun U hU hW => ⟨rfl, by rw [hU], by rw [hU]; exact hPc, va_K.moved hW.alike hK, hDc.weaken (fun _ _ _ _ => trivial)⟩⟩ rfl rfl hl.1 rfl (lv_room (Nat.le_of_ble_eq_true rfl)) dX8_init_31 ⟨Nat.le_of_ble_eq_true rfl, Nat.le_of_ble_eq_true rfl⟩) hS (fun q _ h => hFc q h) hFc (fun u31 t H1 locs ht hvm hw hB hz1 hk1 hS => ?_)
  obtain ⟨hP1, hD1⟩ := hB
  rw [ht] at hP1
  obtain ⟨hP, hD⟩ := va_join (wr := [(h0, .inr (8, [.ref q5, .ref q16, .null, .null, .null, .null, .null, .null, .int 0])), (q5, .inr (2, [.ref (u9 0), .int 0, .int 0])), ((u9 0), .inl (ca 0, 16, .inl (fun _ => 0))), (q16, .inr (4, [.ref (u20 0), .int 0, .int 0])), ((u20 0), .inl (ca 0, 216, .inl (fun _ => 0)))]) (w1 := [(q27, .inr (6, [.ref (u31 0), .ref (u31 1), .int 0, .int 0, .int 0])), ((u31 0), .inl (ca 1, 110, .inl (fun _ => 0))), ((u31 1), .inl (ca 0, 16, .inl (fun _ => 0)))]) hP hD [5] [0, 1, 2, 3, 4] rfl rfl (by decide) (by decide) hk1 hFc hP1 hD1
  generalize H1 = H at hP hS ⊢
  have hP : va_P (dC, dI) ly_C [(h0, .inr (8, [.ref q5, .ref q16, .null, .null, .null, .null, .null, .null, .int 0])), (q5, .inr (2, [.ref (u9 0), .int 0, .int 0])), ((u9 0), .inl (ca 0, 16, .inl (fun _ => 0))), (q16, .inr (4, [.ref (u20 0), .int 0, .int 0])), ((u20 0), .inl (ca 0, 216, .inl (fun _ => 0))), (q27, .inr (6, [.ref (u31 0), .ref (u31 1), .int 0, .int 0, .int 0])), ((u31 0), .inl (ca 1, 110, .inl (fun _ => 0))), ((u31 1), .inl (ca 0, 16, .inl (fun _ => 0)))] H := hP
  have hD : va_D A [(h0, .inr (8, [.ref q5, .ref q16, .null, .null, .null, .null, .null, .null, .int 0])), (q5, .inr (2, [.ref (u9 0), .int 0, .int 0])), ((u9 0), .inl (ca 0, 16, .inl (fun _ => 0))), (q16, .inr (4, [.ref (u20 0), .int 0, .int 0])), ((u20 0), .inl (ca 0, 216, .inl (fun _ => 0))), (q27, .inr (6, [.ref (u31 0), .ref (u31 1), .int 0, .int 0, .int 0])), ((u31 0), .inl (ca 1, 110, .inl (fun _ => 0))), ((u31 1), .inl (ca 0, 16, .inl (fun _ => 0)))] := hD
  refine W.widen (k := 7) (n := 369) (Nat.le_of_ble_eq_true rfl) (Nat.le_of_ble_eq_true rfl) ?_
  refine va_putF (D := (dC, dI)) (ci := 8) (v := .ref q27) (ty := .object "PathInterdiction$Text") (C := RX8) (T := TX8) (N := 9) hx hb hts igX8 tyX8 tyX8_ok nmX8 hown hK hP hD hS 0 rfl rfl 2 (by decide) (hts _ wk_88) (fun _ h9 => h9) rfl hin rfl (by decide +kernel) rfl rfl (Nat.le_of_ble_eq_true rfl) dX8_init_34 (fun H locs hP hD hS => ?_)
  have hP : va_P (dC, dI) ly_C [(h0, .inr (8, [.ref q5, .ref q16, .ref q27, .null, .null, .null, .null, .null, .int 0])), (q5, .inr (2, [.ref (u9 0), .int 0, .int 0])), ((u9 0), .inl (ca 0, 16, .inl (fun _ => 0))), (q16, .inr (4, [.ref (u20 0), .int 0, .int 0])), ((u20 0), .inl (ca 0, 216, .inl (fun _ => 0))), (q27, .inr (6, [.ref (u31 0), .ref (u31 1), .int 0, .int 0, .int 0])), ((u31 0), .inl (ca 1, 110, .inl (fun _ => 0))), ((u31 1), .inl (ca 0, 16, .inl (fun _ => 0)))] H := hP
  have hD : va_D A [(h0, .inr (8, [.ref q5, .ref q16, .ref q27, .null, .null, .null, .null, .null, .int 0])), (q5, .inr (2, [.ref (u9 0), .int 0, .int 0])), ((u9 0), .inl (ca 0, 16, .inl (fun _ => 0))), (q16, .inr (4, [.ref (u20 0), .int 0, .int 0])), ((u20 0), .inl (ca 0, 216, .inl (fun _ => 0))), (q27, .inr (6, [.ref (u31 0), .ref (u31 1), .int 0, .int 0, .int 0])), ((u31 0), .inl (ca 1, 110, .inl (fun _ => 0))), ((u31 1), .inl (ca 0, 16, .inl (fun _ => 0)))] := hD
  refine lv_aload_n hx hb dX8_init_37 rfl (lv_at hl 0 rfl) ?_
  refine va_new (ci := 5) (fs := [.null, .null, .null, .null, .null, .null, .null]) (C := RX5) (T := TX5) (N := 7) hx hb hts igX5 tyX5 tyX5_ok hown (hts _ wk_89) (hts _ wk_90) (hts _ wk_91) hK hP hD hS hA rfl (fun j hj => by rcases (show j = 0 ∨ j = 1 ∨ j = 2 ∨ j = 3 ∨ j = 4 ∨ j = 5 ∨ j = 6 by omega) with rfl | rfl | rfl | rfl | rfl | rfl | rfl <;> rfl) (Nat.le_of_ble_eq_true rfl) (Nat.le_of_ble_eq_true rfl) dX8_init_38 (fun q38 H hP hD hS => ?_)
  have hP : va_P (dC, dI) ly_C [(h0, .inr (8, [.ref q5, .ref q16, .ref q27, .null, .null, .null, .null, .null, .int 0])), (q5, .inr (2, [.ref (u9 0), .int 0, .int 0])), ((u9 0), .inl (ca 0, 16, .inl (fun _ => 0))), (q16, .inr (4, [.ref (u20 0), .int 0, .int 0])), ((u20 0), .inl (ca 0, 216, .inl (fun _ => 0))), (q27, .inr (6, [.ref (u31 0), .ref (u31 1), .int 0, .int 0, .int 0])), ((u31 0), .inl (ca 1, 110, .inl (fun _ => 0))), ((u31 1), .inl (ca 0, 16, .inl (fun _ => 0))), (q38, .inr (5, [.null, .null, .null, .null, .null, .null, .null]))] H := hP
  have hD : va_D A [(h0, .inr (8, [.ref q5, .ref q16, .ref q27, .null, .null, .null, .null, .null, .int 0])), (q5, .inr (2, [.ref (u9 0), .int 0, .int 0])), ((u9 0), .inl (ca 0, 16, .inl (fun _ => 0))), (q16, .inr (4, [.ref (u20 0), .int 0, .int 0])), ((u20 0), .inl (ca 0, 216, .inl (fun _ => 0))), (q27, .inr (6, [.ref (u31 0), .ref (u31 1), .int 0, .int 0, .int 0])), ((u31 0), .inl (ca 1, 110, .inl (fun _ => 0))), ((u31 1), .inl (ca 0, 16, .inl (fun _ => 0))), (q38, .inr (5, [.null, .null, .null, .null, .null, .null, .null]))] := hD
  refine W.widen (k := 8) (n := 376) (Nat.le_of_ble_eq_true rfl) (Nat.le_of_ble_eq_true rfl) ?_
  refine lv_dup hx hb dX8_init_41 rfl ?_
  refine lv_aload_n hx hb dX8_init_42 rfl (lv_at hl 0 rfl) ?_
  refine va_get (D := (dC, dI)) (ci := 8) (v := .ref q5) (C := RX8) (T := TX8) (N := 9) hx hb hts igX8 hown hK hP 0 rfl rfl 0 (by decide) (hts _ wk_92) (fun _ h9 => h9) rfl dX8_init_43 ?_
  have hPc := hP.sub (ws' := [(q38, .inr (5, [.null, .null, .null, .null, .null, .null, .null]))]) [8] rfl
  have hDc := hD.sub (ws' := [(q38, .inr (5, [.null, .null, .null, .null, .null, .null, .null]))]) [8] (by decide) rfl
  have hFc := va_free (wc := [(q38, .inr (5, [.null, .null, .null, .null, .null, .null, .null]))]) hD hS hA [8] rfl
  refine va_callv (va_runI (As := [.ref q5]) (rest := [.ref q38, .ref h0]) ⟨hx, hb, hml, hown, hts⟩ (k_X5_init l dC dI ca q38 q5 H.size) (cwI 1 hts (ws_good wk_93) rfl rfl rfl (hts _ wk_91) (hts _ wk_95) (hts _ wk_94) rfl (by decide +kernel) ⟨Nat.le_of_ble_eq_true rfl, Nat.le_of_ble_eq_true rfl⟩) ⟨fun a U g mk q => by obtain ⟨z0, z1, qP, qK, qD⟩ := q; exact ⟨z0, z1, qP, va_K.moved (u := U) (U := U.calling g mk a) (Vm.Alike.refl U.vm) qK, qD⟩, fun U hU hW => ⟨rfl, by rw [hU], by rw [hU]; exact hPc, va_K.moved hW.alike hK, hDc.weaken (fun _ _ _ _ => trivial)⟩⟩ rfl rfl hl.1 rfl (lv_room (Nat.le_of_ble_eq_true rfl)) dX8_init_46 ⟨Nat.le_of_ble_eq_true rfl, Nat.le_of_ble_eq_true rfl⟩) hS (fun q _ h => hFc q h) hFc (fun u46 t H1 locs ht hvm hw hB hz1 hk1 hS => ?_)
  obtain ⟨hP1, hD1⟩ := hB
  rw [ht] at hP1
  obtain ⟨hP, hD⟩ := va_join (wr := [(h0, .inr (8, [.ref q5, .ref q16, .ref q27, .null, .null, .null, .null, .null, .int 0])), (q5, .inr (2, [.ref (u9 0), .int 0, .int 0])), ((u9 0), .inl (ca 0, 16, .inl (fun _ => 0))), (q16, .inr (4, [.ref (u20 0), .int 0, .int 0])), ((u20 0), .inl (ca 0, 216, .inl (fun _ => 0))), (q27, .inr (6, [.ref (u31 0), .ref (u31 1), .int 0, .int 0, .int 0])), ((u31 0), .inl (ca 1, 110, .inl (fun _ => 0))), ((u31 1), .inl (ca 0, 16, .inl (fun _ => 0)))]) (w1 := [(q38, .inr (5, [.ref q5, .ref (u46 0), .ref (u46 1), .ref (u46 2), .ref (u46 3), .ref (u46 4), .ref (u46 5)])), ((u46 0), .inl (ca 0, 16, .inl (fun _ => 0))), ((u46 1), .inl (ca 0, 8, .inl (fun _ => 0))), ((u46 2), .inl (ca 0, 8, .inl (fun _ => 0))), ((u46 3), .inl (ca 0, 8, .inl (fun _ => 0))), ((u46 4), .inl (ca 0, 8, .inl (fun _ => 0))), ((u46 5), .inl (ca 0, 8, .inl (fun _ => 0)))]) hP hD [8] [0, 1, 2, 3, 4, 5, 6, 7] rfl rfl (by decide) (by decide) hk1 hFc hP1 hD1
  generalize H1 = H at hP hS ⊢
  have hP : va_P (dC, dI) ly_C [(h0, .inr (8, [.ref q5, .ref q16, .ref q27, .null, .null, .null, .null, .null, .int 0])), (q5, .inr (2, [.ref (u9 0), .int 0, .int 0])), ((u9 0), .inl (ca 0, 16, .inl (fun _ => 0))), (q16, .inr (4, [.ref (u20 0), .int 0, .int 0])), ((u20 0), .inl (ca 0, 216, .inl (fun _ => 0))), (q27, .inr (6, [.ref (u31 0), .ref (u31 1), .int 0, .int 0, .int 0])), ((u31 0), .inl (ca 1, 110, .inl (fun _ => 0))), ((u31 1), .inl (ca 0, 16, .inl (fun _ => 0))), (q38, .inr (5, [.ref q5, .ref (u46 0), .ref (u46 1), .ref (u46 2), .ref (u46 3), .ref (u46 4), .ref (u46 5)])), ((u46 0), .inl (ca 0, 16, .inl (fun _ => 0))), ((u46 1), .inl (ca 0, 8, .inl (fun _ => 0))), ((u46 2), .inl (ca 0, 8, .inl (fun _ => 0))), ((u46 3), .inl (ca 0, 8, .inl (fun _ => 0))), ((u46 4), .inl (ca 0, 8, .inl (fun _ => 0))), ((u46 5), .inl (ca 0, 8, .inl (fun _ => 0)))] H := hP
  have hD : va_D A [(h0, .inr (8, [.ref q5, .ref q16, .ref q27, .null, .null, .null, .null, .null, .int 0])), (q5, .inr (2, [.ref (u9 0), .int 0, .int 0])), ((u9 0), .inl (ca 0, 16, .inl (fun _ => 0))), (q16, .inr (4, [.ref (u20 0), .int 0, .int 0])), ((u20 0), .inl (ca 0, 216, .inl (fun _ => 0))), (q27, .inr (6, [.ref (u31 0), .ref (u31 1), .int 0, .int 0, .int 0])), ((u31 0), .inl (ca 1, 110, .inl (fun _ => 0))), ((u31 1), .inl (ca 0, 16, .inl (fun _ => 0))), (q38, .inr (5, [.ref q5, .ref (u46 0), .ref (u46 1), .ref (u46 2), .ref (u46 3), .ref (u46 4), .ref (u46 5)])), ((u46 0), .inl (ca 0, 16, .inl (fun _ => 0))), ((u46 1), .inl (ca 0, 8, .inl (fun _ => 0))), ((u46 2), .inl (ca 0, 8, .inl (fun _ => 0))), ((u46 3), .inl (ca 0, 8, .inl (fun _ => 0))), ((u46 4), .inl (ca 0, 8, .inl (fun _ => 0))), ((u46 5), .inl (ca 0, 8, .inl (fun _ => 0)))] := hD
  refine W.widen (k := 14) (n := 432) (Nat.le_of_ble_eq_true rfl) (Nat.le_of_ble_eq_true rfl) ?_
  refine va_putF (D := (dC, dI)) (ci := 8) (v := .ref q38) (ty := .object "PathInterdiction$Router") (C := RX8) (T := TX8) (N := 9) hx hb hts igX8 tyX8 tyX8_ok nmX8 hown hK hP hD hS 0 rfl rfl 3 (by decide) (hts _ wk_96) (fun _ h9 => h9) rfl hin rfl (by decide +kernel) rfl rfl (Nat.le_of_ble_eq_true rfl) dX8_init_49 (fun H locs hP hD hS => ?_)
  have hP : va_P (dC, dI) ly_C [(h0, .inr (8, [.ref q5, .ref q16, .ref q27, .ref q38, .null, .null, .null, .null, .int 0])), (q5, .inr (2, [.ref (u9 0), .int 0, .int 0])), ((u9 0), .inl (ca 0, 16, .inl (fun _ => 0))), (q16, .inr (4, [.ref (u20 0), .int 0, .int 0])), ((u20 0), .inl (ca 0, 216, .inl (fun _ => 0))), (q27, .inr (6, [.ref (u31 0), .ref (u31 1), .int 0, .int 0, .int 0])), ((u31 0), .inl (ca 1, 110, .inl (fun _ => 0))), ((u31 1), .inl (ca 0, 16, .inl (fun _ => 0))), (q38, .inr (5, [.ref q5, .ref (u46 0), .ref (u46 1), .ref (u46 2), .ref (u46 3), .ref (u46 4), .ref (u46 5)])), ((u46 0), .inl (ca 0, 16, .inl (fun _ => 0))), ((u46 1), .inl (ca 0, 8, .inl (fun _ => 0))), ((u46 2), .inl (ca 0, 8, .inl (fun _ => 0))), ((u46 3), .inl (ca 0, 8, .inl (fun _ => 0))), ((u46 4), .inl (ca 0, 8, .inl (fun _ => 0))), ((u46 5), .inl (ca 0, 8, .inl (fun _ => 0)))] H := hP
  have hD : va_D A [(h0, .inr (8, [.ref q5, .ref q16, .ref q27, .ref q38, .null, .null, .null, .null, .int 0])), (q5, .inr (2, [.ref (u9 0), .int 0, .int 0])), ((u9 0), .inl (ca 0, 16, .inl (fun _ => 0))), (q16, .inr (4, [.ref (u20 0), .int 0, .int 0])), ((u20 0), .inl (ca 0, 216, .inl (fun _ => 0))), (q27, .inr (6, [.ref (u31 0), .ref (u31 1), .int 0, .int 0, .int 0])), ((u31 0), .inl (ca 1, 110, .inl (fun _ => 0))), ((u31 1), .inl (ca 0, 16, .inl (fun _ => 0))), (q38, .inr (5, [.ref q5, .ref (u46 0), .ref (u46 1), .ref (u46 2), .ref (u46 3), .ref (u46 4), .ref (u46 5)])), ((u46 0), .inl (ca 0, 16, .inl (fun _ => 0))), ((u46 1), .inl (ca 0, 8, .inl (fun _ => 0))), ((u46 2), .inl (ca 0, 8, .inl (fun _ => 0))), ((u46 3), .inl (ca 0, 8, .inl (fun _ => 0))), ((u46 4), .inl (ca 0, 8, .inl (fun _ => 0))), ((u46 5), .inl (ca 0, 8, .inl (fun _ => 0)))] := hD
  refine lv_aload_n hx hb dX8_init_52 rfl (lv_at hl 0 rfl) ?_
  refine va_new (ci := 7) (fs := [.null, .null, .null, .int 0, .null, .int 0, .int 0, .int 0, .int 0, .int 0, .int 0]) (C := RX7) (T := TX7) (N := 11) hx hb hts igX7 tyX7 tyX7_ok hown (hts _ wk_97) (hts _ wk_98) (hts _ wk_99) hK hP hD hS hA rfl (fun j hj => by rcases (show j = 0 ∨ j = 1 ∨ j = 2 ∨ j = 3 ∨ j = 4 ∨ j = 5 ∨ j = 6 ∨ j = 7 ∨ j = 8 ∨ j = 9 ∨ j = 10 by omega) with rfl | rfl | rfl | rfl | rfl | rfl | rfl | rfl | rfl | rfl | rfl <;> rfl) (Nat.le_of_ble_eq_true rfl) (Nat.le_of_ble_eq_true rfl) dX8_init_53 (fun q53 H hP hD hS => ?_)
  have hP : va_P (dC, dI) ly_C [(h0, .inr (8, [.ref q5, .ref q16, .ref q27, .ref q38, .null, .null, .null, .null, .int 0])), (q5, .inr (2, [.ref (u9 0), .int 0, .int 0])), ((u9 0), .inl (ca 0, 16, .inl (fun _ => 0))), (q16, .inr (4, [.ref (u20 0), .int 0, .int 0])), ((u20 0), .inl (ca 0, 216, .inl (fun _ => 0))), (q27, .inr (6, [.ref (u31 0), .ref (u31 1), .int 0, .int 0, .int 0])), ((u31 0), .inl (ca 1, 110, .inl (fun _ => 0))), ((u31 1), .inl (ca 0, 16, .inl (fun _ => 0))), (q38, .inr (5, [.ref q5, .ref (u46 0), .ref (u46 1), .ref (u46 2), .ref (u46 3), .ref (u46 4), .ref (u46 5)])), ((u46 0), .inl (ca 0, 16, .inl (fun _ => 0))), ((u46 1), .inl (ca 0, 8, .inl (fun _ => 0))), ((u46 2), .inl (ca 0, 8, .inl (fun _ => 0))), ((u46 3), .inl (ca 0, 8, .inl (fun _ => 0))), ((u46 4), .inl (ca 0, 8, .inl (fun _ => 0))), ((u46 5), .inl (ca 0, 8, .inl (fun _ => 0))), (q53, .inr (7, [.null, .null, .null, .int 0, .null, .int 0, .int 0, .int 0, .int 0, .int 0, .int 0]))] H := hP
  have hD : va_D A [(h0, .inr (8, [.ref q5, .ref q16, .ref q27, .ref q38, .null, .null, .null, .null, .int 0])), (q5, .inr (2, [.ref (u9 0), .int 0, .int 0])), ((u9 0), .inl (ca 0, 16, .inl (fun _ => 0))), (q16, .inr (4, [.ref (u20 0), .int 0, .int 0])), ((u20 0), .inl (ca 0, 216, .inl (fun _ => 0))), (q27, .inr (6, [.ref (u31 0), .ref (u31 1), .int 0, .int 0, .int 0])), ((u31 0), .inl (ca 1, 110, .inl (fun _ => 0))), ((u31 1), .inl (ca 0, 16, .inl (fun _ => 0))), (q38, .inr (5, [.ref q5, .ref (u46 0), .ref (u46 1), .ref (u46 2), .ref (u46 3), .ref (u46 4), .ref (u46 5)])), ((u46 0), .inl (ca 0, 16, .inl (fun _ => 0))), ((u46 1), .inl (ca 0, 8, .inl (fun _ => 0))), ((u46 2), .inl (ca 0, 8, .inl (fun _ => 0))), ((u46 3), .inl (ca 0, 8, .inl (fun _ => 0))), ((u46 4), .inl (ca 0, 8, .inl (fun _ => 0))), ((u46 5), .inl (ca 0, 8, .inl (fun _ => 0))), (q53, .inr (7, [.null, .null, .null, .int 0, .null, .int 0, .int 0, .int 0, .int 0, .int 0, .int 0]))] := hD
  refine W.widen (k := 15) (n := 443) (Nat.le_of_ble_eq_true rfl) (Nat.le_of_ble_eq_true rfl) ?_
  refine lv_dup hx hb dX8_init_56 rfl ?_
  refine lv_aload_n hx hb dX8_init_57 rfl (lv_at hl 0 rfl) ?_
  refine va_get (D := (dC, dI)) (ci := 8) (v := .ref q5) (C := RX8) (T := TX8) (N := 9) hx hb hts igX8 hown hK hP 0 rfl rfl 0 (by decide) (hts _ wk_100) (fun _ h9 => h9) rfl dX8_init_58 ?_
  have hPc := hP.sub (ws' := [(q53, .inr (7, [.null, .null, .null, .int 0, .null, .int 0, .int 0, .int 0, .int 0, .int 0, .int 0]))]) [15] rfl
  have hDc := hD.sub (ws' := [(q53, .inr (7, [.null, .null, .null, .int 0, .null, .int 0, .int 0, .int 0, .int 0, .int 0, .int 0]))]) [15] (by decide) rfl
  have hFc := va_free (wc := [(q53, .inr (7, [.null, .null, .null, .int 0, .null, .int 0, .int 0, .int 0, .int 0, .int 0, .int 0]))]) hD hS hA [15] rfl
  refine va_callv (va_runI (As := [.ref q5]) (rest := [.ref q53, .ref h0]) ⟨hx, hb, hml, hown, hts⟩ (k_X7_init l dC dI ca q53 q5 H.size) (cwI 1 hts (ws_good wk_101) rfl rfl rfl (hts _ wk_99) (hts _ wk_103) (hts _ wk_102) rfl (by decide +kernel) ⟨Nat.le_of_ble_eq_true rfl, Nat.le_of_ble_eq_true rfl⟩) ⟨fun a U g mk q => by obtain ⟨z0, z1, qP, qK, qD⟩ := q; exact ⟨z0, z1, qP, va_K.moved (u := U) (U := U.calling g mk a) (Vm.Alike.refl U.vm) qK, qD⟩, fun U hU hW => ⟨rfl, by rw [hU], by rw [hU]; exact hPc, va_K.moved hW.alike hK, hDc.weaken (fun _ _ _ _ => trivial)⟩⟩ rfl rfl hl.1 rfl (lv_room (Nat.le_of_ble_eq_true rfl)) dX8_init_61 ⟨Nat.le_of_ble_eq_true rfl, Nat.le_of_ble_eq_true rfl⟩) hS (fun q _ h => hFc q h) hFc (fun u61 t H1 locs ht hvm hw hB hz1 hk1 hS => ?_)
  obtain ⟨hP1, hD1⟩ := hB
  rw [ht] at hP1
  obtain ⟨hP, hD⟩ := va_join (wr := [(h0, .inr (8, [.ref q5, .ref q16, .ref q27, .ref q38, .null, .null, .null, .null, .int 0])), (q5, .inr (2, [.ref (u9 0), .int 0, .int 0])), ((u9 0), .inl (ca 0, 16, .inl (fun _ => 0))), (q16, .inr (4, [.ref (u20 0), .int 0, .int 0])), ((u20 0), .inl (ca 0, 216, .inl (fun _ => 0))), (q27, .inr (6, [.ref (u31 0), .ref (u31 1), .int 0, .int 0, .int 0])), ((u31 0), .inl (ca 1, 110, .inl (fun _ => 0))), ((u31 1), .inl (ca 0, 16, .inl (fun _ => 0))), (q38, .inr (5, [.ref q5, .ref (u46 0), .ref (u46 1), .ref (u46 2), .ref (u46 3), .ref (u46 4), .ref (u46 5)])), ((u46 0), .inl (ca 0, 16, .inl (fun _ => 0))), ((u46 1), .inl (ca 0, 8, .inl (fun _ => 0))), ((u46 2), .inl (ca 0, 8, .inl (fun _ => 0))), ((u46 3), .inl (ca 0, 8, .inl (fun _ => 0))), ((u46 4), .inl (ca 0, 8, .inl (fun _ => 0))), ((u46 5), .inl (ca 0, 8, .inl (fun _ => 0)))]) (w1 := [(q53, .inr (7, [.ref q5, .ref (u61 0), .ref (u61 1), .int 0, .ref (u61 2), .int 0, .int 0, .int 0, .int 0, .int 0, .int 0])), ((u61 0), .inl (ca 0, 16, .inl (fun _ => 0))), ((u61 1), .inl (ca 0, 8, .inl (fun _ => 0))), ((u61 2), .inl (ca 0, 100, .inl (fun _ => 0)))]) hP hD [15] [0, 1, 2, 3, 4, 5, 6, 7, 8, 9, 10, 11, 12, 13, 14] rfl rfl (by decide) (by decide) hk1 hFc hP1 hD1
  generalize H1 = H at hP hS ⊢
  have hP : va_P (dC, dI) ly_C [(h0, .inr (8, [.ref q5, .ref q16, .ref q27, .ref q38, .null, .null, .null, .null, .int 0])), (q5, .inr (2, [.ref (u9 0), .int 0, .int 0])), ((u9 0), .inl (ca 0, 16, .inl (fun _ => 0))), (q16, .inr (4, [.ref (u20 0), .int 0, .int 0])), ((u20 0), .inl (ca 0, 216, .inl (fun _ => 0))), (q27, .inr (6, [.ref (u31 0), .ref (u31 1), .int 0, .int 0, .int 0])), ((u31 0), .inl (ca 1, 110, .inl (fun _ => 0))), ((u31 1), .inl (ca 0, 16, .inl (fun _ => 0))), (q38, .inr (5, [.ref q5, .ref (u46 0), .ref (u46 1), .ref (u46 2), .ref (u46 3), .ref (u46 4), .ref (u46 5)])), ((u46 0), .inl (ca 0, 16, .inl (fun _ => 0))), ((u46 1), .inl (ca 0, 8, .inl (fun _ => 0))), ((u46 2), .inl (ca 0, 8, .inl (fun _ => 0))), ((u46 3), .inl (ca 0, 8, .inl (fun _ => 0))), ((u46 4), .inl (ca 0, 8, .inl (fun _ => 0))), ((u46 5), .inl (ca 0, 8, .inl (fun _ => 0))), (q53, .inr (7, [.ref q5, .ref (u61 0), .ref (u61 1), .int 0, .ref (u61 2), .int 0, .int 0, .int 0, .int 0, .int 0, .int 0])), ((u61 0), .inl (ca 0, 16, .inl (fun _ => 0))), ((u61 1), .inl (ca 0, 8, .inl (fun _ => 0))), ((u61 2), .inl (ca 0, 100, .inl (fun _ => 0)))] H := hP
  have hD : va_D A [(h0, .inr (8, [.ref q5, .ref q16, .ref q27, .ref q38, .null, .null, .null, .null, .int 0])), (q5, .inr (2, [.ref (u9 0), .int 0, .int 0])), ((u9 0), .inl (ca 0, 16, .inl (fun _ => 0))), (q16, .inr (4, [.ref (u20 0), .int 0, .int 0])), ((u20 0), .inl (ca 0, 216, .inl (fun _ => 0))), (q27, .inr (6, [.ref (u31 0), .ref (u31 1), .int 0, .int 0, .int 0])), ((u31 0), .inl (ca 1, 110, .inl (fun _ => 0))), ((u31 1), .inl (ca 0, 16, .inl (fun _ => 0))), (q38, .inr (5, [.ref q5, .ref (u46 0), .ref (u46 1), .ref (u46 2), .ref (u46 3), .ref (u46 4), .ref (u46 5)])), ((u46 0), .inl (ca 0, 16, .inl (fun _ => 0))), ((u46 1), .inl (ca 0, 8, .inl (fun _ => 0))), ((u46 2), .inl (ca 0, 8, .inl (fun _ => 0))), ((u46 3), .inl (ca 0, 8, .inl (fun _ => 0))), ((u46 4), .inl (ca 0, 8, .inl (fun _ => 0))), ((u46 5), .inl (ca 0, 8, .inl (fun _ => 0))), (q53, .inr (7, [.ref q5, .ref (u61 0), .ref (u61 1), .int 0, .ref (u61 2), .int 0, .int 0, .int 0, .int 0, .int 0, .int 0])), ((u61 0), .inl (ca 0, 16, .inl (fun _ => 0))), ((u61 1), .inl (ca 0, 8, .inl (fun _ => 0))), ((u61 2), .inl (ca 0, 100, .inl (fun _ => 0)))] := hD
  refine W.widen (k := 18) (n := 567) (Nat.le_of_ble_eq_true rfl) (Nat.le_of_ble_eq_true rfl) ?_
  refine va_putF (D := (dC, dI)) (ci := 8) (v := .ref q53) (ty := .object "PathInterdiction$Walker") (C := RX8) (T := TX8) (N := 9) hx hb hts igX8 tyX8 tyX8_ok nmX8 hown hK hP hD hS 0 rfl rfl 4 (by decide) (hts _ wk_104) (fun _ h9 => h9) rfl hin rfl (by decide +kernel) rfl rfl (Nat.le_of_ble_eq_true rfl) dX8_init_64 (fun H locs hP hD hS => ?_)
  have hP : va_P (dC, dI) ly_C [(h0, .inr (8, [.ref q5, .ref q16, .ref q27, .ref q38, .ref q53, .null, .null, .null, .int 0])), (q5, .inr (2, [.ref (u9 0), .int 0, .int 0])), ((u9 0), .inl (ca 0, 16, .inl (fun _ => 0))), (q16, .inr (4, [.ref (u20 0), .int 0, .int 0])), ((u20 0), .inl (ca 0, 216, .inl (fun _ => 0))), (q27, .inr (6, [.ref (u31 0), .ref (u31 1), .int 0, .int 0, .int 0])), ((u31 0), .inl (ca 1, 110, .inl (fun _ => 0))), ((u31 1), .inl (ca 0, 16, .inl (fun _ => 0))), (q38, .inr (5, [.ref q5, .ref (u46 0), .ref (u46 1), .ref (u46 2), .ref (u46 3), .ref (u46 4), .ref (u46 5)])), ((u46 0), .inl (ca 0, 16, .inl (fun _ => 0))), ((u46 1), .inl (ca 0, 8, .inl (fun _ => 0))), ((u46 2), .inl (ca 0, 8, .inl (fun _ => 0))), ((u46 3), .inl (ca 0, 8, .inl (fun _ => 0))), ((u46 4), .inl (ca 0, 8, .inl (fun _ => 0))), ((u46 5), .inl (ca 0, 8, .inl (fun _ => 0))), (q53, .inr (7, [.ref q5, .ref (u61 0), .ref (u61 1), .int 0, .ref (u61 2), .int 0, .int 0, .int 0, .int 0, .int 0, .int 0])), ((u61 0), .inl (ca 0, 16, .inl (fun _ => 0))), ((u61 1), .inl (ca 0, 8, .inl (fun _ => 0))), ((u61 2), .inl (ca 0, 100, .inl (fun _ => 0)))] H := hP
  have hD : va_D A [(h0, .inr (8, [.ref q5, .ref q16, .ref q27, .ref q38, .ref q53, .null, .null, .null, .int 0])), (q5, .inr (2, [.ref (u9 0), .int 0, .int 0])), ((u9 0), .inl (ca 0, 16, .inl (fun _ => 0))), (q16, .inr (4, [.ref (u20 0), .int 0, .int 0])), ((u20 0), .inl (ca 0, 216, .inl (fun _ => 0))), (q27, .inr (6, [.ref (u31 0), .ref (u31 1), .int 0, .int 0, .int 0])), ((u31 0), .inl (ca 1, 110, .inl (fun _ => 0))), ((u31 1), .inl (ca 0, 16, .inl (fun _ => 0))), (q38, .inr (5, [.ref q5, .ref (u46 0), .ref (u46 1), .ref (u46 2), .ref (u46 3), .ref (u46 4), .ref (u46 5)])), ((u46 0), .inl (ca 0, 16, .inl (fun _ => 0))), ((u46 1), .inl (ca 0, 8, .inl (fun _ => 0))), ((u46 2), .inl (ca 0, 8, .inl (fun _ => 0))), ((u46 3), .inl (ca 0, 8, .inl (fun _ => 0))), ((u46 4), .inl (ca 0, 8, .inl (fun _ => 0))), ((u46 5), .inl (ca 0, 8, .inl (fun _ => 0))), (q53, .inr (7, [.ref q5, .ref (u61 0), .ref (u61 1), .int 0, .ref (u61 2), .int 0, .int 0, .int 0, .int 0, .int 0, .int 0])), ((u61 0), .inl (ca 0, 16, .inl (fun _ => 0))), ((u61 1), .inl (ca 0, 8, .inl (fun _ => 0))), ((u61 2), .inl (ca 0, 100, .inl (fun _ => 0)))] := hD
  refine lv_aload_n hx hb dX8_init_67 rfl (lv_at hl 0 rfl) ?_
  refine va_new (ci := 0) (fs := [.null, .null, .int 0, .int 0, .int 0, .int 0, .int 0, .int 0, .int 0, .int 0, .int 0, .int 0]) (C := RX0) (T := TX0) (N := 12) hx hb hts igX0 tyX0 tyX0_ok hown (hts _ wk_105) (hts _ wk_106) (hts _ wk_107) hK hP hD hS hA rfl (fun j hj => by rcases (show j = 0 ∨ j = 1 ∨ j = 2 ∨ j = 3 ∨ j = 4 ∨ j = 5 ∨ j = 6 ∨ j = 7 ∨ j = 8 ∨ j = 9 ∨ j = 10 ∨ j = 11 by omega) with rfl | rfl | rfl | rfl | rfl | rfl | rfl | rfl | rfl | rfl | rfl | rfl <;> rfl) (Nat.le_of_ble_eq_true rfl) (Nat.le_of_ble_eq_true rfl) dX8_init_68 (fun q68 H hP hD hS => ?_)
  have hP : va_P (dC, dI) ly_C [(h0, .inr (8, [.ref q5, .ref q16, .ref q27, .ref q38, .ref q53, .null, .null, .null, .int 0])), (q5, .inr (2, [.ref (u9 0), .int 0, .int 0])), ((u9 0), .inl (ca 0, 16, .inl (fun _ => 0))), (q16, .inr (4, [.ref (u20 0), .int 0, .int 0])), ((u20 0), .inl (ca 0, 216, .inl (fun _ => 0))), (q27, .inr (6, [.ref (u31 0), .ref (u31 1), .int 0, .int 0, .int 0])), ((u31 0), .inl (ca 1, 110, .inl (fun _ => 0))), ((u31 1), .inl (ca 0, 16, .inl (fun _ => 0))), (q38, .inr (5, [.ref q5, .ref (u46 0), .ref (u46 1), .ref (u46 2), .ref (u46 3), .ref (u46 4), .ref (u46 5)])), ((u46 0), .inl (ca 0, 16, .inl (fun _ => 0))), ((u46 1), .inl (ca 0, 8, .inl (fun _ => 0))), ((u46 2), .inl (ca 0, 8, .inl (fun _ => 0))), ((u46 3), .inl (ca 0, 8, .inl (fun _ => 0))), ((u46 4), .inl (ca 0, 8, .inl (fun _ => 0))), ((u46 5), .inl (ca 0, 8, .inl (fun _ => 0))), (q53, .inr (7, [.ref q5, .ref (u61 0), .ref (u61 1), .int 0, .ref (u61 2), .int 0, .int 0, .int 0, .int 0, .int 0, .int 0])), ((u61 0), .inl (ca 0, 16, .inl (fun _ => 0))), ((u61 1), .inl (ca 0, 8, .inl (fun _ => 0))), ((u61 2), .inl (ca 0, 100, .inl (fun _ => 0))), (q68, .inr (0, [.null, .null, .int 0, .int 0, .int 0, .int 0, .int 0, .int 0, .int 0, .int 0, .int 0, .int 0]))] H := hP
  have hD : va_D A [(h0, .inr (8, [.ref q5, .ref q16, .ref q27, .ref q38, .ref q53, .null, .null, .null, .int 0])), (q5, .inr (2, [.ref (u9 0), .int 0, .int 0])), ((u9 0), .inl (ca 0, 16, .inl (fun _ => 0))), (q16, .inr (4, [.ref (u20 0), .int 0, .int 0])), ((u20 0), .inl (ca 0, 216, .inl (fun _ => 0))), (q27, .inr (6, [.ref (u31 0), .ref (u31 1), .int 0, .int 0, .int 0])), ((u31 0), .inl (ca 1, 110, .inl (fun _ => 0))), ((u31 1), .inl (ca 0, 16, .inl (fun _ => 0))), (q38, .inr (5, [.ref q5, .ref (u46 0), .ref (u46 1), .ref (u46 2), .ref (u46 3), .ref (u46 4), .ref (u46 5)])), ((u46 0), .inl (ca 0, 16, .inl (fun _ => 0))), ((u46 1), .inl (ca 0, 8, .inl (fun _ => 0))), ((u46 2), .inl (ca 0, 8, .inl (fun _ => 0))), ((u46 3), .inl (ca 0, 8, .inl (fun _ => 0))), ((u46 4), .inl (ca 0, 8, .inl (fun _ => 0))), ((u46 5), .inl (ca 0, 8, .inl (fun _ => 0))), (q53, .inr (7, [.ref q5, .ref (u61 0), .ref (u61 1), .int 0, .ref (u61 2), .int 0, .int 0, .int 0, .int 0, .int 0, .int 0])), ((u61 0), .inl (ca 0, 16, .inl (fun _ => 0))), ((u61 1), .inl (ca 0, 8, .inl (fun _ => 0))), ((u61 2), .inl (ca 0, 100, .inl (fun _ => 0))), (q68, .inr (0, [.null, .null, .int 0, .int 0, .int 0, .int 0, .int 0, .int 0, .int 0, .int 0, .int 0, .int 0]))] := hD
  refine W.widen (k := 19) (n := 579) (Nat.le_of_ble_eq_true rfl) (Nat.le_of_ble_eq_true rfl) ?_
  refine lv_dup hx hb dX8_init_71 rfl ?_
  refine lv_aload_n hx hb dX8_init_72 rfl (lv_at hl 0 rfl) ?_
  refine va_get (D := (dC, dI)) (ci := 8) (v := .ref q5) (C := RX8) (T := TX8) (N := 9) hx hb hts igX8 hown hK hP 0 rfl rfl 0 (by decide) (hts _ wk_108) (fun _ h9 => h9) rfl dX8_init_73 ?_
  refine lv_aload_n hx hb dX8_init_76 rfl (lv_at hl 0 rfl) ?_
  refine va_get (D := (dC, dI)) (ci := 8) (v := .ref q38) (C := RX8) (T := TX8) (N := 9) hx hb hts igX8 hown hK hP 0 rfl rfl 3 (by decide) (hts _ wk_109) (fun _ h9 => h9) rfl dX8_init_77 ?_
  have hPc := hP.sub (ws' := [(q68, .inr (0, [.null, .null, .int 0, .int 0, .int 0, .int 0, .int 0, .int 0, .int 0, .int 0, .int 0, .int 0]))]) [19] rfl
  have hDc := hD.sub (ws' := [(q68, .inr (0, [.null, .null, .int 0, .int 0, .int 0, .int 0, .int 0, .int 0, .int 0, .int 0, .int 0, .int 0]))]) [19] (by decide) rfl
  have hFc := va_free (wc := [(q68, .inr (0, [.null, .null, .int 0, .int 0, .int 0, .int 0, .int 0, .int 0, .int 0, .int 0, .int 0, .int 0]))]) hD hS hA [19] rfl
  refine va_callv (va_runI (As := [.ref q5, .ref q38]) (rest := [.ref q68, .ref h0]) ⟨hx, hb, hml, hown, hts⟩ (k_X0_init l dC dI ca q68 q5 q38 H.size) (cwI 2 hts (ws_good wk_110) rfl rfl rfl (hts _ wk_107) (hts _ wk_112) (hts _ wk_111) rfl (by decide +kernel) ⟨Nat.le_of_ble_eq_true rfl, Nat.le_of_ble_eq_true rfl⟩) ⟨fun a U g mk q => by obtain ⟨z0, z1, qP, qK, qD⟩ := q; exact ⟨z0, z1, qP, va_K.moved (u := U) (U := U.calling g mk a) (Vm.Alike.refl U.vm) qK, qD⟩, fun U hU hW => ⟨rfl, by rw [hU], by rw [hU]; exact hPc, va_K.moved hW.alike hK, hDc.weaken (fun _ _ _ _ => trivial)⟩⟩ rfl rfl hl.1 rfl (lv_room (Nat.le_of_ble_eq_true rfl)) dX8_init_80 ⟨Nat.le_of_ble_eq_true rfl, Nat.le_of_ble_eq_true rfl⟩) hS (fun q _ h => hFc q h) hFc (fun u80 t H1 locs ht hvm hw hB hz1 hk1 hS => ?_)
  obtain ⟨hP1, hD1⟩ := hB
  rw [ht] at hP1
  obtain ⟨hP, hD⟩ := va_join (wr := [(h0, .inr (8, [.ref q5, .ref q16, .ref q27, .ref q38, .ref q53, .null, .null, .null, .int 0])), (q5, .inr (2, [.ref (u9 0), .int 0, .int 0])), ((u9 0), .inl (ca 0, 16, .inl (fun _ => 0))), (q16, .inr (4, [.ref (u20 0), .int 0, .int 0])), ((u20 0), .inl (ca 0, 216, .inl (fun _ => 0))), (q27, .inr (6, [.ref (u31 0), .ref (u31 1), .int 0, .int 0, .int 0])), ((u31 0), .inl (ca 1, 110, .inl (fun _ => 0))), ((u31 1), .inl (ca 0, 16, .inl (fun _ => 0))), (q38, .inr (5, [.ref q5, .ref (u46 0), .ref (u46 1), .ref (u46 2), .ref (u46 3), .ref (u46 4), .ref (u46 5)])), ((u46 0), .inl (ca 0, 16, .inl (fun _ => 0))), ((u46 1), .inl (ca 0, 8, .inl (fun _ => 0))), ((u46 2), .inl (ca 0, 8, .inl (fun _ => 0))), ((u46 3), .inl (ca 0, 8, .inl (fun _ => 0))), ((u46 4), .inl (ca 0, 8, .inl (fun _ => 0))), ((u46 5), .inl (ca 0, 8, .inl (fun _ => 0))), (q53, .inr (7, [.ref q5, .ref (u61 0), .ref (u61 1), .int 0, .ref (u61 2), .int 0, .int 0, .int 0, .int 0, .int 0, .int 0])), ((u61 0), .inl (ca 0, 16, .inl (fun _ => 0))), ((u61 1), .inl (ca 0, 8, .inl (fun _ => 0))), ((u61 2), .inl (ca 0, 100, .inl (fun _ => 0)))]) (w1 := [(q68, .inr (0, [.ref q5, .ref q38, .int 0, .int 0, .int 0, .int 0, .int 0, .int 0, .int 0, .int 0, .int 0, .int 0]))]) hP hD [19] [0, 1, 2, 3, 4, 5, 6, 7, 8, 9, 10, 11, 12, 13, 14, 15, 16, 17, 18] rfl rfl (by decide) (by decide) hk1 hFc hP1 hD1
  generalize H1 = H at hP hS ⊢
  have hP : va_P (dC, dI) ly_C [(h0, .inr (8, [.ref q5, .ref q16, .ref q27, .ref q38, .ref q53, .null, .null, .null, .int 0])), (q5, .inr (2, [.ref (u9 0), .int 0, .int 0])), ((u9 0), .inl (ca 0, 16, .inl (fun _ => 0))), (q16, .inr (4, [.ref (u20 0), .int 0, .int 0])), ((u20 0), .inl (ca 0, 216, .inl (fun _ => 0))), (q27, .inr (6, [.ref (u31 0), .ref (u31 1), .int 0, .int 0, .int 0])), ((u31 0), .inl (ca 1, 110, .inl (fun _ => 0))), ((u31 1), .inl (ca 0, 16, .inl (fun _ => 0))), (q38, .inr (5, [.ref q5, .ref (u46 0), .ref (u46 1), .ref (u46 2), .ref (u46 3), .ref (u46 4), .ref (u46 5)])), ((u46 0), .inl (ca 0, 16, .inl (fun _ => 0))), ((u46 1), .inl (ca 0, 8, .inl (fun _ => 0))), ((u46 2), .inl (ca 0, 8, .inl (fun _ => 0))), ((u46 3), .inl (ca 0, 8, .inl (fun _ => 0))), ((u46 4), .inl (ca 0, 8, .inl (fun _ => 0))), ((u46 5), .inl (ca 0, 8, .inl (fun _ => 0))), (q53, .inr (7, [.ref q5, .ref (u61 0), .ref (u61 1), .int 0, .ref (u61 2), .int 0, .int 0, .int 0, .int 0, .int 0, .int 0])), ((u61 0), .inl (ca 0, 16, .inl (fun _ => 0))), ((u61 1), .inl (ca 0, 8, .inl (fun _ => 0))), ((u61 2), .inl (ca 0, 100, .inl (fun _ => 0))), (q68, .inr (0, [.ref q5, .ref q38, .int 0, .int 0, .int 0, .int 0, .int 0, .int 0, .int 0, .int 0, .int 0, .int 0]))] H := hP
  have hD : va_D A [(h0, .inr (8, [.ref q5, .ref q16, .ref q27, .ref q38, .ref q53, .null, .null, .null, .int 0])), (q5, .inr (2, [.ref (u9 0), .int 0, .int 0])), ((u9 0), .inl (ca 0, 16, .inl (fun _ => 0))), (q16, .inr (4, [.ref (u20 0), .int 0, .int 0])), ((u20 0), .inl (ca 0, 216, .inl (fun _ => 0))), (q27, .inr (6, [.ref (u31 0), .ref (u31 1), .int 0, .int 0, .int 0])), ((u31 0), .inl (ca 1, 110, .inl (fun _ => 0))), ((u31 1), .inl (ca 0, 16, .inl (fun _ => 0))), (q38, .inr (5, [.ref q5, .ref (u46 0), .ref (u46 1), .ref (u46 2), .ref (u46 3), .ref (u46 4), .ref (u46 5)])), ((u46 0), .inl (ca 0, 16, .inl (fun _ => 0))), ((u46 1), .inl (ca 0, 8, .inl (fun _ => 0))), ((u46 2), .inl (ca 0, 8, .inl (fun _ => 0))), ((u46 3), .inl (ca 0, 8, .inl (fun _ => 0))), ((u46 4), .inl (ca 0, 8, .inl (fun _ => 0))), ((u46 5), .inl (ca 0, 8, .inl (fun _ => 0))), (q53, .inr (7, [.ref q5, .ref (u61 0), .ref (u61 1), .int 0, .ref (u61 2), .int 0, .int 0, .int 0, .int 0, .int 0, .int 0])), ((u61 0), .inl (ca 0, 16, .inl (fun _ => 0))), ((u61 1), .inl (ca 0, 8, .inl (fun _ => 0))), ((u61 2), .inl (ca 0, 100, .inl (fun _ => 0))), (q68, .inr (0, [.ref q5, .ref q38, .int 0, .int 0, .int 0, .int 0, .int 0, .int 0, .int 0, .int 0, .int 0, .int 0]))] := hD
  refine W.widen (k := 19) (n := 579) (Nat.le_of_ble_eq_true rfl) (Nat.le_of_ble_eq_true rfl) ?_
  refine va_putF (D := (dC, dI)) (ci := 8) (v := .ref q68) (ty := .object "PathInterdiction$AttackSearch") (C := RX8) (T := TX8) (N := 9) hx hb hts igX8 tyX8 tyX8_ok nmX8 hown hK hP hD hS 0 rfl rfl 5 (by decide) (hts _ wk_113) (fun _ h9 => h9) rfl hin rfl (by decide +kernel) rfl rfl (Nat.le_of_ble_eq_true rfl) dX8_init_83 (fun H locs hP hD hS => ?_)
  have hP : va_P (dC, dI) ly_C [(h0, .inr (8, [.ref q5, .ref q16, .ref q27, .ref q38, .ref q53, .ref q68, .null, .null, .int 0])), (q5, .inr (2, [.ref (u9 0), .int 0, .int 0])), ((u9 0), .inl (ca 0, 16, .inl (fun _ => 0))), (q16, .inr (4, [.ref (u20 0), .int 0, .int 0])), ((u20 0), .inl (ca 0, 216, .inl (fun _ => 0))), (q27, .inr (6, [.ref (u31 0), .ref (u31 1), .int 0, .int 0, .int 0])), ((u31 0), .inl (ca 1, 110, .inl (fun _ => 0))), ((u31 1), .inl (ca 0, 16, .inl (fun _ => 0))), (q38, .inr (5, [.ref q5, .ref (u46 0), .ref (u46 1), .ref (u46 2), .ref (u46 3), .ref (u46 4), .ref (u46 5)])), ((u46 0), .inl (ca 0, 16, .inl (fun _ => 0))), ((u46 1), .inl (ca 0, 8, .inl (fun _ => 0))), ((u46 2), .inl (ca 0, 8, .inl (fun _ => 0))), ((u46 3), .inl (ca 0, 8, .inl (fun _ => 0))), ((u46 4), .inl (ca 0, 8, .inl (fun _ => 0))), ((u46 5), .inl (ca 0, 8, .inl (fun _ => 0))), (q53, .inr (7, [.ref q5, .ref (u61 0), .ref (u61 1), .int 0, .ref (u61 2), .int 0, .int 0, .int 0, .int 0, .int 0, .int 0])), ((u61 0), .inl (ca 0, 16, .inl (fun _ => 0))), ((u61 1), .inl (ca 0, 8, .inl (fun _ => 0))), ((u61 2), .inl (ca 0, 100, .inl (fun _ => 0))), (q68, .inr (0, [.ref q5, .ref q38, .int 0, .int 0, .int 0, .int 0, .int 0, .int 0, .int 0, .int 0, .int 0, .int 0]))] H := hP
  have hD : va_D A [(h0, .inr (8, [.ref q5, .ref q16, .ref q27, .ref q38, .ref q53, .ref q68, .null, .null, .int 0])), (q5, .inr (2, [.ref (u9 0), .int 0, .int 0])), ((u9 0), .inl (ca 0, 16, .inl (fun _ => 0))), (q16, .inr (4, [.ref (u20 0), .int 0, .int 0])), ((u20 0), .inl (ca 0, 216, .inl (fun _ => 0))), (q27, .inr (6, [.ref (u31 0), .ref (u31 1), .int 0, .int 0, .int 0])), ((u31 0), .inl (ca 1, 110, .inl (fun _ => 0))), ((u31 1), .inl (ca 0, 16, .inl (fun _ => 0))), (q38, .inr (5, [.ref q5, .ref (u46 0), .ref (u46 1), .ref (u46 2), .ref (u46 3), .ref (u46 4), .ref (u46 5)])), ((u46 0), .inl (ca 0, 16, .inl (fun _ => 0))), ((u46 1), .inl (ca 0, 8, .inl (fun _ => 0))), ((u46 2), .inl (ca 0, 8, .inl (fun _ => 0))), ((u46 3), .inl (ca 0, 8, .inl (fun _ => 0))), ((u46 4), .inl (ca 0, 8, .inl (fun _ => 0))), ((u46 5), .inl (ca 0, 8, .inl (fun _ => 0))), (q53, .inr (7, [.ref q5, .ref (u61 0), .ref (u61 1), .int 0, .ref (u61 2), .int 0, .int 0, .int 0, .int 0, .int 0, .int 0])), ((u61 0), .inl (ca 0, 16, .inl (fun _ => 0))), ((u61 1), .inl (ca 0, 8, .inl (fun _ => 0))), ((u61 2), .inl (ca 0, 100, .inl (fun _ => 0))), (q68, .inr (0, [.ref q5, .ref q38, .int 0, .int 0, .int 0, .int 0, .int 0, .int 0, .int 0, .int 0, .int 0, .int 0]))] := hD
  refine lv_aload_n hx hb dX8_init_86 rfl (lv_at hl 0 rfl) ?_
  refine va_new (ci := 3) (fs := [.null, .null, .int 0]) (C := RX3) (T := TX3) (N := 3) hx hb hts igX3 tyX3 tyX3_ok hown (hts _ wk_114) (hts _ wk_115) (hts _ wk_116) hK hP hD hS hA rfl (fun j hj => by rcases (show j = 0 ∨ j = 1 ∨ j = 2 by omega) with rfl | rfl | rfl <;> rfl) (Nat.le_of_ble_eq_true rfl) (Nat.le_of_ble_eq_true rfl) dX8_init_87 (fun q87 H hP hD hS => ?_)
  have hP : va_P (dC, dI) ly_C [(h0, .inr (8, [.ref q5, .ref q16, .ref q27, .ref q38, .ref q53, .ref q68, .null, .null, .int 0])), (q5, .inr (2, [.ref (u9 0), .int 0, .int 0])), ((u9 0), .inl (ca 0, 16, .inl (fun _ => 0))), (q16, .inr (4, [.ref (u20 0), .int 0, .int 0])), ((u20 0), .inl (ca 0, 216, .inl (fun _ => 0))), (q27, .inr (6, [.ref (u31 0), .ref (u31 1), .int 0, .int 0, .int 0])), ((u31 0), .inl (ca 1, 110, .inl (fun _ => 0))), ((u31 1), .inl (ca 0, 16, .inl (fun _ => 0))), (q38, .inr (5, [.ref q5, .ref (u46 0), .ref (u46 1), .ref (u46 2), .ref (u46 3), .ref (u46 4), .ref (u46 5)])), ((u46 0), .inl (ca 0, 16, .inl (fun _ => 0))), ((u46 1), .inl (ca 0, 8, .inl (fun _ => 0))), ((u46 2), .inl (ca 0, 8, .inl (fun _ => 0))), ((u46 3), .inl (ca 0, 8, .inl (fun _ => 0))), ((u46 4), .inl (ca 0, 8, .inl (fun _ => 0))), ((u46 5), .inl (ca 0, 8, .inl (fun _ => 0))), (q53, .inr (7, [.ref q5, .ref (u61 0), .ref (u61 1), .int 0, .ref (u61 2), .int 0, .int 0, .int 0, .int 0, .int 0, .int 0])), ((u61 0), .inl (ca 0, 16, .inl (fun _ => 0))), ((u61 1), .inl (ca 0, 8, .inl (fun _ => 0))), ((u61 2), .inl (ca 0, 100, .inl (fun _ => 0))), (q68, .inr (0, [.ref q5, .ref q38, .int 0, .int 0, .int 0, .int 0, .int 0, .int 0, .int 0, .int 0, .int 0, .int 0])), (q87, .inr (3, [.null, .null, .int 0]))] H := hP
  have hD : va_D A [(h0, .inr (8, [.ref q5, .ref q16, .ref q27, .ref q38, .ref q53, .ref q68, .null, .null, .int 0])), (q5, .inr (2, [.ref (u9 0), .int 0, .int 0])), ((u9 0), .inl (ca 0, 16, .inl (fun _ => 0))), (q16, .inr (4, [.ref (u20 0), .int 0, .int 0])), ((u20 0), .inl (ca 0, 216, .inl (fun _ => 0))), (q27, .inr (6, [.ref (u31 0), .ref (u31 1), .int 0, .int 0, .int 0])), ((u31 0), .inl (ca 1, 110, .inl (fun _ => 0))), ((u31 1), .inl (ca 0, 16, .inl (fun _ => 0))), (q38, .inr (5, [.ref q5, .ref (u46 0), .ref (u46 1), .ref (u46 2), .ref (u46 3), .ref (u46 4), .ref (u46 5)])), ((u46 0), .inl (ca 0, 16, .inl (fun _ => 0))), ((u46 1), .inl (ca 0, 8, .inl (fun _ => 0))), ((u46 2), .inl (ca 0, 8, .inl (fun _ => 0))), ((u46 3), .inl (ca 0, 8, .inl (fun _ => 0))), ((u46 4), .inl (ca 0, 8, .inl (fun _ => 0))), ((u46 5), .inl (ca 0, 8, .inl (fun _ => 0))), (q53, .inr (7, [.ref q5, .ref (u61 0), .ref (u61 1), .int 0, .ref (u61 2), .int 0, .int 0, .int 0, .int 0, .int 0, .int 0])), ((u61 0), .inl (ca 0, 16, .inl (fun _ => 0))), ((u61 1), .inl (ca 0, 8, .inl (fun _ => 0))), ((u61 2), .inl (ca 0, 100, .inl (fun _ => 0))), (q68, .inr (0, [.ref q5, .ref q38, .int 0, .int 0, .int 0, .int 0, .int 0, .int 0, .int 0, .int 0, .int 0, .int 0])), (q87, .inr (3, [.null, .null, .int 0]))] := hD
  refine W.widen (k := 20) (n := 582) (Nat.le_of_ble_eq_true rfl) (Nat.le_of_ble_eq_true rfl) ?_
  refine lv_dup hx hb dX8_init_90 rfl ?_
  refine lv_aload_n hx hb dX8_init_91 rfl (lv_at hl 0 rfl) ?_
  refine va_get (D := (dC, dI)) (ci := 8) (v := .ref q5) (C := RX8) (T := TX8) (N := 9) hx hb hts igX8 hown hK hP 0 rfl rfl 0 (by decide) (hts _ wk_117) (fun _ h9 => h9) rfl dX8_init_92 ?_
  refine lv_aload_n hx hb dX8_init_95 rfl (lv_at hl 0 rfl) ?_
  refine va_get (D := (dC, dI)) (ci := 8) (v := .ref q38) (C := RX8) (T := TX8) (N := 9) hx hb hts igX8 hown hK hP 0 rfl rfl 3 (by decide) (hts _ wk_118) (fun _ h9 => h9) rfl dX8_init_96 ?_
  have hPc := hP.sub (ws' := [(q87, .inr (3, [.null, .null, .int 0]))]) [20] rfl
  have hDc := hD.sub (ws' := [(q87, .inr (3, [.null, .null, .int 0]))]) [20] (by decide) rfl
  have hFc := va_free (wc := [(q87, .inr (3, [.null, .null, .int 0]))]) hD hS hA [20] rfl
  refine va_callv (va_runI (As := [.ref q5, .ref q38]) (rest := [.ref q87, .ref h0]) ⟨hx, hb, hml, hown, hts⟩ (k_X3_init l dC dI ca q87 q5 q38 H.size) (cwI 2 hts (ws_good wk_119) rfl rfl rfl (hts _ wk_116) (hts _ wk_121) (hts _ wk_120) rfl (by decide +kernel) ⟨Nat.le_of_ble_eq_true rfl, Nat.le_of_ble_eq_true rfl⟩) ⟨fun a U g mk q => by obtain ⟨z0, z1, qP, qK, qD⟩ := q; exact ⟨z0, z1, qP, va_K.moved (u := U) (U := U.calling g mk a) (Vm.Alike.refl U.vm) qK, qD⟩, fun U hU hW => ⟨rfl, by rw [hU], by rw [hU]; exact hPc, va_K.moved hW.alike hK, hDc.weaken (fun _ _ _ _ => trivial)⟩⟩ rfl rfl hl.1 rfl (lv_room (Nat.le_of_ble_eq_true rfl)) dX8_init_99 ⟨Nat.le_of_ble_eq_true rfl, Nat.le_of_ble_eq_true rfl⟩) hS (fun q _ h => hFc q h) hFc (fun u99 t H1 locs ht hvm hw hB hz1 hk1 hS => ?_)
  obtain ⟨hP1, hD1⟩ := hB
  rw [ht] at hP1
  obtain ⟨hP, hD⟩ := va_join (wr := [(h0, .inr (8, [.ref q5, .ref q16, .ref q27, .ref q38, .ref q53, .ref q68, .null, .null, .int 0])), (q5, .inr (2, [.ref (u9 0), .int 0, .int 0])), ((u9 0), .inl (ca 0, 16, .inl (fun _ => 0))), (q16, .inr (4, [.ref (u20 0), .int 0, .int 0])), ((u20 0), .inl (ca 0, 216, .inl (fun _ => 0))), (q27, .inr (6, [.ref (u31 0), .ref (u31 1), .int 0, .int 0, .int 0])), ((u31 0), .inl (ca 1, 110, .inl (fun _ => 0))), ((u31 1), .inl (ca 0, 16, .inl (fun _ => 0))), (q38, .inr (5, [.ref q5, .ref (u46 0), .ref (u46 1), .ref (u46 2), .ref (u46 3), .ref (u46 4), .ref (u46 5)])), ((u46 0), .inl (ca 0, 16, .inl (fun _ => 0))), ((u46 1), .inl (ca 0, 8, .inl (fun _ => 0))), ((u46 2), .inl (ca 0, 8, .inl (fun _ => 0))), ((u46 3), .inl (ca 0, 8, .inl (fun _ => 0))), ((u46 4), .inl (ca 0, 8, .inl (fun _ => 0))), ((u46 5), .inl (ca 0, 8, .inl (fun _ => 0))), (q53, .inr (7, [.ref q5, .ref (u61 0), .ref (u61 1), .int 0, .ref (u61 2), .int 0, .int 0, .int 0, .int 0, .int 0, .int 0])), ((u61 0), .inl (ca 0, 16, .inl (fun _ => 0))), ((u61 1), .inl (ca 0, 8, .inl (fun _ => 0))), ((u61 2), .inl (ca 0, 100, .inl (fun _ => 0))), (q68, .inr (0, [.ref q5, .ref q38, .int 0, .int 0, .int 0, .int 0, .int 0, .int 0, .int 0, .int 0, .int 0, .int 0]))]) (w1 := [(q87, .inr (3, [.ref q5, .ref q38, .int 0]))]) hP hD [20] [0, 1, 2, 3, 4, 5, 6, 7, 8, 9, 10, 11, 12, 13, 14, 15, 16, 17, 18, 19] rfl rfl (by decide) (by decide) hk1 hFc hP1 hD1
  generalize H1 = H at hP hS ⊢
  have hP : va_P (dC, dI) ly_C [(h0, .inr (8, [.ref q5, .ref q16, .ref q27, .ref q38, .ref q53, .ref q68, .null, .null, .int 0])), (q5, .inr (2, [.ref (u9 0), .int 0, .int 0])), ((u9 0), .inl (ca 0, 16, .inl (fun _ => 0))), (q16, .inr (4, [.ref (u20 0), .int 0, .int 0])), ((u20 0), .inl (ca 0, 216, .inl (fun _ => 0))), (q27, .inr (6, [.ref (u31 0), .ref (u31 1), .int 0, .int 0, .int 0])), ((u31 0), .inl (ca 1, 110, .inl (fun _ => 0))), ((u31 1), .inl (ca 0, 16, .inl (fun _ => 0))), (q38, .inr (5, [.ref q5, .ref (u46 0), .ref (u46 1), .ref (u46 2), .ref (u46 3), .ref (u46 4), .ref (u46 5)])), ((u46 0), .inl (ca 0, 16, .inl (fun _ => 0))), ((u46 1), .inl (ca 0, 8, .inl (fun _ => 0))), ((u46 2), .inl (ca 0, 8, .inl (fun _ => 0))), ((u46 3), .inl (ca 0, 8, .inl (fun _ => 0))), ((u46 4), .inl (ca 0, 8, .inl (fun _ => 0))), ((u46 5), .inl (ca 0, 8, .inl (fun _ => 0))), (q53, .inr (7, [.ref q5, .ref (u61 0), .ref (u61 1), .int 0, .ref (u61 2), .int 0, .int 0, .int 0, .int 0, .int 0, .int 0])), ((u61 0), .inl (ca 0, 16, .inl (fun _ => 0))), ((u61 1), .inl (ca 0, 8, .inl (fun _ => 0))), ((u61 2), .inl (ca 0, 100, .inl (fun _ => 0))), (q68, .inr (0, [.ref q5, .ref q38, .int 0, .int 0, .int 0, .int 0, .int 0, .int 0, .int 0, .int 0, .int 0, .int 0])), (q87, .inr (3, [.ref q5, .ref q38, .int 0]))] H := hP
  have hD : va_D A [(h0, .inr (8, [.ref q5, .ref q16, .ref q27, .ref q38, .ref q53, .ref q68, .null, .null, .int 0])), (q5, .inr (2, [.ref (u9 0), .int 0, .int 0])), ((u9 0), .inl (ca 0, 16, .inl (fun _ => 0))), (q16, .inr (4, [.ref (u20 0), .int 0, .int 0])), ((u20 0), .inl (ca 0, 216, .inl (fun _ => 0))), (q27, .inr (6, [.ref (u31 0), .ref (u31 1), .int 0, .int 0, .int 0])), ((u31 0), .inl (ca 1, 110, .inl (fun _ => 0))), ((u31 1), .inl (ca 0, 16, .inl (fun _ => 0))), (q38, .inr (5, [.ref q5, .ref (u46 0), .ref (u46 1), .ref (u46 2), .ref (u46 3), .ref (u46 4), .ref (u46 5)])), ((u46 0), .inl (ca 0, 16, .inl (fun _ => 0))), ((u46 1), .inl (ca 0, 8, .inl (fun _ => 0))), ((u46 2), .inl (ca 0, 8, .inl (fun _ => 0))), ((u46 3), .inl (ca 0, 8, .inl (fun _ => 0))), ((u46 4), .inl (ca 0, 8, .inl (fun _ => 0))), ((u46 5), .inl (ca 0, 8, .inl (fun _ => 0))), (q53, .inr (7, [.ref q5, .ref (u61 0), .ref (u61 1), .int 0, .ref (u61 2), .int 0, .int 0, .int 0, .int 0, .int 0, .int 0])), ((u61 0), .inl (ca 0, 16, .inl (fun _ => 0))), ((u61 1), .inl (ca 0, 8, .inl (fun _ => 0))), ((u61 2), .inl (ca 0, 100, .inl (fun _ => 0))), (q68, .inr (0, [.ref q5, .ref q38, .int 0, .int 0, .int 0, .int 0, .int 0, .int 0, .int 0, .int 0, .int 0, .int 0])), (q87, .inr (3, [.ref q5, .ref q38, .int 0]))] := hD
  refine W.widen (k := 20) (n := 582) (Nat.le_of_ble_eq_true rfl) (Nat.le_of_ble_eq_true rfl) ?_
  refine va_putF (D := (dC, dI)) (ci := 8) (v := .ref q87) (ty := .object "PathInterdiction$GreedyAttack") (C := RX8) (T := TX8) (N := 9) hx hb hts igX8 tyX8 tyX8_ok nmX8 hown hK hP hD hS 0 rfl rfl 6 (by decide) (hts _ wk_122) (fun _ h9 => h9) rfl hin rfl (by decide +kernel) rfl rfl (Nat.le_of_ble_eq_true rfl) dX8_init_102 (fun H locs hP hD hS => ?_)
  have hP : va_P (dC, dI) ly_C [(h0, .inr (8, [.ref q5, .ref q16, .ref q27, .ref q38, .ref q53, .ref q68, .ref q87, .null, .int 0])), (q5, .inr (2, [.ref (u9 0), .int 0, .int 0])), ((u9 0), .inl (ca 0, 16, .inl (fun _ => 0))), (q16, .inr (4, [.ref (u20 0), .int 0, .int 0])), ((u20 0), .inl (ca 0, 216, .inl (fun _ => 0))), (q27, .inr (6, [.ref (u31 0), .ref (u31 1), .int 0, .int 0, .int 0])), ((u31 0), .inl (ca 1, 110, .inl (fun _ => 0))), ((u31 1), .inl (ca 0, 16, .inl (fun _ => 0))), (q38, .inr (5, [.ref q5, .ref (u46 0), .ref (u46 1), .ref (u46 2), .ref (u46 3), .ref (u46 4), .ref (u46 5)])), ((u46 0), .inl (ca 0, 16, .inl (fun _ => 0))), ((u46 1), .inl (ca 0, 8, .inl (fun _ => 0))), ((u46 2), .inl (ca 0, 8, .inl (fun _ => 0))), ((u46 3), .inl (ca 0, 8, .inl (fun _ => 0))), ((u46 4), .inl (ca 0, 8, .inl (fun _ => 0))), ((u46 5), .inl (ca 0, 8, .inl (fun _ => 0))), (q53, .inr (7, [.ref q5, .ref (u61 0), .ref (u61 1), .int 0, .ref (u61 2), .int 0, .int 0, .int 0, .int 0, .int 0, .int 0])), ((u61 0), .inl (ca 0, 16, .inl (fun _ => 0))), ((u61 1), .inl (ca 0, 8, .inl (fun _ => 0))), ((u61 2), .inl (ca 0, 100, .inl (fun _ => 0))), (q68, .inr (0, [.ref q5, .ref q38, .int 0, .int 0, .int 0, .int 0, .int 0, .int 0, .int 0, .int 0, .int 0, .int 0])), (q87, .inr (3, [.ref q5, .ref q38, .int 0]))] H := hP
  have hD : va_D A [(h0, .inr (8, [.ref q5, .ref q16, .ref q27, .ref q38, .ref q53, .ref q68, .ref q87, .null, .int 0])), (q5, .inr (2, [.ref (u9 0), .int 0, .int 0])), ((u9 0), .inl (ca 0, 16, .inl (fun _ => 0))), (q16, .inr (4, [.ref (u20 0), .int 0, .int 0])), ((u20 0), .inl (ca 0, 216, .inl (fun _ => 0))), (q27, .inr (6, [.ref (u31 0), .ref (u31 1), .int 0, .int 0, .int 0])), ((u31 0), .inl (ca 1, 110, .inl (fun _ => 0))), ((u31 1), .inl (ca 0, 16, .inl (fun _ => 0))), (q38, .inr (5, [.ref q5, .ref (u46 0), .ref (u46 1), .ref (u46 2), .ref (u46 3), .ref (u46 4), .ref (u46 5)])), ((u46 0), .inl (ca 0, 16, .inl (fun _ => 0))), ((u46 1), .inl (ca 0, 8, .inl (fun _ => 0))), ((u46 2), .inl (ca 0, 8, .inl (fun _ => 0))), ((u46 3), .inl (ca 0, 8, .inl (fun _ => 0))), ((u46 4), .inl (ca 0, 8, .inl (fun _ => 0))), ((u46 5), .inl (ca 0, 8, .inl (fun _ => 0))), (q53, .inr (7, [.ref q5, .ref (u61 0), .ref (u61 1), .int 0, .ref (u61 2), .int 0, .int 0, .int 0, .int 0, .int 0, .int 0])), ((u61 0), .inl (ca 0, 16, .inl (fun _ => 0))), ((u61 1), .inl (ca 0, 8, .inl (fun _ => 0))), ((u61 2), .inl (ca 0, 100, .inl (fun _ => 0))), (q68, .inr (0, [.ref q5, .ref q38, .int 0, .int 0, .int 0, .int 0, .int 0, .int 0, .int 0, .int 0, .int 0, .int 0])), (q87, .inr (3, [.ref q5, .ref q38, .int 0]))] := hD
  refine lv_aload_n hx hb dX8_init_105 rfl (lv_at hl 0 rfl) ?_
  refine va_new (ci := 1) (fs := [.null, .null, .int 0, .int 0, .int 0, .int 0, .int 0, .int 0]) (C := RX1) (T := TX1) (N := 8) hx hb hts igX1 tyX1 tyX1_ok hown (hts _ wk_123) (hts _ wk_124) (hts _ wk_125) hK hP hD hS hA rfl (fun j hj => by rcases (show j = 0 ∨ j = 1 ∨ j = 2 ∨ j = 3 ∨ j = 4 ∨ j = 5 ∨ j = 6 ∨ j = 7 by omega) with rfl | rfl | rfl | rfl | rfl | rfl | rfl | rfl <;> rfl) (Nat.le_of_ble_eq_true rfl) (Nat.le_of_ble_eq_true rfl) dX8_init_106 (fun q106 H hP hD hS => ?_)
  have hP : va_P (dC, dI) ly_C [(h0, .inr (8, [.ref q5, .ref q16, .ref q27, .ref q38, .ref q53, .ref q68, .ref q87, .null, .int 0])), (q5, .inr (2, [.ref (u9 0), .int 0, .int 0])), ((u9 0), .inl (ca 0, 16, .inl (fun _ => 0))), (q16, .inr (4, [.ref (u20 0), .int 0, .int 0])), ((u20 0), .inl (ca 0, 216, .inl (fun _ => 0))), (q27, .inr (6, [.ref (u31 0), .ref (u31 1), .int 0, .int 0, .int 0])), ((u31 0), .inl (ca 1, 110, .inl (fun _ => 0))), ((u31 1), .inl (ca 0, 16, .inl (fun _ => 0))), (q38, .inr (5, [.ref q5, .ref (u46 0), .ref (u46 1), .ref (u46 2), .ref (u46 3), .ref (u46 4), .ref (u46 5)])), ((u46 0), .inl (ca 0, 16, .inl (fun _ => 0))), ((u46 1), .inl (ca 0, 8, .inl (fun _ => 0))), ((u46 2), .inl (ca 0, 8, .inl (fun _ => 0))), ((u46 3), .inl (ca 0, 8, .inl (fun _ => 0))), ((u46 4), .inl (ca 0, 8, .inl (fun _ => 0))), ((u46 5), .inl (ca 0, 8, .inl (fun _ => 0))), (q53, .inr (7, [.ref q5, .ref (u61 0), .ref (u61 1), .int 0, .ref (u61 2), .int 0, .int 0, .int 0, .int 0, .int 0, .int 0])), ((u61 0), .inl (ca 0, 16, .inl (fun _ => 0))), ((u61 1), .inl (ca 0, 8, .inl (fun _ => 0))), ((u61 2), .inl (ca 0, 100, .inl (fun _ => 0))), (q68, .inr (0, [.ref q5, .ref q38, .int 0, .int 0, .int 0, .int 0, .int 0, .int 0, .int 0, .int 0, .int 0, .int 0])), (q87, .inr (3, [.ref q5, .ref q38, .int 0])), (q106, .inr (1, [.null, .null, .int 0, .int 0, .int 0, .int 0, .int 0, .int 0]))] H := hP
  have hD : va_D A [(h0, .inr (8, [.ref q5, .ref q16, .ref q27, .ref q38, .ref q53, .ref q68, .ref q87, .null, .int 0])), (q5, .inr (2, [.ref (u9 0), .int 0, .int 0])), ((u9 0), .inl (ca 0, 16, .inl (fun _ => 0))), (q16, .inr (4, [.ref (u20 0), .int 0, .int 0])), ((u20 0), .inl (ca 0, 216, .inl (fun _ => 0))), (q27, .inr (6, [.ref (u31 0), .ref (u31 1), .int 0, .int 0, .int 0])), ((u31 0), .inl (ca 1, 110, .inl (fun _ => 0))), ((u31 1), .inl (ca 0, 16, .inl (fun _ => 0))), (q38, .inr (5, [.ref q5, .ref (u46 0), .ref (u46 1), .ref (u46 2), .ref (u46 3), .ref (u46 4), .ref (u46 5)])), ((u46 0), .inl (ca 0, 16, .inl (fun _ => 0))), ((u46 1), .inl (ca 0, 8, .inl (fun _ => 0))), ((u46 2), .inl (ca 0, 8, .inl (fun _ => 0))), ((u46 3), .inl (ca 0, 8, .inl (fun _ => 0))), ((u46 4), .inl (ca 0, 8, .inl (fun _ => 0))), ((u46 5), .inl (ca 0, 8, .inl (fun _ => 0))), (q53, .inr (7, [.ref q5, .ref (u61 0), .ref (u61 1), .int 0, .ref (u61 2), .int 0, .int 0, .int 0, .int 0, .int 0, .int 0])), ((u61 0), .inl (ca 0, 16, .inl (fun _ => 0))), ((u61 1), .inl (ca 0, 8, .inl (fun _ => 0))), ((u61 2), .inl (ca 0, 100, .inl (fun _ => 0))), (q68, .inr (0, [.ref q5, .ref q38, .int 0, .int 0, .int 0, .int 0, .int 0, .int 0, .int 0, .int 0, .int 0, .int 0])), (q87, .inr (3, [.ref q5, .ref q38, .int 0])), (q106, .inr (1, [.null, .null, .int 0, .int 0, .int 0, .int 0, .int 0, .int 0]))] := hD
  refine W.widen (k := 21) (n := 590) (Nat.le_of_ble_eq_true rfl) (Nat.le_of_ble_eq_true rfl) ?_
  refine lv_dup hx hb dX8_init_109 rfl ?_
  refine lv_aload_n hx hb dX8_init_110 rfl (lv_at hl 0 rfl) ?_
  refine va_get (D := (dC, dI)) (ci := 8) (v := .ref q5) (C := RX8) (T := TX8) (N := 9) hx hb hts igX8 hown hK hP 0 rfl rfl 0 (by decide) (hts _ wk_126) (fun _ h9 => h9) rfl dX8_init_111 ?_
  refine lv_aload_n hx hb dX8_init_114 rfl (lv_at hl 0 rfl) ?_
  refine va_get (D := (dC, dI)) (ci := 8) (v := .ref q68) (C := RX8) (T := TX8) (N := 9) hx hb hts igX8 hown hK hP 0 rfl rfl 5 (by decide) (hts _ wk_127) (fun _ h9 => h9) rfl dX8_init_115 ?_
  have hPc := hP.sub (ws' := [(q106, .inr (1, [.null, .null, .int 0, .int 0, .int 0, .int 0, .int 0, .int 0]))]) [21] rfl
  have hDc := hD.sub (ws' := [(q106, .inr (1, [.null, .null, .int 0, .int 0, .int 0, .int 0, .int 0, .int 0]))]) [21] (by decide) rfl
  have hFc := va_free (wc := [(q106, .inr (1, [.null, .null, .int 0, .int 0, .int 0, .int 0, .int 0, .int 0]))]) hD hS hA [21] rfl
  refine va_callv (va_runI (As := [.ref q5, .ref q68]) (rest := [.ref q106, .ref h0]) ⟨hx, hb, hml, hown, hts⟩ (k_X1_init l dC dI ca q106 q5 q68 H.size) (cwI 2 hts (ws_good wk_128) rfl rfl rfl (hts _ wk_125) (hts _ wk_130) (hts _ wk_129) rfl (by decide +kernel) ⟨Nat.le_of_ble_eq_true rfl, Nat.le_of_ble_eq_true rfl⟩) ⟨fun a U g mk q => by obtain ⟨z0, z1, qP, qK, qD⟩ := q; exact ⟨z0, z1, qP, va_K.moved (u := U) (U := U.calling g mk a) (Vm.Alike.refl U.vm) qK, qD⟩, fun U hU hW => ⟨rfl, by rw [hU], by rw [hU]; exact hPc, va_K.moved hW.alike hK, hDc.weaken (fun _ _ _ _ => trivial)⟩⟩ rfl rfl hl.1 rfl (lv_room (Nat.le_of_ble_eq_true rfl)) dX8_init_118 ⟨Nat.le_of_ble_eq_true rfl, Nat.le_of_ble_eq_true rfl⟩) hS (fun q _ h => hFc q h) hFc (fun u118 t H1 locs ht hvm hw hB hz1 hk1 hS => ?_)
  obtain ⟨hP1, hD1⟩ := hB
  rw [ht] at hP1
  obtain ⟨hP, hD⟩ := va_join (wr := [(h0, .inr (8, [.ref q5, .ref q16, .ref q27, .ref q38, .ref q53, .ref q68, .ref q87, .null, .int 0])), (q5, .inr (2, [.ref (u9 0), .int 0, .int 0])), ((u9 0), .inl (ca 0, 16, .inl (fun _ => 0))), (q16, .inr (4, [.ref (u20 0), .int 0, .int 0])), ((u20 0), .inl (ca 0, 216, .inl (fun _ => 0))), (q27, .inr (6, [.ref (u31 0), .ref (u31 1), .int 0, .int 0, .int 0])), ((u31 0), .inl (ca 1, 110, .inl (fun _ => 0))), ((u31 1), .inl (ca 0, 16, .inl (fun _ => 0))), (q38, .inr (5, [.ref q5, .ref (u46 0), .ref (u46 1), .ref (u46 2), .ref (u46 3), .ref (u46 4), .ref (u46 5)])), ((u46 0), .inl (ca 0, 16, .inl (fun _ => 0))), ((u46 1), .inl (ca 0, 8, .inl (fun _ => 0))), ((u46 2), .inl (ca 0, 8, .inl (fun _ => 0))), ((u46 3), .inl (ca 0, 8, .inl (fun _ => 0))), ((u46 4), .inl (ca 0, 8, .inl (fun _ => 0))), ((u46 5), .inl (ca 0, 8, .inl (fun _ => 0))), (q53, .inr (7, [.ref q5, .ref (u61 0), .ref (u61 1), .int 0, .ref (u61 2), .int 0, .int 0, .int 0, .int 0, .int 0, .int 0])), ((u61 0), .inl (ca 0, 16, .inl (fun _ => 0))), ((u61 1), .inl (ca 0, 8, .inl (fun _ => 0))), ((u61 2), .inl (ca 0, 100, .inl (fun _ => 0))), (q68, .inr (0, [.ref q5, .ref q38, .int 0, .int 0, .int 0, .int 0, .int 0, .int 0, .int 0, .int 0, .int 0, .int 0])), (q87, .inr (3, [.ref q5, .ref q38, .int 0]))]) (w1 := [(q106, .inr (1, [.ref q5, .ref q68, .int 0, .int 0, .int 0, .int 0, .int 0, .int 0]))]) hP hD [21] [0, 1, 2, 3, 4, 5, 6, 7, 8, 9, 10, 11, 12, 13, 14, 15, 16, 17, 18, 19, 20] rfl rfl (by decide) (by decide) hk1 hFc hP1 hD1
  generalize H1 = H at hP hS ⊢
  have hP : va_P (dC, dI) ly_C [(h0, .inr (8, [.ref q5, .ref q16, .ref q27, .ref q38, .ref q53, .ref q68, .ref q87, .null, .int 0])), (q5, .inr (2, [.ref (u9 0), .int 0, .int 0])), ((u9 0), .inl (ca 0, 16, .inl (fun _ => 0))), (q16, .inr (4, [.ref (u20 0), .int 0, .int 0])), ((u20 0), .inl (ca 0, 216, .inl (fun _ => 0))), (q27, .inr (6, [.ref (u31 0), .ref (u31 1), .int 0, .int 0, .int 0])), ((u31 0), .inl (ca 1, 110, .inl (fun _ => 0))), ((u31 1), .inl (ca 0, 16, .inl (fun _ => 0))), (q38, .inr (5, [.ref q5, .ref (u46 0), .ref (u46 1), .ref (u46 2), .ref (u46 3), .ref (u46 4), .ref (u46 5)])), ((u46 0), .inl (ca 0, 16, .inl (fun _ => 0))), ((u46 1), .inl (ca 0, 8, .inl (fun _ => 0))), ((u46 2), .inl (ca 0, 8, .inl (fun _ => 0))), ((u46 3), .inl (ca 0, 8, .inl (fun _ => 0))), ((u46 4), .inl (ca 0, 8, .inl (fun _ => 0))), ((u46 5), .inl (ca 0, 8, .inl (fun _ => 0))), (q53, .inr (7, [.ref q5, .ref (u61 0), .ref (u61 1), .int 0, .ref (u61 2), .int 0, .int 0, .int 0, .int 0, .int 0, .int 0])), ((u61 0), .inl (ca 0, 16, .inl (fun _ => 0))), ((u61 1), .inl (ca 0, 8, .inl (fun _ => 0))), ((u61 2), .inl (ca 0, 100, .inl (fun _ => 0))), (q68, .inr (0, [.ref q5, .ref q38, .int 0, .int 0, .int 0, .int 0, .int 0, .int 0, .int 0, .int 0, .int 0, .int 0])), (q87, .inr (3, [.ref q5, .ref q38, .int 0])), (q106, .inr (1, [.ref q5, .ref q68, .int 0, .int 0, .int 0, .int 0, .int 0, .int 0]))] H := hP
  have hD : va_D A [(h0, .inr (8, [.ref q5, .ref q16, .ref q27, .ref q38, .ref q53, .ref q68, .ref q87, .null, .int 0])), (q5, .inr (2, [.ref (u9 0), .int 0, .int 0])), ((u9 0), .inl (ca 0, 16, .inl (fun _ => 0))), (q16, .inr (4, [.ref (u20 0), .int 0, .int 0])), ((u20 0), .inl (ca 0, 216, .inl (fun _ => 0))), (q27, .inr (6, [.ref (u31 0), .ref (u31 1), .int 0, .int 0, .int 0])), ((u31 0), .inl (ca 1, 110, .inl (fun _ => 0))), ((u31 1), .inl (ca 0, 16, .inl (fun _ => 0))), (q38, .inr (5, [.ref q5, .ref (u46 0), .ref (u46 1), .ref (u46 2), .ref (u46 3), .ref (u46 4), .ref (u46 5)])), ((u46 0), .inl (ca 0, 16, .inl (fun _ => 0))), ((u46 1), .inl (ca 0, 8, .inl (fun _ => 0))), ((u46 2), .inl (ca 0, 8, .inl (fun _ => 0))), ((u46 3), .inl (ca 0, 8, .inl (fun _ => 0))), ((u46 4), .inl (ca 0, 8, .inl (fun _ => 0))), ((u46 5), .inl (ca 0, 8, .inl (fun _ => 0))), (q53, .inr (7, [.ref q5, .ref (u61 0), .ref (u61 1), .int 0, .ref (u61 2), .int 0, .int 0, .int 0, .int 0, .int 0, .int 0])), ((u61 0), .inl (ca 0, 16, .inl (fun _ => 0))), ((u61 1), .inl (ca 0, 8, .inl (fun _ => 0))), ((u61 2), .inl (ca 0, 100, .inl (fun _ => 0))), (q68, .inr (0, [.ref q5, .ref q38, .int 0, .int 0, .int 0, .int 0, .int 0, .int 0, .int 0, .int 0, .int 0, .int 0])), (q87, .inr (3, [.ref q5, .ref q38, .int 0])), (q106, .inr (1, [.ref q5, .ref q68, .int 0, .int 0, .int 0, .int 0, .int 0, .int 0]))] := hD
  refine W.widen (k := 21) (n := 590) (Nat.le_of_ble_eq_true rfl) (Nat.le_of_ble_eq_true rfl) ?_
  refine va_putF (D := (dC, dI)) (ci := 8) (v := .ref q106) (ty := .object "PathInterdiction$Fortifier") (C := RX8) (T := TX8) (N := 9) hx hb hts igX8 tyX8 tyX8_ok nmX8 hown hK hP hD hS 0 rfl rfl 7 (by decide) (hts _ wk_131) (fun _ h9 => h9) rfl hin rfl (by decide +kernel) rfl rfl (Nat.le_of_ble_eq_true rfl) dX8_init_121 (fun H locs hP hD hS => ?_)
  have hP : va_P (dC, dI) ly_C [(h0, .inr (8, [.ref q5, .ref q16, .ref q27, .ref q38, .ref q53, .ref q68, .ref q87, .ref q106, .int 0])), (q5, .inr (2, [.ref (u9 0), .int 0, .int 0])), ((u9 0), .inl (ca 0, 16, .inl (fun _ => 0))), (q16, .inr (4, [.ref (u20 0), .int 0, .int 0])), ((u20 0), .inl (ca 0, 216, .inl (fun _ => 0))), (q27, .inr (6, [.ref (u31 0), .ref (u31 1), .int 0, .int 0, .int 0])), ((u31 0), .inl (ca 1, 110, .inl (fun _ => 0))), ((u31 1), .inl (ca 0, 16, .inl (fun _ => 0))), (q38, .inr (5, [.ref q5, .ref (u46 0), .ref (u46 1), .ref (u46 2), .ref (u46 3), .ref (u46 4), .ref (u46 5)])), ((u46 0), .inl (ca 0, 16, .inl (fun _ => 0))), ((u46 1), .inl (ca 0, 8, .inl (fun _ => 0))), ((u46 2), .inl (ca 0, 8, .inl (fun _ => 0))), ((u46 3), .inl (ca 0, 8, .inl (fun _ => 0))), ((u46 4), .inl (ca 0, 8, .inl (fun _ => 0))), ((u46 5), .inl (ca 0, 8, .inl (fun _ => 0))), (q53, .inr (7, [.ref q5, .ref (u61 0), .ref (u61 1), .int 0, .ref (u61 2), .int 0, .int 0, .int 0, .int 0, .int 0, .int 0])), ((u61 0), .inl (ca 0, 16, .inl (fun _ => 0))), ((u61 1), .inl (ca 0, 8, .inl (fun _ => 0))), ((u61 2), .inl (ca 0, 100, .inl (fun _ => 0))), (q68, .inr (0, [.ref q5, .ref q38, .int 0, .int 0, .int 0, .int 0, .int 0, .int 0, .int 0, .int 0, .int 0, .int 0])), (q87, .inr (3, [.ref q5, .ref q38, .int 0])), (q106, .inr (1, [.ref q5, .ref q68, .int 0, .int 0, .int 0, .int 0, .int 0, .int 0]))] H := hP
  have hD : va_D A [(h0, .inr (8, [.ref q5, .ref q16, .ref q27, .ref q38, .ref q53, .ref q68, .ref q87, .ref q106, .int 0])), (q5, .inr (2, [.ref (u9 0), .int 0, .int 0])), ((u9 0), .inl (ca 0, 16, .inl (fun _ => 0))), (q16, .inr (4, [.ref (u20 0), .int 0, .int 0])), ((u20 0), .inl (ca 0, 216, .inl (fun _ => 0))), (q27, .inr (6, [.ref (u31 0), .ref (u31 1), .int 0, .int 0, .int 0])), ((u31 0), .inl (ca 1, 110, .inl (fun _ => 0))), ((u31 1), .inl (ca 0, 16, .inl (fun _ => 0))), (q38, .inr (5, [.ref q5, .ref (u46 0), .ref (u46 1), .ref (u46 2), .ref (u46 3), .ref (u46 4), .ref (u46 5)])), ((u46 0), .inl (ca 0, 16, .inl (fun _ => 0))), ((u46 1), .inl (ca 0, 8, .inl (fun _ => 0))), ((u46 2), .inl (ca 0, 8, .inl (fun _ => 0))), ((u46 3), .inl (ca 0, 8, .inl (fun _ => 0))), ((u46 4), .inl (ca 0, 8, .inl (fun _ => 0))), ((u46 5), .inl (ca 0, 8, .inl (fun _ => 0))), (q53, .inr (7, [.ref q5, .ref (u61 0), .ref (u61 1), .int 0, .ref (u61 2), .int 0, .int 0, .int 0, .int 0, .int 0, .int 0])), ((u61 0), .inl (ca 0, 16, .inl (fun _ => 0))), ((u61 1), .inl (ca 0, 8, .inl (fun _ => 0))), ((u61 2), .inl (ca 0, 100, .inl (fun _ => 0))), (q68, .inr (0, [.ref q5, .ref q38, .int 0, .int 0, .int 0, .int 0, .int 0, .int 0, .int 0, .int 0, .int 0, .int 0])), (q87, .inr (3, [.ref q5, .ref q38, .int 0])), (q106, .inr (1, [.ref q5, .ref q68, .int 0, .int 0, .int 0, .int 0, .int 0, .int 0]))] := hD
  refine lv_aload_n hx hb dX8_init_124 rfl (lv_at hl 0 rfl) ?_
  refine lv_iconst (v := (-1)) hx hb dX8_init_125 (by decide) ?_
  refine va_put (D := (dC, dI)) (ci := 8) (v := .int (-1)) (ty := .int) (C := RX8) (T := TX8) (N := 9) hx hb hts igX8 tyX8 tyX8_ok nmX8 hown hK hP hD hS 0 rfl rfl 8 (by decide) (hts _ wk_132) (fun _ h9 => h9) rfl (by decide +kernel) rfl rfl (Nat.le_of_ble_eq_true rfl) dX8_init_126 (fun H locs hP hD hS => ?_)
  have hP : va_P (dC, dI) ly_C [(h0, .inr (8, [.ref q5, .ref q16, .ref q27, .ref q38, .ref q53, .ref q68, .ref q87, .ref q106, .int (-1)])), (q5, .inr (2, [.ref (u9 0), .int 0, .int 0])), ((u9 0), .inl (ca 0, 16, .inl (fun _ => 0))), (q16, .inr (4, [.ref (u20 0), .int 0, .int 0])), ((u20 0), .inl (ca 0, 216, .inl (fun _ => 0))), (q27, .inr (6, [.ref (u31 0), .ref (u31 1), .int 0, .int 0, .int 0])), ((u31 0), .inl (ca 1, 110, .inl (fun _ => 0))), ((u31 1), .inl (ca 0, 16, .inl (fun _ => 0))), (q38, .inr (5, [.ref q5, .ref (u46 0), .ref (u46 1), .ref (u46 2), .ref (u46 3), .ref (u46 4), .ref (u46 5)])), ((u46 0), .inl (ca 0, 16, .inl (fun _ => 0))), ((u46 1), .inl (ca 0, 8, .inl (fun _ => 0))), ((u46 2), .inl (ca 0, 8, .inl (fun _ => 0))), ((u46 3), .inl (ca 0, 8, .inl (fun _ => 0))), ((u46 4), .inl (ca 0, 8, .inl (fun _ => 0))), ((u46 5), .inl (ca 0, 8, .inl (fun _ => 0))), (q53, .inr (7, [.ref q5, .ref (u61 0), .ref (u61 1), .int 0, .ref (u61 2), .int 0, .int 0, .int 0, .int 0, .int 0, .int 0])), ((u61 0), .inl (ca 0, 16, .inl (fun _ => 0))), ((u61 1), .inl (ca 0, 8, .inl (fun _ => 0))), ((u61 2), .inl (ca 0, 100, .inl (fun _ => 0))), (q68, .inr (0, [.ref q5, .ref q38, .int 0, .int 0, .int 0, .int 0, .int 0, .int 0, .int 0, .int 0, .int 0, .int 0])), (q87, .inr (3, [.ref q5, .ref q38, .int 0])), (q106, .inr (1, [.ref q5, .ref q68, .int 0, .int 0, .int 0, .int 0, .int 0, .int 0]))] H := hP
  have hD : va_D A [(h0, .inr (8, [.ref q5, .ref q16, .ref q27, .ref q38, .ref q53, .ref q68, .ref q87, .ref q106, .int (-1)])), (q5, .inr (2, [.ref (u9 0), .int 0, .int 0])), ((u9 0), .inl (ca 0, 16, .inl (fun _ => 0))), (q16, .inr (4, [.ref (u20 0), .int 0, .int 0])), ((u20 0), .inl (ca 0, 216, .inl (fun _ => 0))), (q27, .inr (6, [.ref (u31 0), .ref (u31 1), .int 0, .int 0, .int 0])), ((u31 0), .inl (ca 1, 110, .inl (fun _ => 0))), ((u31 1), .inl (ca 0, 16, .inl (fun _ => 0))), (q38, .inr (5, [.ref q5, .ref (u46 0), .ref (u46 1), .ref (u46 2), .ref (u46 3), .ref (u46 4), .ref (u46 5)])), ((u46 0), .inl (ca 0, 16, .inl (fun _ => 0))), ((u46 1), .inl (ca 0, 8, .inl (fun _ => 0))), ((u46 2), .inl (ca 0, 8, .inl (fun _ => 0))), ((u46 3), .inl (ca 0, 8, .inl (fun _ => 0))), ((u46 4), .inl (ca 0, 8, .inl (fun _ => 0))), ((u46 5), .inl (ca 0, 8, .inl (fun _ => 0))), (q53, .inr (7, [.ref q5, .ref (u61 0), .ref (u61 1), .int 0, .ref (u61 2), .int 0, .int 0, .int 0, .int 0, .int 0, .int 0])), ((u61 0), .inl (ca 0, 16, .inl (fun _ => 0))), ((u61 1), .inl (ca 0, 8, .inl (fun _ => 0))), ((u61 2), .inl (ca 0, 100, .inl (fun _ => 0))), (q68, .inr (0, [.ref q5, .ref q38, .int 0, .int 0, .int 0, .int 0, .int 0, .int 0, .int 0, .int 0, .int 0, .int 0])), (q87, .inr (3, [.ref q5, .ref q38, .int 0])), (q106, .inr (1, [.ref q5, .ref q68, .int 0, .int 0, .int 0, .int 0, .int 0, .int 0]))] := hD
  have hP9 := hP.sub (ws' := [(h0, .inr (8, [.ref q5, .ref q16, .ref q27, .ref q38, .ref q53, .ref q68, .ref q87, .ref q106, .int (-1)])), (q5, .inr (2, [.ref (u9 0), .int 0, .int 0])), ((u9 0), .inl (ca 0, 16, .inl (fun _ => 0))), (q16, .inr (4, [.ref (u20 0), .int 0, .int 0])), ((u20 0), .inl (ca 0, 216, .inl (fun _ => 0))), (q27, .inr (6, [.ref (u31 0), .ref (u31 1), .int 0, .int 0, .int 0])), ((u31 0), .inl (ca 1, 110, .inl (fun _ => 0))), ((u31 1), .inl (ca 0, 16, .inl (fun _ => 0))), (q38, .inr (5, [.ref q5, .ref (u46 0), .ref (u46 1), .ref (u46 2), .ref (u46 3), .ref (u46 4), .ref (u46 5)])), ((u46 0), .inl (ca 0, 16, .inl (fun _ => 0))), ((u46 1), .inl (ca 0, 8, .inl (fun _ => 0))), ((u46 2), .inl (ca 0, 8, .inl (fun _ => 0))), ((u46 3), .inl (ca 0, 8, .inl (fun _ => 0))), ((u46 4), .inl (ca 0, 8, .inl (fun _ => 0))), ((u46 5), .inl (ca 0, 8, .inl (fun _ => 0))), (q53, .inr (7, [.ref q5, .ref (u61 0), .ref (u61 1), .int 0, .ref (u61 2), .int 0, .int 0, .int 0, .int 0, .int 0, .int 0])), ((u61 0), .inl (ca 0, 16, .inl (fun _ => 0))), ((u61 1), .inl (ca 0, 8, .inl (fun _ => 0))), ((u61 2), .inl (ca 0, 100, .inl (fun _ => 0))), (q68, .inr (0, [.ref q5, .ref q38, .int 0, .int 0, .int 0, .int 0, .int 0, .int 0, .int 0, .int 0, .int 0, .int 0])), (q87, .inr (3, [.ref q5, .ref q38, .int 0])), (q106, .inr (1, [.ref q5, .ref q68, .int 0, .int 0, .int 0, .int 0, .int 0, .int 0]))]) [0, 1, 2, 3, 4, 5, 6, 7, 8, 9, 10, 11, 12, 13, 14, 15, 16, 17, 18, 19, 20, 21] rfl
  have hD9 := hD.sub (ws' := [(h0, .inr (8, [.ref q5, .ref q16, .ref q27, .ref q38, .ref q53, .ref q68, .ref q87, .ref q106, .int (-1)])), (q5, .inr (2, [.ref (u9 0), .int 0, .int 0])), ((u9 0), .inl (ca 0, 16, .inl (fun _ => 0))), (q16, .inr (4, [.ref (u20 0), .int 0, .int 0])), ((u20 0), .inl (ca 0, 216, .inl (fun _ => 0))), (q27, .inr (6, [.ref (u31 0), .ref (u31 1), .int 0, .int 0, .int 0])), ((u31 0), .inl (ca 1, 110, .inl (fun _ => 0))), ((u31 1), .inl (ca 0, 16, .inl (fun _ => 0))), (q38, .inr (5, [.ref q5, .ref (u46 0), .ref (u46 1), .ref (u46 2), .ref (u46 3), .ref (u46 4), .ref (u46 5)])), ((u46 0), .inl (ca 0, 16, .inl (fun _ => 0))), ((u46 1), .inl (ca 0, 8, .inl (fun _ => 0))), ((u46 2), .inl (ca 0, 8, .inl (fun _ => 0))), ((u46 3), .inl (ca 0, 8, .inl (fun _ => 0))), ((u46 4), .inl (ca 0, 8, .inl (fun _ => 0))), ((u46 5), .inl (ca 0, 8, .inl (fun _ => 0))), (q53, .inr (7, [.ref q5, .ref (u61 0), .ref (u61 1), .int 0, .ref (u61 2), .int 0, .int 0, .int 0, .int 0, .int 0, .int 0])), ((u61 0), .inl (ca 0, 16, .inl (fun _ => 0))), ((u61 1), .inl (ca 0, 8, .inl (fun _ => 0))), ((u61 2), .inl (ca 0, 100, .inl (fun _ => 0))), (q68, .inr (0, [.ref q5, .ref q38, .int 0, .int 0, .int 0, .int 0, .int 0, .int 0, .int 0, .int 0, .int 0, .int 0])), (q87, .inr (3, [.ref q5, .ref q38, .int 0])), (q106, .inr (1, [.ref q5, .ref q68, .int 0, .int 0, .int 0, .int 0, .int 0, .int 0]))]) [0, 1, 2, 3, 4, 5, 6, 7, 8, 9, 10, 11, 12, 13, 14, 15, 16, 17, 18, 19, 20, 21] (by decide) rfl
  exact W.vret hx hb hr (fun t ht hW => ⟨⟨fun i => [q5, (u9 0), q16, (u20 0), q27, (u31 0), (u31 1), q38, (u46 0), (u46 1), (u46 2), (u46 3), (u46 4), (u46 5), q53, (u61 0), (u61 1), (u61 2), q68, q87, q106].getD i 0, rfl, trivial, by rw [ht]; exact hP9, hD9⟩, hS.F ht⟩) hS.2.2 dX8_init_129
