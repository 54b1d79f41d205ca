section
-- ===== PART A: goes FIRST, ahead of the names: the tables' words, and 'selects' of the private methods out of them =====
/-- a private method of a class that the tables say can be made, by its rows of tables_1 -/
def lw_okq (q : MethodName × Nat) : Prop := (q.1.cls ≠ "java/lang/invoke/MethodHandle" ∧ q.1.cls ≠ "java/lang/invoke/VarHandle") ∧ Cond.instantiable q.1.cls q.2 ∈ tables_1 ∧ Cond.privateMethod q.1 ∈ tables_1 ∧ Cond.instanceMethod q.1 ∈ tables_1
theorem lw_p0 : lw_okq (⟨"PathInterdiction$Text", "skipBlanks", "()V"⟩, 5) := ⟨⟨by decide +kernel, by decide +kernel⟩, List.mem_of_getElem? (i := 67) (by decide +kernel), List.mem_of_getElem? (i := 380) (by decide +kernel), List.mem_of_getElem? (i := 381) (by decide +kernel)⟩
theorem lw_p1 : lw_okq (⟨"PathInterdiction$Text", "readEdge", "()Z"⟩, 5) := ⟨⟨by decide +kernel, by decide +kernel⟩, List.mem_of_getElem? (i := 67) (by decide +kernel), List.mem_of_getElem? (i := 388) (by decide +kernel), List.mem_of_getElem? (i := 389) (by decide +kernel)⟩
theorem lw_p2 : lw_okq (⟨"PathInterdiction$Text", "readNode", "()I"⟩, 5) := ⟨⟨by decide +kernel, by decide +kernel⟩, List.mem_of_getElem? (i := 67) (by decide +kernel), List.mem_of_getElem? (i := 392) (by decide +kernel), List.mem_of_getElem? (i := 393) (by decide +kernel)⟩
theorem lw_p3 : lw_okq (⟨"PathInterdiction$Text", "readOtherNode", "(I)I"⟩, 5) := ⟨⟨by decide +kernel, by decide +kernel⟩, List.mem_of_getElem? (i := 67) (by decide +kernel), List.mem_of_getElem? (i := 396) (by decide +kernel), List.mem_of_getElem? (i := 397) (by decide +kernel)⟩
theorem lw_p4 : lw_okq (⟨"PathInterdiction$Text", "readNumber", "()I"⟩, 5) := ⟨⟨by decide +kernel, by decide +kernel⟩, List.mem_of_getElem? (i := 67) (by decide +kernel), List.mem_of_getElem? (i := 400) (by decide +kernel), List.mem_of_getElem? (i := 401) (by decide +kernel)⟩
theorem lw_p5 : lw_okq (⟨"PathInterdiction$Text", "digitAt", "(I)I"⟩, 5) := ⟨⟨by decide +kernel, by decide +kernel⟩, List.mem_of_getElem? (i := 67) (by decide +kernel), List.mem_of_getElem? (i := 404) (by decide +kernel), List.mem_of_getElem? (i := 405) (by decide +kernel)⟩
theorem lw_p6 : lw_okq (⟨"PathInterdiction$Text", "readSign", "(C)Z"⟩, 5) := ⟨⟨by decide +kernel, by decide +kernel⟩, List.mem_of_getElem? (i := 67) (by decide +kernel), List.mem_of_getElem? (i := 408) (by decide +kernel), List.mem_of_getElem? (i := 409) (by decide +kernel)⟩
theorem lw_p7 : lw_okq (⟨"PathInterdiction$Text", "readDelay", "()I"⟩, 5) := ⟨⟨by decide +kernel, by decide +kernel⟩, List.mem_of_getElem? (i := 67) (by decide +kernel), List.mem_of_getElem? (i := 412) (by decide +kernel), List.mem_of_getElem? (i := 413) (by decide +kernel)⟩
theorem lw_p8 : lw_okq (⟨"PathInterdiction$Text", "readCost", "()I"⟩, 5) := ⟨⟨by decide +kernel, by decide +kernel⟩, List.mem_of_getElem? (i := 67) (by decide +kernel), List.mem_of_getElem? (i := 416) (by decide +kernel), List.mem_of_getElem? (i := 417) (by decide +kernel)⟩
theorem lw_p9 : lw_okq (⟨"PathInterdiction$Router", "settle", "()V"⟩, 7) := ⟨⟨by decide +kernel, by decide +kernel⟩, List.mem_of_getElem? (i := 92) (by decide +kernel), List.mem_of_getElem? (i := 472) (by decide +kernel), List.mem_of_getElem? (i := 473) (by decide +kernel)⟩
theorem lw_p10 : lw_okq (⟨"PathInterdiction$Router", "repairOnce", "(I)V"⟩, 7) := ⟨⟨by decide +kernel, by decide +kernel⟩, List.mem_of_getElem? (i := 92) (by decide +kernel), List.mem_of_getElem? (i := 476) (by decide +kernel), List.mem_of_getElem? (i := 477) (by decide +kernel)⟩
theorem lw_p11 : lw_okq (⟨"PathInterdiction$Walker", "begin", "(IIII)I"⟩, 11) := ⟨⟨by decide +kernel, by decide +kernel⟩, List.mem_of_getElem? (i := 120) (by decide +kernel), List.mem_of_getElem? (i := 492) (by decide +kernel), List.mem_of_getElem? (i := 493) (by decide +kernel)⟩
theorem lw_p12 : lw_okq (⟨"PathInterdiction$Walker", "walk", "(IIII)Z"⟩, 11) := ⟨⟨by decide +kernel, by decide +kernel⟩, List.mem_of_getElem? (i := 120) (by decide +kernel), List.mem_of_getElem? (i := 500) (by decide +kernel), List.mem_of_getElem? (i := 501) (by decide +kernel)⟩
theorem lw_p13 : lw_okq (⟨"PathInterdiction$Walker", "arrive", "(II)Z"⟩, 11) := ⟨⟨by decide +kernel, by decide +kernel⟩, List.mem_of_getElem? (i := 120) (by decide +kernel), List.mem_of_getElem? (i := 504) (by decide +kernel), List.mem_of_getElem? (i := 505) (by decide +kernel)⟩
theorem lw_p14 : lw_okq (⟨"PathInterdiction$Walker", "rank", "(I)V"⟩, 11) := ⟨⟨by decide +kernel, by decide +kernel⟩, List.mem_of_getElem? (i := 120) (by decide +kernel), List.mem_of_getElem? (i := 508) (by decide +kernel), List.mem_of_getElem? (i := 509) (by decide +kernel)⟩
theorem lw_p15 : lw_okq (⟨"PathInterdiction$AttackSearch", "grow", "(IIII)V"⟩, 12) := ⟨⟨by decide +kernel, by decide +kernel⟩, List.mem_of_getElem? (i := 161) (by decide +kernel), List.mem_of_getElem? (i := 563) (by decide +kernel), List.mem_of_getElem? (i := 564) (by decide +kernel)⟩
def lw_privs_1 : List (MethodName × Nat) := [(⟨"PathInterdiction$Text", "skipBlanks", "()V"⟩, 5), (⟨"PathInterdiction$Text", "readEdge", "()Z"⟩, 5), (⟨"PathInterdiction$Text", "readNode", "()I"⟩, 5), (⟨"PathInterdiction$Text", "readOtherNode", "(I)I"⟩, 5), (⟨"PathInterdiction$Text", "readNumber", "()I"⟩, 5), (⟨"PathInterdiction$Text", "digitAt", "(I)I"⟩, 5), (⟨"PathInterdiction$Text", "readSign", "(C)Z"⟩, 5), (⟨"PathInterdiction$Text", "readDelay", "()I"⟩, 5), (⟨"PathInterdiction$Text", "readCost", "()I"⟩, 5), (⟨"PathInterdiction$Router", "settle", "()V"⟩, 7), (⟨"PathInterdiction$Router", "repairOnce", "(I)V"⟩, 7), (⟨"PathInterdiction$Walker", "begin", "(IIII)I"⟩, 11), (⟨"PathInterdiction$Walker", "walk", "(IIII)Z"⟩, 11), (⟨"PathInterdiction$Walker", "arrive", "(II)Z"⟩, 11), (⟨"PathInterdiction$Walker", "rank", "(I)V"⟩, 11), (⟨"PathInterdiction$AttackSearch", "grow", "(IIII)V"⟩, 12)]
theorem lw_r1 : ∀ q ∈ lw_privs_1, lw_okq q := List.forall_mem_cons.mpr ⟨lw_p0, List.forall_mem_cons.mpr ⟨lw_p1, List.forall_mem_cons.mpr ⟨lw_p2, List.forall_mem_cons.mpr ⟨lw_p3, List.forall_mem_cons.mpr ⟨lw_p4, List.forall_mem_cons.mpr ⟨lw_p5, List.forall_mem_cons.mpr ⟨lw_p6, List.forall_mem_cons.mpr ⟨lw_p7, List.forall_mem_cons.mpr ⟨lw_p8, List.forall_mem_cons.mpr ⟨lw_p9, List.forall_mem_cons.mpr ⟨lw_p10, List.forall_mem_cons.mpr ⟨lw_p11, List.forall_mem_cons.mpr ⟨lw_p12, List.forall_mem_cons.mpr ⟨lw_p13, List.forall_mem_cons.mpr ⟨lw_p14, List.forall_mem_cons.mpr ⟨lw_p15, fun _ h => absurd h List.not_mem_nil⟩⟩⟩⟩⟩⟩⟩⟩⟩⟩⟩⟩⟩⟩⟩⟩
theorem lw_p16 : lw_okq (⟨"PathInterdiction$AttackSearch", "markHelpful", "(II)V"⟩, 12) := ⟨⟨by decide +kernel, by decide +kernel⟩, List.mem_of_getElem? (i := 161) (by decide +kernel), List.mem_of_getElem? (i := 573) (by decide +kernel), List.mem_of_getElem? (i := 574) (by decide +kernel)⟩
theorem lw_p17 : lw_okq (⟨"PathInterdiction$AttackSearch", "weigh", "(III)V"⟩, 12) := ⟨⟨by decide +kernel, by decide +kernel⟩, List.mem_of_getElem? (i := 161) (by decide +kernel), List.mem_of_getElem? (i := 577) (by decide +kernel), List.mem_of_getElem? (i := 578) (by decide +kernel)⟩
theorem lw_p18 : lw_okq (⟨"PathInterdiction$AttackSearch", "isCheaper", "(II)Z"⟩, 12) := ⟨⟨by decide +kernel, by decide +kernel⟩, List.mem_of_getElem? (i := 161) (by decide +kernel), List.mem_of_getElem? (i := 582) (by decide +kernel), List.mem_of_getElem? (i := 583) (by decide +kernel)⟩
theorem lw_p19 : lw_okq (⟨"PathInterdiction$Fortifier", "hold", "(II)V"⟩, 8) := ⟨⟨by decide +kernel, by decide +kernel⟩, List.mem_of_getElem? (i := 227) (by decide +kernel), List.mem_of_getElem? (i := 625) (by decide +kernel), List.mem_of_getElem? (i := 626) (by decide +kernel)⟩
theorem lw_p20 : lw_okq (⟨"PathInterdiction$Fortifier", "isBetter", "(III)Z"⟩, 8) := ⟨⟨by decide +kernel, by decide +kernel⟩, List.mem_of_getElem? (i := 227) (by decide +kernel), List.mem_of_getElem? (i := 630) (by decide +kernel), List.mem_of_getElem? (i := 631) (by decide +kernel)⟩
theorem lw_p21 : lw_okq (⟨"PathInterdiction", "isChance", "(IIII)Z"⟩, 9) := ⟨⟨by decide +kernel, by decide +kernel⟩, List.mem_of_getElem? (i := 16) (by decide +kernel), List.mem_of_getElem? (i := 661) (by decide +kernel), List.mem_of_getElem? (i := 662) (by decide +kernel)⟩
theorem lw_p22 : lw_okq (⟨"PathInterdiction", "sumOfSubsets", "(IIIIZ)J"⟩, 9) := ⟨⟨by decide +kernel, by decide +kernel⟩, List.mem_of_getElem? (i := 16) (by decide +kernel), List.mem_of_getElem? (i := 667) (by decide +kernel), List.mem_of_getElem? (i := 668) (by decide +kernel)⟩
theorem lw_p23 : lw_okq (⟨"PathInterdictionModel", "keeps", "()V"⟩, 19) := ⟨⟨by decide +kernel, by decide +kernel⟩, List.mem_of_getElem? (i := 717) (by decide +kernel), List.mem_of_getElem? (i := 798) (by decide +kernel), List.mem_of_getElem? (i := 799) (by decide +kernel)⟩
theorem lw_p24 : lw_okq (⟨"PathInterdictionModel", "lays", "(IIIIII)V"⟩, 19) := ⟨⟨by decide +kernel, by decide +kernel⟩, List.mem_of_getElem? (i := 717) (by decide +kernel), List.mem_of_getElem? (i := 802) (by decide +kernel), List.mem_of_getElem? (i := 803) (by decide +kernel)⟩
theorem lw_p25 : lw_okq (⟨"PathInterdictionModel", "isEdge", "(I)Z"⟩, 19) := ⟨⟨by decide +kernel, by decide +kernel⟩, List.mem_of_getElem? (i := 717) (by decide +kernel), List.mem_of_getElem? (i := 810) (by decide +kernel), List.mem_of_getElem? (i := 811) (by decide +kernel)⟩
theorem lw_p26 : lw_okq (⟨"PathInterdictionModel", "of", "(II)I"⟩, 19) := ⟨⟨by decide +kernel, by decide +kernel⟩, List.mem_of_getElem? (i := 717) (by decide +kernel), List.mem_of_getElem? (i := 821) (by decide +kernel), List.mem_of_getElem? (i := 822) (by decide +kernel)⟩
theorem lw_p27 : lw_okq (⟨"PathInterdictionModel", "blanks", "()V"⟩, 19) := ⟨⟨by decide +kernel, by decide +kernel⟩, List.mem_of_getElem? (i := 717) (by decide +kernel), List.mem_of_getElem? (i := 845) (by decide +kernel), List.mem_of_getElem? (i := 846) (by decide +kernel)⟩
theorem lw_p28 : lw_okq (⟨"PathInterdictionModel", "next", "()I"⟩, 19) := ⟨⟨by decide +kernel, by decide +kernel⟩, List.mem_of_getElem? (i := 717) (by decide +kernel), List.mem_of_getElem? (i := 849) (by decide +kernel), List.mem_of_getElem? (i := 850) (by decide +kernel)⟩
theorem lw_p29 : lw_okq (⟨"PathInterdictionModel", "node", "(I)I"⟩, 19) := ⟨⟨by decide +kernel, by decide +kernel⟩, List.mem_of_getElem? (i := 717) (by decide +kernel), List.mem_of_getElem? (i := 853) (by decide +kernel), List.mem_of_getElem? (i := 854) (by decide +kernel)⟩
theorem lw_p30 : lw_okq (⟨"PathInterdictionModel", "passes", "()V"⟩, 19) := ⟨⟨by decide +kernel, by decide +kernel⟩, List.mem_of_getElem? (i := 717) (by decide +kernel), List.mem_of_getElem? (i := 857) (by decide +kernel), List.mem_of_getElem? (i := 858) (by decide +kernel)⟩
theorem lw_p31 : lw_okq (⟨"PathInterdictionModel", "number", "(Z)I"⟩, 19) := ⟨⟨by decide +kernel, by decide +kernel⟩, List.mem_of_getElem? (i := 717) (by decide +kernel), List.mem_of_getElem? (i := 861) (by decide +kernel), List.mem_of_getElem? (i := 862) (by decide +kernel)⟩
def lw_privs_2 : List (MethodName × Nat) := [(⟨"PathInterdiction$AttackSearch", "markHelpful", "(II)V"⟩, 12), (⟨"PathInterdiction$AttackSearch", "weigh", "(III)V"⟩, 12), (⟨"PathInterdiction$AttackSearch", "isCheaper", "(II)Z"⟩, 12), (⟨"PathInterdiction$Fortifier", "hold", "(II)V"⟩, 8), (⟨"PathInterdiction$Fortifier", "isBetter", "(III)Z"⟩, 8), (⟨"PathInterdiction", "isChance", "(IIII)Z"⟩, 9), (⟨"PathInterdiction", "sumOfSubsets", "(IIIIZ)J"⟩, 9), (⟨"PathInterdictionModel", "keeps", "()V"⟩, 19), (⟨"PathInterdictionModel", "lays", "(IIIIII)V"⟩, 19), (⟨"PathInterdictionModel", "isEdge", "(I)Z"⟩, 19), (⟨"PathInterdictionModel", "of", "(II)I"⟩, 19), (⟨"PathInterdictionModel", "blanks", "()V"⟩, 19), (⟨"PathInterdictionModel", "next", "()I"⟩, 19), (⟨"PathInterdictionModel", "node", "(I)I"⟩, 19), (⟨"PathInterdictionModel", "passes", "()V"⟩, 19), (⟨"PathInterdictionModel", "number", "(Z)I"⟩, 19)]
theorem lw_r2 : ∀ q ∈ lw_privs_2, lw_okq q := List.forall_mem_cons.mpr ⟨lw_p16, List.forall_mem_cons.mpr ⟨lw_p17, List.forall_mem_cons.mpr ⟨lw_p18, List.forall_mem_cons.mpr ⟨lw_p19, List.forall_mem_cons.mpr ⟨lw_p20, List.forall_mem_cons.mpr ⟨lw_p21, List.forall_mem_cons.mpr ⟨lw_p22, List.forall_mem_cons.mpr ⟨lw_p23, List.forall_mem_cons.mpr ⟨lw_p24, List.forall_mem_cons.mpr ⟨lw_p25, List.forall_mem_cons.mpr ⟨lw_p26, List.forall_mem_cons.mpr ⟨lw_p27, List.forall_mem_cons.mpr ⟨lw_p28, List.forall_mem_cons.mpr ⟨lw_p29, List.forall_mem_cons.mpr ⟨lw_p30, List.forall_mem_cons.mpr ⟨lw_p31, fun _ h => absurd h List.not_mem_nil⟩⟩⟩⟩⟩⟩⟩⟩⟩⟩⟩⟩⟩⟩⟩⟩
theorem lw_p32 : lw_okq (⟨"PathInterdictionModel", "isDigit", "()Z"⟩, 19) := ⟨⟨by decide +kernel, by decide +kernel⟩, List.mem_of_getElem? (i := 717) (by decide +kernel), List.mem_of_getElem? (i := 865) (by decide +kernel), List.mem_of_getElem? (i := 866) (by decide +kernel)⟩
theorem lw_p33 : lw_okq (⟨"PathInterdictionModel", "sign", "(I)V"⟩, 19) := ⟨⟨by decide +kernel, by decide +kernel⟩, List.mem_of_getElem? (i := 717) (by decide +kernel), List.mem_of_getElem? (i := 869) (by decide +kernel), List.mem_of_getElem? (i := 870) (by decide +kernel)⟩
theorem lw_p34 : lw_okq (⟨"PathInterdictionModel", "delay", "()I"⟩, 19) := ⟨⟨by decide +kernel, by decide +kernel⟩, List.mem_of_getElem? (i := 717) (by decide +kernel), List.mem_of_getElem? (i := 873) (by decide +kernel), List.mem_of_getElem? (i := 874) (by decide +kernel)⟩
theorem lw_p35 : lw_okq (⟨"PathInterdictionModel", "digit", "()I"⟩, 19) := ⟨⟨by decide +kernel, by decide +kernel⟩, List.mem_of_getElem? (i := 717) (by decide +kernel), List.mem_of_getElem? (i := 877) (by decide +kernel), List.mem_of_getElem? (i := 878) (by decide +kernel)⟩
theorem lw_p36 : lw_okq (⟨"PathInterdictionModel", "costOf", "(I)I"⟩, 19) := ⟨⟨by decide +kernel, by decide +kernel⟩, List.mem_of_getElem? (i := 717) (by decide +kernel), List.mem_of_getElem? (i := 890) (by decide +kernel), List.mem_of_getElem? (i := 891) (by decide +kernel)⟩
theorem lw_p37 : lw_okq (⟨"PathInterdictionModel", "isSet", "(I)Z"⟩, 19) := ⟨⟨by decide +kernel, by decide +kernel⟩, List.mem_of_getElem? (i := 717) (by decide +kernel), List.mem_of_getElem? (i := 898) (by decide +kernel), List.mem_of_getElem? (i := 899) (by decide +kernel)⟩
theorem lw_p38 : lw_okq (⟨"PathInterdictionModel", "far", "(IIII)I"⟩, 19) := ⟨⟨by decide +kernel, by decide +kernel⟩, List.mem_of_getElem? (i := 717) (by decide +kernel), List.mem_of_getElem? (i := 906) (by decide +kernel), List.mem_of_getElem? (i := 907) (by decide +kernel)⟩
theorem lw_p39 : lw_okq (⟨"PathInterdictionModel", "ways", "(III)V"⟩, 19) := ⟨⟨by decide +kernel, by decide +kernel⟩, List.mem_of_getElem? (i := 717) (by decide +kernel), List.mem_of_getElem? (i := 910) (by decide +kernel), List.mem_of_getElem? (i := 911) (by decide +kernel)⟩
theorem lw_p40 : lw_okq (⟨"PathInterdictionModel", "lengthOf", "(II)I"⟩, 19) := ⟨⟨by decide +kernel, by decide +kernel⟩, List.mem_of_getElem? (i := 717) (by decide +kernel), List.mem_of_getElem? (i := 914) (by decide +kernel), List.mem_of_getElem? (i := 915) (by decide +kernel)⟩
theorem lw_p41 : lw_okq (⟨"PathInterdictionModel", "lessens", "(II)Z"⟩, 19) := ⟨⟨by decide +kernel, by decide +kernel⟩, List.mem_of_getElem? (i := 717) (by decide +kernel), List.mem_of_getElem? (i := 918) (by decide +kernel), List.mem_of_getElem? (i := 919) (by decide +kernel)⟩
theorem lw_p42 : lw_okq (⟨"PathInterdictionModel", "starts", "(I)V"⟩, 19) := ⟨⟨by decide +kernel, by decide +kernel⟩, List.mem_of_getElem? (i := 717) (by decide +kernel), List.mem_of_getElem? (i := 926) (by decide +kernel), List.mem_of_getElem? (i := 927) (by decide +kernel)⟩
theorem lw_p43 : lw_okq (⟨"PathInterdictionModel", "nextPath", "(IIZ)Z"⟩, 19) := ⟨⟨by decide +kernel, by decide +kernel⟩, List.mem_of_getElem? (i := 717) (by decide +kernel), List.mem_of_getElem? (i := 930) (by decide +kernel), List.mem_of_getElem? (i := 931) (by decide +kernel)⟩
theorem lw_p44 : lw_okq (⟨"PathInterdictionModel", "lastNode", "(I)I"⟩, 19) := ⟨⟨by decide +kernel, by decide +kernel⟩, List.mem_of_getElem? (i := 717) (by decide +kernel), List.mem_of_getElem? (i := 934) (by decide +kernel), List.mem_of_getElem? (i := 935) (by decide +kernel)⟩
theorem lw_p45 : lw_okq (⟨"PathInterdictionModel", "back", "()V"⟩, 19) := ⟨⟨by decide +kernel, by decide +kernel⟩, List.mem_of_getElem? (i := 717) (by decide +kernel), List.mem_of_getElem? (i := 938) (by decide +kernel), List.mem_of_getElem? (i := 939) (by decide +kernel)⟩
theorem lw_p46 : lw_okq (⟨"PathInterdictionModel", "forth", "(II)Z"⟩, 19) := ⟨⟨by decide +kernel, by decide +kernel⟩, List.mem_of_getElem? (i := 717) (by decide +kernel), List.mem_of_getElem? (i := 942) (by decide +kernel), List.mem_of_getElem? (i := 943) (by decide +kernel)⟩
theorem lw_p47 : lw_okq (⟨"PathInterdictionModel", "bestFar", "(IIIII)I"⟩, 19) := ⟨⟨by decide +kernel, by decide +kernel⟩, List.mem_of_getElem? (i := 717) (by decide +kernel), List.mem_of_getElem? (i := 962) (by decide +kernel), List.mem_of_getElem? (i := 963) (by decide +kernel)⟩
def lw_privs_3 : List (MethodName × Nat) := [(⟨"PathInterdictionModel", "isDigit", "()Z"⟩, 19), (⟨"PathInterdictionModel", "sign", "(I)V"⟩, 19), (⟨"PathInterdictionModel", "delay", "()I"⟩, 19), (⟨"PathInterdictionModel", "digit", "()I"⟩, 19), (⟨"PathInterdictionModel", "costOf", "(I)I"⟩, 19), (⟨"PathInterdictionModel", "isSet", "(I)Z"⟩, 19), (⟨"PathInterdictionModel", "far", "(IIII)I"⟩, 19), (⟨"PathInterdictionModel", "ways", "(III)V"⟩, 19), (⟨"PathInterdictionModel", "lengthOf", "(II)I"⟩, 19), (⟨"PathInterdictionModel", "lessens", "(II)Z"⟩, 19), (⟨"PathInterdictionModel", "starts", "(I)V"⟩, 19), (⟨"PathInterdictionModel", "nextPath", "(IIZ)Z"⟩, 19), (⟨"PathInterdictionModel", "lastNode", "(I)I"⟩, 19), (⟨"PathInterdictionModel", "back", "()V"⟩, 19), (⟨"PathInterdictionModel", "forth", "(II)Z"⟩, 19), (⟨"PathInterdictionModel", "bestFar", "(IIIII)I"⟩, 19)]
theorem lw_r3 : ∀ q ∈ lw_privs_3, lw_okq q := List.forall_mem_cons.mpr ⟨lw_p32, List.forall_mem_cons.mpr ⟨lw_p33, List.forall_mem_cons.mpr ⟨lw_p34, List.forall_mem_cons.mpr ⟨lw_p35, List.forall_mem_cons.mpr ⟨lw_p36, List.forall_mem_cons.mpr ⟨lw_p37, List.forall_mem_cons.mpr ⟨lw_p38, List.forall_mem_cons.mpr ⟨lw_p39, List.forall_mem_cons.mpr ⟨lw_p40, List.forall_mem_cons.mpr ⟨lw_p41, List.forall_mem_cons.mpr ⟨lw_p42, List.forall_mem_cons.mpr ⟨lw_p43, List.forall_mem_cons.mpr ⟨lw_p44, List.forall_mem_cons.mpr ⟨lw_p45, List.forall_mem_cons.mpr ⟨lw_p46, List.forall_mem_cons.mpr ⟨lw_p47, fun _ h => absurd h List.not_mem_nil⟩⟩⟩⟩⟩⟩⟩⟩⟩⟩⟩⟩⟩⟩⟩⟩
theorem lw_p48 : lw_okq (⟨"PathInterdictionModel", "step", "(IIII)I"⟩, 19) := ⟨⟨by decide +kernel, by decide +kernel⟩, List.mem_of_getElem? (i := 717) (by decide +kernel), List.mem_of_getElem? (i := 970) (by decide +kernel), List.mem_of_getElem? (i := 971) (by decide +kernel)⟩
theorem lw_p49 : lw_okq (⟨"PathInterdictionModel", "isAsked", "(IIII)Z"⟩, 19) := ⟨⟨by decide +kernel, by decide +kernel⟩, List.mem_of_getElem? (i := 717) (by decide +kernel), List.mem_of_getElem? (i := 1013) (by decide +kernel), List.mem_of_getElem? (i := 1014) (by decide +kernel)⟩
theorem lw_p50 : lw_okq (⟨"PathInterdictionModel", "sum", "(IIIIZ)J"⟩, 19) := ⟨⟨by decide +kernel, by decide +kernel⟩, List.mem_of_getElem? (i := 717) (by decide +kernel), List.mem_of_getElem? (i := 1017) (by decide +kernel), List.mem_of_getElem? (i := 1018) (by decide +kernel)⟩
theorem lw_p51 : lw_okq (⟨"PathInterdictionModel", "lengths", "()I"⟩, 19) := ⟨⟨by decide +kernel, by decide +kernel⟩, List.mem_of_getElem? (i := 717) (by decide +kernel), List.mem_of_getElem? (i := 1033) (by decide +kernel), List.mem_of_getElem? (i := 1034) (by decide +kernel)⟩
theorem lw_p52 : lw_okq (⟨"PathInterdictionModel", "reachable", "()I"⟩, 19) := ⟨⟨by decide +kernel, by decide +kernel⟩, List.mem_of_getElem? (i := 717) (by decide +kernel), List.mem_of_getElem? (i := 1037) (by decide +kernel), List.mem_of_getElem? (i := 1038) (by decide +kernel)⟩
theorem lw_p53 : lw_okq (⟨"PathInterdictionModel", "mixes", "(I)V"⟩, 19) := ⟨⟨by decide +kernel, by decide +kernel⟩, List.mem_of_getElem? (i := 717) (by decide +kernel), List.mem_of_getElem? (i := 1047) (by decide +kernel), List.mem_of_getElem? (i := 1048) (by decide +kernel)⟩
def lw_privs_4 : List (MethodName × Nat) := [(⟨"PathInterdictionModel", "step", "(IIII)I"⟩, 19), (⟨"PathInterdictionModel", "isAsked", "(IIII)Z"⟩, 19), (⟨"PathInterdictionModel", "sum", "(IIIIZ)J"⟩, 19), (⟨"PathInterdictionModel", "lengths", "()I"⟩, 19), (⟨"PathInterdictionModel", "reachable", "()I"⟩, 19), (⟨"PathInterdictionModel", "mixes", "(I)V"⟩, 19)]
theorem lw_r4 : ∀ q ∈ lw_privs_4, lw_okq q := List.forall_mem_cons.mpr ⟨lw_p48, List.forall_mem_cons.mpr ⟨lw_p49, List.forall_mem_cons.mpr ⟨lw_p50, List.forall_mem_cons.mpr ⟨lw_p51, List.forall_mem_cons.mpr ⟨lw_p52, List.forall_mem_cons.mpr ⟨lw_p53, fun _ h => absurd h List.not_mem_nil⟩⟩⟩⟩⟩⟩
def lw_privs : List (MethodName × Nat) := lw_privs_1 ++ (lw_privs_2 ++ (lw_privs_3 ++ (lw_privs_4)))
def lw_tbl : List Cond := k2_sels lw_privs ++ tables_1
theorem lw_privs_ok : ∀ q ∈ lw_privs, lw_okq q := by
  show ∀ q ∈ lw_privs_1 ++ (lw_privs_2 ++ (lw_privs_3 ++ (lw_privs_4))), lw_okq q
  exact List.forall_mem_append.mpr ⟨lw_r1, List.forall_mem_append.mpr ⟨lw_r2, List.forall_mem_append.mpr ⟨lw_r3, lw_r4⟩⟩⟩
end
section
/-! NAMES (out of what TURN prints, by wip/whole/gen_names.py) -/
def RX0 : String := "PathInterdiction$AttackSearch"
def TX0 : u_T := fun k => match k with
  | 0 => ("PathInterdiction$AttackSearch", "graph", "LPathInterdiction$Graph;", true)
  | 1 => ("PathInterdiction$AttackSearch", "router", "LPathInterdiction$Router;", true)
  | 2 => ("PathInterdiction$AttackSearch", "source", "I", false)
  | 3 => ("PathInterdiction$AttackSearch", "target", "I", false)
  | 4 => ("PathInterdiction$AttackSearch", "budget", "I", false)
  | 5 => ("PathInterdiction$AttackSearch", "repairs", "I", false)
  | 6 => ("PathInterdiction$AttackSearch", "aim", "I", false)
  | 7 => ("PathInterdiction$AttackSearch", "marking", "Z", false)
  | 8 => ("PathInterdiction$AttackSearch", "reached", "I", false)
  | 9 => ("PathInterdiction$AttackSearch", "price", "I", false)
  | 10 => ("PathInterdiction$AttackSearch", "chosen", "I", false)
  | _ => ("PathInterdiction$AttackSearch", "helpful", "I", false)
def tyX0 : Nat → FieldType := fun k => match k with
  | 0 => .object "PathInterdiction$Graph"
  | 1 => .object "PathInterdiction$Router"
  | 2 => .int
  | 3 => .int
  | 4 => .int
  | 5 => .int
  | 6 => .int
  | 7 => .boolean
  | 8 => .int
  | 9 => .int
  | 10 => .int
  | _ => .int
theorem nmX0 : ∀ a, a < 12 → ∀ b, b < 12 → a ≠ b → (TX0 a).2.1 ≠ (TX0 b).2.1 := by decide +kernel
theorem tyX0_ok : ∀ k, k < 12 → parseFieldDescriptor (TX0 k).2.2.1 = some (tyX0 k) := by decide +kernel
abbrev cX0_init : ByteArray := prog_2_method_1_code
def yX0_init : MethodName := ⟨RX0, "<init>", "(LPathInterdiction$Graph;LPathInterdiction$Router;)V"⟩
abbrev cX0_seekBest : ByteArray := prog_2_method_2_code
def yX0_seekBest : MethodName := ⟨RX0, "seekBest", "(IIIIII)V"⟩
abbrev cX0_seekHelpful : ByteArray := prog_2_method_3_code
def yX0_seekHelpful : MethodName := ⟨RX0, "seekHelpful", "(III)V"⟩
abbrev cX0_grow : ByteArray := prog_2_method_4_code
def yX0_grow : MethodName := ⟨RX0, "grow", "(IIII)V"⟩
abbrev cX0_weigh : ByteArray := prog_2_method_5_code
def yX0_weigh : MethodName := ⟨RX0, "weigh", "(III)V"⟩
abbrev cX0_isCheaper : ByteArray := prog_2_method_6_code
def yX0_isCheaper : MethodName := ⟨RX0, "isCheaper", "(II)Z"⟩
abbrev cX0_markHelpful : ByteArray := prog_2_method_7_code
def yX0_markHelpful : MethodName := ⟨RX0, "markHelpful", "(II)V"⟩
def RX1 : String := "PathInterdiction$Fortifier"
def TX1 : u_T := fun k => match k with
  | 0 => ("PathInterdiction$Fortifier", "graph", "LPathInterdiction$Graph;", true)
  | 1 => ("PathInterdiction$Fortifier", "search", "LPathInterdiction$AttackSearch;", true)
  | 2 => ("PathInterdiction$Fortifier", "source", "I", false)
  | 3 => ("PathInterdiction$Fortifier", "target", "I", false)
  | 4 => ("PathInterdiction$Fortifier", "budget", "I", false)
  | 5 => ("PathInterdiction$Fortifier", "most", "I", false)
  | 6 => ("PathInterdiction$Fortifier", "reached", "I", false)
  | _ => ("PathInterdiction$Fortifier", "chosen", "I", false)
def tyX1 : Nat → FieldType := fun k => match k with
  | 0 => .object "PathInterdiction$Graph"
  | 1 => .object "PathInterdiction$AttackSearch"
  | 2 => .int
  | 3 => .int
  | 4 => .int
  | 5 => .int
  | 6 => .int
  | _ => .int
theorem nmX1 : ∀ a, a < 8 → ∀ b, b < 8 → a ≠ b → (TX1 a).2.1 ≠ (TX1 b).2.1 := by decide +kernel
theorem tyX1_ok : ∀ k, k < 8 → parseFieldDescriptor (TX1 k).2.2.1 = some (tyX1 k) := by decide +kernel
abbrev cX1_init : ByteArray := prog_3_method_1_code
def yX1_init : MethodName := ⟨RX1, "<init>", "(LPathInterdiction$Graph;LPathInterdiction$AttackSearch;)V"⟩
abbrev cX1_seek : ByteArray := prog_3_method_2_code
def yX1_seek : MethodName := ⟨RX1, "seek", "(IIII)I"⟩
abbrev cX1_hold : ByteArray := prog_3_method_3_code
def yX1_hold : MethodName := ⟨RX1, "hold", "(II)V"⟩
abbrev cX1_isBetter : ByteArray := prog_3_method_4_code
def yX1_isBetter : MethodName := ⟨RX1, "isBetter", "(III)Z"⟩
def RX2 : String := "PathInterdiction$Graph"
def TX2 : u_T := fun k => match k with
  | 0 => ("PathInterdiction$Graph", "codes", "[I", true)
  | 1 => ("PathInterdiction$Graph", "size", "I", false)
  | _ => ("PathInterdiction$Graph", "attacked", "I", false)
def tyX2 : Nat → FieldType := fun k => match k with
  | 0 => .array .int
  | 1 => .int
  | _ => .int
theorem nmX2 : ∀ a, a < 3 → ∀ b, b < 3 → a ≠ b → (TX2 a).2.1 ≠ (TX2 b).2.1 := by decide +kernel
theorem tyX2_ok : ∀ k, k < 3 → parseFieldDescriptor (TX2 k).2.2.1 = some (tyX2 k) := by decide +kernel
abbrev cX2_init : ByteArray := prog_4_method_1_code
def yX2_init : MethodName := ⟨RX2, "<init>", "()V"⟩
abbrev cX2_pack : ByteArray := prog_4_method_2_code
def yX2_pack : MethodName := ⟨RX2, "pack", "(IIIII)I"⟩
abbrev cX2_isValue : ByteArray := prog_4_method_3_code
def yX2_isValue : MethodName := ⟨RX2, "isValue", "(II)Z"⟩
abbrev cX2_has : ByteArray := prog_4_method_4_code
def yX2_has : MethodName := ⟨RX2, "has", "(I)Z"⟩
abbrev cX2_all : ByteArray := prog_4_method_5_code
def yX2_all : MethodName := ⟨RX2, "all", "()I"⟩
abbrev cX2_hasAll : ByteArray := prog_4_method_6_code
def yX2_hasAll : MethodName := ⟨RX2, "hasAll", "(I)Z"⟩
abbrev cX2_part : ByteArray := prog_4_method_7_code
def yX2_part : MethodName := ⟨RX2, "part", "(II)I"⟩
abbrev cX2_setPart : ByteArray := prog_4_method_8_code
def yX2_setPart : MethodName := ⟨RX2, "setPart", "(III)V"⟩
abbrev cX2_from : ByteArray := prog_4_method_9_code
def yX2_from : MethodName := ⟨RX2, "from", "(I)I"⟩
abbrev cX2_to : ByteArray := prog_4_method_10_code
def yX2_to : MethodName := ⟨RX2, "to", "(I)I"⟩
abbrev cX2_cost : ByteArray := prog_4_method_11_code
def yX2_cost : MethodName := ⟨RX2, "cost", "(I)I"⟩
abbrev cX2_plainLength : ByteArray := prog_4_method_12_code
def yX2_plainLength : MethodName := ⟨RX2, "plainLength", "(I)I"⟩
abbrev cX2_fillLengths : ByteArray := prog_4_method_13_code
def yX2_fillLengths : MethodName := ⟨RX2, "fillLengths", "(I[I)V"⟩
abbrev cX2_append : ByteArray := prog_4_method_14_code
def yX2_append : MethodName := ⟨RX2, "append", "(I)V"⟩
abbrev cX2_delete : ByteArray := prog_4_method_15_code
def yX2_delete : MethodName := ⟨RX2, "delete", "(I)V"⟩
abbrev cX2_empty : ByteArray := prog_4_method_16_code
def yX2_empty : MethodName := ⟨RX2, "empty", "()V"⟩
abbrev cX2_costOfSet : ByteArray := prog_4_method_17_code
def yX2_costOfSet : MethodName := ⟨RX2, "costOfSet", "(I)I"⟩
abbrev cX2_sumOfLengths : ByteArray := prog_4_method_18_code
def yX2_sumOfLengths : MethodName := ⟨RX2, "sumOfLengths", "()I"⟩
abbrev cX2_costOfBorder : ByteArray := prog_4_method_19_code
def yX2_costOfBorder : MethodName := ⟨RX2, "costOfBorder", "(I)I"⟩
abbrev cX2_copyTo : ByteArray := prog_4_method_20_code
def yX2_copyTo : MethodName := ⟨RX2, "copyTo", "([II)V"⟩
abbrev cX2_copyFrom : ByteArray := prog_4_method_21_code
def yX2_copyFrom : MethodName := ⟨RX2, "copyFrom", "([II)V"⟩
def RX3 : String := "PathInterdiction$GreedyAttack"
def TX3 : u_T := fun k => match k with
  | 0 => ("PathInterdiction$GreedyAttack", "graph", "LPathInterdiction$Graph;", true)
  | 1 => ("PathInterdiction$GreedyAttack", "router", "LPathInterdiction$Router;", true)
  | _ => ("PathInterdiction$GreedyAttack", "chosen", "I", false)
def tyX3 : Nat → FieldType := fun k => match k with
  | 0 => .object "PathInterdiction$Graph"
  | 1 => .object "PathInterdiction$Router"
  | _ => .int
theorem nmX3 : ∀ a, a < 3 → ∀ b, b < 3 → a ≠ b → (TX3 a).2.1 ≠ (TX3 b).2.1 := by decide +kernel
theorem tyX3_ok : ∀ k, k < 3 → parseFieldDescriptor (TX3 k).2.2.1 = some (tyX3 k) := by decide +kernel
abbrev cX3_init : ByteArray := prog_5_method_1_code
def yX3_init : MethodName := ⟨RX3, "<init>", "(LPathInterdiction$Graph;LPathInterdiction$Router;)V"⟩
abbrev cX3_seek : ByteArray := prog_5_method_2_code
def yX3_seek : MethodName := ⟨RX3, "seek", "(III)I"⟩
def RX4 : String := "PathInterdiction$History"
def TX4 : u_T := fun k => match k with
  | 0 => ("PathInterdiction$History", "rows", "[I", true)
  | 1 => ("PathInterdiction$History", "oldest", "I", false)
  | _ => ("PathInterdiction$History", "held", "I", false)
def tyX4 : Nat → FieldType := fun k => match k with
  | 0 => .array .int
  | 1 => .int
  | _ => .int
theorem nmX4 : ∀ a, a < 3 → ∀ b, b < 3 → a ≠ b → (TX4 a).2.1 ≠ (TX4 b).2.1 := by decide +kernel
theorem tyX4_ok : ∀ k, k < 3 → parseFieldDescriptor (TX4 k).2.2.1 = some (tyX4 k) := by decide +kernel
abbrev cX4_init : ByteArray := prog_6_method_1_code
def yX4_init : MethodName := ⟨RX4, "<init>", "()V"⟩
abbrev cX4_keep : ByteArray := prog_6_method_2_code
def yX4_keep : MethodName := ⟨RX4, "keep", "(LPathInterdiction$Graph;)V"⟩
abbrev cX4_bringBack : ByteArray := prog_6_method_3_code
def yX4_bringBack : MethodName := ⟨RX4, "bringBack", "(LPathInterdiction$Graph;)Z"⟩
def RX5 : String := "PathInterdiction$Router"
def TX5 : u_T := fun k => match k with
  | 0 => ("PathInterdiction$Router", "graph", "LPathInterdiction$Graph;", true)
  | 1 => ("PathInterdiction$Router", "lengths", "[I", true)
  | 2 => ("PathInterdiction$Router", "distances", "[I", true)
  | 3 => ("PathInterdiction$Router", "used", "[I", true)
  | 4 => ("PathInterdiction$Router", "distancesBefore", "[I", true)
  | 5 => ("PathInterdiction$Router", "usedBefore", "[I", true)
  | _ => ("PathInterdiction$Router", "onward", "[I", true)
def tyX5 : Nat → FieldType := fun k => match k with
  | 0 => .object "PathInterdiction$Graph"
  | 1 => .array .int
  | 2 => .array .int
  | 3 => .array .int
  | 4 => .array .int
  | 5 => .array .int
  | _ => .array .int
theorem nmX5 : ∀ a, a < 7 → ∀ b, b < 7 → a ≠ b → (TX5 a).2.1 ≠ (TX5 b).2.1 := by decide +kernel
theorem tyX5_ok : ∀ k, k < 7 → parseFieldDescriptor (TX5 k).2.2.1 = some (tyX5 k) := by decide +kernel
abbrev cX5_init : ByteArray := prog_7_method_1_code
def yX5_init : MethodName := ⟨RX5, "<init>", "(LPathInterdiction$Graph;)V"⟩
abbrev cX5_measure : ByteArray := prog_7_method_2_code
def yX5_measure : MethodName := ⟨RX5, "measure", "(IIII)I"⟩
abbrev cX5_distanceTo : ByteArray := prog_7_method_3_code
def yX5_distanceTo : MethodName := ⟨RX5, "distanceTo", "(I)I"⟩
abbrev cX5_usedTo : ByteArray := prog_7_method_4_code
def yX5_usedTo : MethodName := ⟨RX5, "usedTo", "(I)I"⟩
abbrev cX5_run : ByteArray := prog_7_method_5_code
def yX5_run : MethodName := ⟨RX5, "run", "(III)V"⟩
abbrev cX5_settle : ByteArray := prog_7_method_6_code
def yX5_settle : MethodName := ⟨RX5, "settle", "()V"⟩
abbrev cX5_repairOnce : ByteArray := prog_7_method_7_code
def yX5_repairOnce : MethodName := ⟨RX5, "repairOnce", "(I)V"⟩
abbrev cX5_tightEdges : ByteArray := prog_7_method_8_code
def yX5_tightEdges : MethodName := ⟨RX5, "tightEdges", "(III)I"⟩
abbrev cX5_reachablePairs : ByteArray := prog_7_method_9_code
def yX5_reachablePairs : MethodName := ⟨RX5, "reachablePairs", "(I)I"⟩
def RX6 : String := "PathInterdiction$Text"
def TX6 : u_T := fun k => match k with
  | 0 => ("PathInterdiction$Text", "letters", "[B", true)
  | 1 => ("PathInterdiction$Text", "codes", "[I", true)
  | 2 => ("PathInterdiction$Text", "size", "I", false)
  | 3 => ("PathInterdiction$Text", "edges", "I", false)
  | _ => ("PathInterdiction$Text", "at", "I", false)
def tyX6 : Nat → FieldType := fun k => match k with
  | 0 => .array .byte
  | 1 => .array .int
  | 2 => .int
  | 3 => .int
  | _ => .int
theorem nmX6 : ∀ a, a < 5 → ∀ b, b < 5 → a ≠ b → (TX6 a).2.1 ≠ (TX6 b).2.1 := by decide +kernel
theorem tyX6_ok : ∀ k, k < 5 → parseFieldDescriptor (TX6 k).2.2.1 = some (tyX6 k) := by decide +kernel
abbrev cX6_init : ByteArray := prog_8_method_1_code
def yX6_init : MethodName := ⟨RX6, "<init>", "()V"⟩
abbrev cX6_append : ByteArray := prog_8_method_2_code
def yX6_append : MethodName := ⟨RX6, "append", "(I)Z"⟩
abbrev cX6_letterAt : ByteArray := prog_8_method_3_code
def yX6_letterAt : MethodName := ⟨RX6, "letterAt", "(I)I"⟩
abbrev cX6_codeOf : ByteArray := prog_8_method_4_code
def yX6_codeOf : MethodName := ⟨RX6, "codeOf", "(I)I"⟩
abbrev cX6_scan : ByteArray := prog_8_method_5_code
def yX6_scan : MethodName := ⟨RX6, "scan", "()I"⟩
abbrev cX6_readEdge : ByteArray := prog_8_method_6_code
def yX6_readEdge : MethodName := ⟨RX6, "readEdge", "()Z"⟩
abbrev cX6_readNode : ByteArray := prog_8_method_7_code
def yX6_readNode : MethodName := ⟨RX6, "readNode", "()I"⟩
abbrev cX6_readOtherNode : ByteArray := prog_8_method_8_code
def yX6_readOtherNode : MethodName := ⟨RX6, "readOtherNode", "(I)I"⟩
abbrev cX6_readNumber : ByteArray := prog_8_method_9_code
def yX6_readNumber : MethodName := ⟨RX6, "readNumber", "()I"⟩
abbrev cX6_readDelay : ByteArray := prog_8_method_10_code
def yX6_readDelay : MethodName := ⟨RX6, "readDelay", "()I"⟩
abbrev cX6_readCost : ByteArray := prog_8_method_11_code
def yX6_readCost : MethodName := ⟨RX6, "readCost", "()I"⟩
abbrev cX6_readSign : ByteArray := prog_8_method_12_code
def yX6_readSign : MethodName := ⟨RX6, "readSign", "(C)Z"⟩
abbrev cX6_skipBlanks : ByteArray := prog_8_method_13_code
def yX6_skipBlanks : MethodName := ⟨RX6, "skipBlanks", "()V"⟩
abbrev cX6_digitAt : ByteArray := prog_8_method_14_code
def yX6_digitAt : MethodName := ⟨RX6, "digitAt", "(I)I"⟩
def RX7 : String := "PathInterdiction$Walker"
def TX7 : u_T := fun k => match k with
  | 0 => ("PathInterdiction$Walker", "graph", "LPathInterdiction$Graph;", true)
  | 1 => ("PathInterdiction$Walker", "lengths", "[I", true)
  | 2 => ("PathInterdiction$Walker", "trail", "[I", true)
  | 3 => ("PathInterdiction$Walker", "trailSize", "I", false)
  | 4 => ("PathInterdiction$Walker", "least", "[I", true)
  | 5 => ("PathInterdiction$Walker", "leastSize", "I", false)
  | 6 => ("PathInterdiction$Walker", "leastWanted", "I", false)
  | 7 => ("PathInterdiction$Walker", "target", "I", false)
  | 8 => ("PathInterdiction$Walker", "limit", "I", false)
  | 9 => ("PathInterdiction$Walker", "arrivals", "I", false)
  | _ => ("PathInterdiction$Walker", "onlyFirst", "Z", false)
def tyX7 : Nat → FieldType := fun k => match k with
  | 0 => .object "PathInterdiction$Graph"
  | 1 => .array .int
  | 2 => .array .int
  | 3 => .int
  | 4 => .array .int
  | 5 => .int
  | 6 => .int
  | 7 => .int
  | 8 => .int
  | 9 => .int
  | _ => .boolean
theorem nmX7 : ∀ a, a < 11 → ∀ b, b < 11 → a ≠ b → (TX7 a).2.1 ≠ (TX7 b).2.1 := by decide +kernel
theorem tyX7_ok : ∀ k, k < 11 → parseFieldDescriptor (TX7 k).2.2.1 = some (tyX7 k) := by decide +kernel
abbrev cX7_init : ByteArray := prog_9_method_1_code
def yX7_init : MethodName := ⟨RX7, "<init>", "(LPathInterdiction$Graph;)V"⟩
abbrev cX7_findFirst : ByteArray := prog_9_method_2_code
def yX7_findFirst : MethodName := ⟨RX7, "findFirst", "(III)Z"⟩
abbrev cX7_trailEdge : ByteArray := prog_9_method_3_code
def yX7_trailEdge : MethodName := ⟨RX7, "trailEdge", "(I)I"⟩
abbrev cX7_countUpTo : ByteArray := prog_9_method_4_code
def yX7_countUpTo : MethodName := ⟨RX7, "countUpTo", "(III)I"⟩
abbrev cX7_rankedLength : ByteArray := prog_9_method_5_code
def yX7_rankedLength : MethodName := ⟨RX7, "rankedLength", "(III)I"⟩
abbrev cX7_begin : ByteArray := prog_9_method_6_code
def yX7_begin : MethodName := ⟨RX7, "begin", "(IIII)I"⟩
abbrev cX7_walk : ByteArray := prog_9_method_7_code
def yX7_walk : MethodName := ⟨RX7, "walk", "(IIII)Z"⟩
abbrev cX7_arrive : ByteArray := prog_9_method_8_code
def yX7_arrive : MethodName := ⟨RX7, "arrive", "(II)Z"⟩
abbrev cX7_rank : ByteArray := prog_9_method_9_code
def yX7_rank : MethodName := ⟨RX7, "rank", "(I)V"⟩
def RX8 : String := "PathInterdiction"
def TX8 : u_T := fun k => match k with
  | 0 => ("PathInterdiction", "graph", "LPathInterdiction$Graph;", true)
  | 1 => ("PathInterdiction", "history", "LPathInterdiction$History;", true)
  | 2 => ("PathInterdiction", "text", "LPathInterdiction$Text;", true)
  | 3 => ("PathInterdiction", "router", "LPathInterdiction$Router;", true)
  | 4 => ("PathInterdiction", "walker", "LPathInterdiction$Walker;", true)
  | 5 => ("PathInterdiction", "search", "LPathInterdiction$AttackSearch;", true)
  | 6 => ("PathInterdiction", "greedyAttack", "LPathInterdiction$GreedyAttack;", true)
  | 7 => ("PathInterdiction", "fortifier", "LPathInterdiction$Fortifier;", true)
  | _ => ("PathInterdiction", "found", "I", false)
def tyX8 : Nat → FieldType := fun k => match k with
  | 0 => .object "PathInterdiction$Graph"
  | 1 => .object "PathInterdiction$History"
  | 2 => .object "PathInterdiction$Text"
  | 3 => .object "PathInterdiction$Router"
  | 4 => .object "PathInterdiction$Walker"
  | 5 => .object "PathInterdiction$AttackSearch"
  | 6 => .object "PathInterdiction$GreedyAttack"
  | 7 => .object "PathInterdiction$Fortifier"
  | _ => .int
theorem nmX8 : ∀ a, a < 9 → ∀ b, b < 9 → a ≠ b → (TX8 a).2.1 ≠ (TX8 b).2.1 := by decide +kernel
theorem tyX8_ok : ∀ k, k < 9 → parseFieldDescriptor (TX8 k).2.2.1 = some (tyX8 k) := by decide +kernel
abbrev cX8_init : ByteArray := prog_1_method_1_code
def yX8_init : MethodName := ⟨RX8, "<init>", "()V"⟩
abbrev cX8_addEdge : ByteArray := prog_1_method_2_code
def yX8_addEdge : MethodName := ⟨RX8, "addEdge", "(IIIII)I"⟩
abbrev cX8_removeEdge : ByteArray := prog_1_method_3_code
def yX8_removeEdge : MethodName := ⟨RX8, "removeEdge", "(I)I"⟩
abbrev cX8_setEdge : ByteArray := prog_1_method_4_code
def yX8_setEdge : MethodName := ⟨RX8, "setEdge", "(III)I"⟩
abbrev cX8_edge : ByteArray := prog_1_method_5_code
def yX8_edge : MethodName := ⟨RX8, "edge", "(II)I"⟩
abbrev cX8_clear : ByteArray := prog_1_method_6_code
def yX8_clear : MethodName := ⟨RX8, "clear", "()I"⟩
abbrev cX8_type : ByteArray := prog_1_method_7_code
def yX8_type : MethodName := ⟨RX8, "type", "(I)I"⟩
abbrev cX8_clearText : ByteArray := prog_1_method_8_code
def yX8_clearText : MethodName := ⟨RX8, "clearText", "()I"⟩
abbrev cX8_fault : ByteArray := prog_1_method_9_code
def yX8_fault : MethodName := ⟨RX8, "fault", "()I"⟩
abbrev cX8_load : ByteArray := prog_1_method_10_code
def yX8_load : MethodName := ⟨RX8, "load", "()I"⟩
abbrev cX8_attack : ByteArray := prog_1_method_11_code
def yX8_attack : MethodName := ⟨RX8, "attack", "(IZ)I"⟩
abbrev cX8_setAttack : ByteArray := prog_1_method_12_code
def yX8_setAttack : MethodName := ⟨RX8, "setAttack", "(I)I"⟩
abbrev cX8_distance : ByteArray := prog_1_method_13_code
def yX8_distance : MethodName := ⟨RX8, "distance", "(II)I"⟩
abbrev cX8_first : ByteArray := prog_1_method_14_code
def yX8_first : MethodName := ⟨RX8, "first", "(III)I"⟩
abbrev cX8_paths : ByteArray := prog_1_method_15_code
def yX8_paths : MethodName := ⟨RX8, "paths", "(III)I"⟩
abbrev cX8_pathLength : ByteArray := prog_1_method_16_code
def yX8_pathLength : MethodName := ⟨RX8, "pathLength", "(III)I"⟩
abbrev cX8_tight : ByteArray := prog_1_method_17_code
def yX8_tight : MethodName := ⟨RX8, "tight", "(II)I"⟩
abbrev cX8_interdict : ByteArray := prog_1_method_18_code
def yX8_interdict : MethodName := ⟨RX8, "interdict", "(III)I"⟩
abbrev cX8_greedy : ByteArray := prog_1_method_19_code
def yX8_greedy : MethodName := ⟨RX8, "greedy", "(III)I"⟩
abbrev cX8_budgetFor : ByteArray := prog_1_method_20_code
def yX8_budgetFor : MethodName := ⟨RX8, "budgetFor", "(III)I"⟩
abbrev cX8_blockade : ByteArray := prog_1_method_21_code
def yX8_blockade : MethodName := ⟨RX8, "blockade", "(II)I"⟩
abbrev cX8_respond : ByteArray := prog_1_method_22_code
def yX8_respond : MethodName := ⟨RX8, "respond", "(IIII)I"⟩
abbrev cX8_interdictResponse : ByteArray := prog_1_method_23_code
def yX8_interdictResponse : MethodName := ⟨RX8, "interdictResponse", "(IIII)I"⟩
abbrev cX8_fortify : ByteArray := prog_1_method_24_code
def yX8_fortify : MethodName := ⟨RX8, "fortify", "(IIII)I"⟩
abbrev cX8_finding : ByteArray := prog_1_method_25_code
def yX8_finding : MethodName := ⟨RX8, "finding", "()I"⟩
abbrev cX8_worth : ByteArray := prog_1_method_26_code
def yX8_worth : MethodName := ⟨RX8, "worth", "(III)I"⟩
abbrev cX8_neverHelps : ByteArray := prog_1_method_27_code
def yX8_neverHelps : MethodName := ⟨RX8, "neverHelps", "(III)I"⟩
abbrev cX8_expected : ByteArray := prog_1_method_28_code
def yX8_expected : MethodName := ⟨RX8, "expected", "(IIII)J"⟩
abbrev cX8_lost : ByteArray := prog_1_method_29_code
def yX8_lost : MethodName := ⟨RX8, "lost", "(IIII)J"⟩
abbrev cX8_undo : ByteArray := prog_1_method_30_code
def yX8_undo : MethodName := ⟨RX8, "undo", "()I"⟩
abbrev cX8_count : ByteArray := prog_1_method_31_code
def yX8_count : MethodName := ⟨RX8, "count", "(I)I"⟩
abbrev cX8_digest : ByteArray := prog_1_method_32_code
def yX8_digest : MethodName := ⟨RX8, "digest", "()J"⟩
abbrev cX8_areNodes : ByteArray := prog_1_method_33_code
def yX8_areNodes : MethodName := ⟨RX8, "areNodes", "(II)Z"⟩
abbrev cX8_isWithin : ByteArray := prog_1_method_34_code
def yX8_isWithin : MethodName := ⟨RX8, "isWithin", "(II)Z"⟩
abbrev cX8_isChance : ByteArray := prog_1_method_35_code
def yX8_isChance : MethodName := ⟨RX8, "isChance", "(IIII)Z"⟩
abbrev cX8_sumOfSubsets : ByteArray := prog_1_method_36_code
def yX8_sumOfSubsets : MethodName := ⟨RX8, "sumOfSubsets", "(IIIIZ)J"⟩
abbrev cX8_power : ByteArray := prog_1_method_37_code
def yX8_power : MethodName := ⟨RX8, "power", "(JI)J"⟩
def RX9 : String := "PathInterdictionModel"
def TX9 : u_T := fun k => match k with
  | 0 => ("PathInterdictionModel", "m", "[I", true)
  | 1 => ("PathInterdictionModel", "past", "[I", true)
  | 2 => ("PathInterdictionModel", "undos", "I", false)
  | 3 => ("PathInterdictionModel", "finding", "I", false)
  | 4 => ("PathInterdictionModel", "text", "[I", true)
  | 5 => ("PathInterdictionModel", "textLength", "I", false)
  | 6 => ("PathInterdictionModel", "read", "[I", true)
  | 7 => ("PathInterdictionModel", "reads", "I", false)
  | 8 => ("PathInterdictionModel", "at", "I", false)
  | 9 => ("PathInterdictionModel", "good", "Z", false)
  | 10 => ("PathInterdictionModel", "way", "[I", true)
  | 11 => ("PathInterdictionModel", "path", "[I", true)
  | 12 => ("PathInterdictionModel", "steps", "I", false)
  | 13 => ("PathInterdictionModel", "long0", "I", false)
  | 14 => ("PathInterdictionModel", "nodes", "I", false)
  | 15 => ("PathInterdictionModel", "lengths", "[I", true)
  | 16 => ("PathInterdictionModel", "best", "[I", true)
  | 17 => ("PathInterdictionModel", "bestSet", "I", false)
  | _ => ("PathInterdictionModel", "hash", "J", false)
def tyX9 : Nat → FieldType := fun k => match k with
  | 0 => .array .int
  | 1 => .array .int
  | 2 => .int
  | 3 => .int
  | 4 => .array .int
  | 5 => .int
  | 6 => .array .int
  | 7 => .int
  | 8 => .int
  | 9 => .boolean
  | 10 => .array .int
  | 11 => .array .int
  | 12 => .int
  | 13 => .int
  | 14 => .int
  | 15 => .array .int
  | 16 => .array .int
  | 17 => .int
  | _ => .long
theorem nmX9 : ∀ a, a < 19 → ∀ b, b < 19 → a ≠ b → (TX9 a).2.1 ≠ (TX9 b).2.1 := by decide +kernel
theorem tyX9_ok : ∀ k, k < 19 → parseFieldDescriptor (TX9 k).2.2.1 = some (tyX9 k) := by decide +kernel
abbrev cX9_init : ByteArray := prog_11_method_1_code
def yX9_init : MethodName := ⟨RX9, "<init>", "()V"⟩
abbrev cX9_in : ByteArray := prog_11_method_2_code
def yX9_in : MethodName := ⟨RX9, "in", "(III)Z"⟩
abbrev cX9_areNodes : ByteArray := prog_11_method_3_code
def yX9_areNodes : MethodName := ⟨RX9, "areNodes", "(II)Z"⟩
abbrev cX9_of : ByteArray := prog_11_method_4_code
def yX9_of : MethodName := ⟨RX9, "of", "(II)I"⟩
abbrev cX9_isEdge : ByteArray := prog_11_method_5_code
def yX9_isEdge : MethodName := ⟨RX9, "isEdge", "(I)Z"⟩
abbrev cX9_isSet : ByteArray := prog_11_method_6_code
def yX9_isSet : MethodName := ⟨RX9, "isSet", "(I)Z"⟩
abbrev cX9_has : ByteArray := prog_11_method_7_code
def yX9_has : MethodName := ⟨RX9, "has", "(II)Z"⟩
abbrev cX9_costOf : ByteArray := prog_11_method_8_code
def yX9_costOf : MethodName := ⟨RX9, "costOf", "(I)I"⟩
abbrev cX9_many : ByteArray := prog_11_method_9_code
def yX9_many : MethodName := ⟨RX9, "many", "(I)I"⟩
abbrev cX9_keeps : ByteArray := prog_11_method_10_code
def yX9_keeps : MethodName := ⟨RX9, "keeps", "()V"⟩
abbrev cX9_undo : ByteArray := prog_11_method_11_code
def yX9_undo : MethodName := ⟨RX9, "undo", "()I"⟩
abbrev cX9_isValue : ByteArray := prog_11_method_12_code
def yX9_isValue : MethodName := ⟨RX9, "isValue", "(II)Z"⟩
abbrev cX9_lays : ByteArray := prog_11_method_13_code
def yX9_lays : MethodName := ⟨RX9, "lays", "(IIIIII)V"⟩
abbrev cX9_addEdge : ByteArray := prog_11_method_14_code
def yX9_addEdge : MethodName := ⟨RX9, "addEdge", "(IIIII)I"⟩
abbrev cX9_removeEdge : ByteArray := prog_11_method_15_code
def yX9_removeEdge : MethodName := ⟨RX9, "removeEdge", "(I)I"⟩
abbrev cX9_setEdge : ByteArray := prog_11_method_16_code
def yX9_setEdge : MethodName := ⟨RX9, "setEdge", "(III)I"⟩
abbrev cX9_edge : ByteArray := prog_11_method_17_code
def yX9_edge : MethodName := ⟨RX9, "edge", "(II)I"⟩
abbrev cX9_clear : ByteArray := prog_11_method_18_code
def yX9_clear : MethodName := ⟨RX9, "clear", "()I"⟩
abbrev cX9_type : ByteArray := prog_11_method_19_code
def yX9_type : MethodName := ⟨RX9, "type", "(I)I"⟩
abbrev cX9_clearText : ByteArray := prog_11_method_20_code
def yX9_clearText : MethodName := ⟨RX9, "clearText", "()I"⟩
abbrev cX9_next : ByteArray := prog_11_method_21_code
def yX9_next : MethodName := ⟨RX9, "next", "()I"⟩
abbrev cX9_passes : ByteArray := prog_11_method_22_code
def yX9_passes : MethodName := ⟨RX9, "passes", "()V"⟩
abbrev cX9_blanks : ByteArray := prog_11_method_23_code
def yX9_blanks : MethodName := ⟨RX9, "blanks", "()V"⟩
abbrev cX9_node : ByteArray := prog_11_method_24_code
def yX9_node : MethodName := ⟨RX9, "node", "(I)I"⟩
abbrev cX9_isDigit : ByteArray := prog_11_method_25_code
def yX9_isDigit : MethodName := ⟨RX9, "isDigit", "()Z"⟩
abbrev cX9_number : ByteArray := prog_11_method_26_code
def yX9_number : MethodName := ⟨RX9, "number", "(Z)I"⟩
abbrev cX9_sign : ByteArray := prog_11_method_27_code
def yX9_sign : MethodName := ⟨RX9, "sign", "(I)V"⟩
abbrev cX9_delay : ByteArray := prog_11_method_28_code
def yX9_delay : MethodName := ⟨RX9, "delay", "()I"⟩
abbrev cX9_digit : ByteArray := prog_11_method_29_code
def yX9_digit : MethodName := ⟨RX9, "digit", "()I"⟩
abbrev cX9_fault : ByteArray := prog_11_method_30_code
def yX9_fault : MethodName := ⟨RX9, "fault", "()I"⟩
abbrev cX9_load : ByteArray := prog_11_method_31_code
def yX9_load : MethodName := ⟨RX9, "load", "()I"⟩
abbrev cX9_attack : ByteArray := prog_11_method_32_code
def yX9_attack : MethodName := ⟨RX9, "attack", "(IZ)I"⟩
abbrev cX9_setAttack : ByteArray := prog_11_method_33_code
def yX9_setAttack : MethodName := ⟨RX9, "setAttack", "(I)I"⟩
abbrev cX9_lengthOf : ByteArray := prog_11_method_34_code
def yX9_lengthOf : MethodName := ⟨RX9, "lengthOf", "(II)I"⟩
abbrev cX9_lessens : ByteArray := prog_11_method_35_code
def yX9_lessens : MethodName := ⟨RX9, "lessens", "(II)Z"⟩
abbrev cX9_ways : ByteArray := prog_11_method_36_code
def yX9_ways : MethodName := ⟨RX9, "ways", "(III)V"⟩
abbrev cX9_far : ByteArray := prog_11_method_37_code
def yX9_far : MethodName := ⟨RX9, "far", "(IIII)I"⟩
abbrev cX9_distance : ByteArray := prog_11_method_38_code
def yX9_distance : MethodName := ⟨RX9, "distance", "(II)I"⟩
abbrev cX9_starts : ByteArray := prog_11_method_39_code
def yX9_starts : MethodName := ⟨RX9, "starts", "(I)V"⟩
abbrev cX9_lastNode : ByteArray := prog_11_method_40_code
def yX9_lastNode : MethodName := ⟨RX9, "lastNode", "(I)I"⟩
abbrev cX9_back : ByteArray := prog_11_method_41_code
def yX9_back : MethodName := ⟨RX9, "back", "()V"⟩
abbrev cX9_forth : ByteArray := prog_11_method_42_code
def yX9_forth : MethodName := ⟨RX9, "forth", "(II)Z"⟩
abbrev cX9_nextPath : ByteArray := prog_11_method_43_code
def yX9_nextPath : MethodName := ⟨RX9, "nextPath", "(IIZ)Z"⟩
abbrev cX9_paths : ByteArray := prog_11_method_44_code
def yX9_paths : MethodName := ⟨RX9, "paths", "(III)I"⟩
abbrev cX9_pathLength : ByteArray := prog_11_method_45_code
def yX9_pathLength : MethodName := ⟨RX9, "pathLength", "(III)I"⟩
abbrev cX9_first : ByteArray := prog_11_method_46_code
def yX9_first : MethodName := ⟨RX9, "first", "(III)I"⟩
abbrev cX9_tight : ByteArray := prog_11_method_47_code
def yX9_tight : MethodName := ⟨RX9, "tight", "(II)I"⟩
abbrev cX9_bestFar : ByteArray := prog_11_method_48_code
def yX9_bestFar : MethodName := ⟨RX9, "bestFar", "(IIIII)I"⟩
abbrev cX9_interdict : ByteArray := prog_11_method_49_code
def yX9_interdict : MethodName := ⟨RX9, "interdict", "(III)I"⟩
abbrev cX9_step : ByteArray := prog_11_method_50_code
def yX9_step : MethodName := ⟨RX9, "step", "(IIII)I"⟩
abbrev cX9_greedy : ByteArray := prog_11_method_51_code
def yX9_greedy : MethodName := ⟨RX9, "greedy", "(III)I"⟩
abbrev cX9_budgetFor : ByteArray := prog_11_method_52_code
def yX9_budgetFor : MethodName := ⟨RX9, "budgetFor", "(III)I"⟩
abbrev cX9_blockade : ByteArray := prog_11_method_53_code
def yX9_blockade : MethodName := ⟨RX9, "blockade", "(II)I"⟩
abbrev cX9_respond : ByteArray := prog_11_method_54_code
def yX9_respond : MethodName := ⟨RX9, "respond", "(IIII)I"⟩
abbrev cX9_interdictResponse : ByteArray := prog_11_method_55_code
def yX9_interdictResponse : MethodName := ⟨RX9, "interdictResponse", "(IIII)I"⟩
abbrev cX9_fortify : ByteArray := prog_11_method_56_code
def yX9_fortify : MethodName := ⟨RX9, "fortify", "(IIII)I"⟩
abbrev cX9_finding : ByteArray := prog_11_method_57_code
def yX9_finding : MethodName := ⟨RX9, "finding", "()I"⟩
abbrev cX9_worth : ByteArray := prog_11_method_58_code
def yX9_worth : MethodName := ⟨RX9, "worth", "(III)I"⟩
abbrev cX9_neverHelps : ByteArray := prog_11_method_59_code
def yX9_neverHelps : MethodName := ⟨RX9, "neverHelps", "(III)I"⟩
abbrev cX9_power : ByteArray := prog_11_method_60_code
def yX9_power : MethodName := ⟨RX9, "power", "(II)J"⟩
abbrev cX9_isAsked : ByteArray := prog_11_method_61_code
def yX9_isAsked : MethodName := ⟨RX9, "isAsked", "(IIII)Z"⟩
abbrev cX9_sum : ByteArray := prog_11_method_62_code
def yX9_sum : MethodName := ⟨RX9, "sum", "(IIIIZ)J"⟩
abbrev cX9_expected : ByteArray := prog_11_method_63_code
def yX9_expected : MethodName := ⟨RX9, "expected", "(IIII)J"⟩
abbrev cX9_lost : ByteArray := prog_11_method_64_code
def yX9_lost : MethodName := ⟨RX9, "lost", "(IIII)J"⟩
abbrev cX9_lengths : ByteArray := prog_11_method_65_code
def yX9_lengths : MethodName := ⟨RX9, "lengths", "()I"⟩
abbrev cX9_reachable : ByteArray := prog_11_method_66_code
def yX9_reachable : MethodName := ⟨RX9, "reachable", "()I"⟩
abbrev cX9_count : ByteArray := prog_11_method_67_code
def yX9_count : MethodName := ⟨RX9, "count", "(I)I"⟩
abbrev cX9_mixes : ByteArray := prog_11_method_68_code
def yX9_mixes : MethodName := ⟨RX9, "mixes", "(I)V"⟩
abbrev cX9_digest : ByteArray := prog_11_method_69_code
def yX9_digest : MethodName := ⟨RX9, "digest", "()J"⟩
def RJ6 : String := "java/lang/Integer"
def TJ6 : u_T := fun k => match k with
  | _ => ("", "", "", false)
def tyJ6 : Nat → FieldType := fun k => match k with
  | _ => .int
theorem nmJ6 : ∀ a, a < 0 → ∀ b, b < 0 → a ≠ b → (TJ6 a).2.1 ≠ (TJ6 b).2.1 := by decide +kernel
theorem tyJ6_ok : ∀ k, k < 0 → parseFieldDescriptor (TJ6 k).2.2.1 = some (tyJ6 k) := by decide +kernel
abbrev cJ6_bitCount_0f7a4 : ByteArray := prog_12_method_49_code
def yJ6_bitCount_0f7a4 : MethodName := ⟨RJ6, "bitCount", "(I)I"⟩
def RJ9 : String := "java/lang/Math"
def TJ9 : u_T := fun k => match k with
  | _ => ("", "", "", false)
def tyJ9 : Nat → FieldType := fun k => match k with
  | _ => .int
theorem nmJ9 : ∀ a, a < 0 → ∀ b, b < 0 → a ≠ b → (TJ9 a).2.1 ≠ (TJ9 b).2.1 := by decide +kernel
theorem tyJ9_ok : ∀ k, k < 0 → parseFieldDescriptor (TJ9 k).2.2.1 = some (tyJ9 k) := by decide +kernel
abbrev cJ9_min_7cf53 : ByteArray := prog_13_method_69_code
def yJ9_min_7cf53 : MethodName := ⟨RJ9, "min", "(II)I"⟩
def RJ10 : String := "java/lang/System"
def TJ10 : u_T := fun k => match k with
  | _ => ("", "", "", false)
def tyJ10 : Nat → FieldType := fun k => match k with
  | _ => .int
theorem nmJ10 : ∀ a, a < 0 → ∀ b, b < 0 → a ≠ b → (TJ10 a).2.1 ≠ (TJ10 b).2.1 := by decide +kernel
theorem tyJ10_ok : ∀ k, k < 0 → parseFieldDescriptor (TJ10 k).2.2.1 = some (tyJ10 k) := by decide +kernel
def RJ7 : String := "java/util/Arrays"
def TJ7 : u_T := fun k => match k with
  | _ => ("", "", "", false)
def tyJ7 : Nat → FieldType := fun k => match k with
  | _ => .int
theorem nmJ7 : ∀ a, a < 0 → ∀ b, b < 0 → a ≠ b → (TJ7 a).2.1 ≠ (TJ7 b).2.1 := by decide +kernel
theorem tyJ7_ok : ∀ k, k < 0 → parseFieldDescriptor (TJ7 k).2.2.1 = some (tyJ7 k) := by decide +kernel
abbrev cJ7_fill_53178 : ByteArray := prog_15_method_103_code
def yJ7_fill_53178 : MethodName := ⟨RJ7, "fill", "([II)V"⟩
def RL : String := "PathInterdictionLaw"
abbrev cL_law : ByteArray := code
def yL_law : MethodName := ⟨RL, "law", "([I)Z"⟩
abbrev ym_T : Type := MethodName × ByteArray × Nat × Option FieldType
def mX8_init : ym_T := (yX8_init, cX8_init, 1, none)
def mX2_init : ym_T := (yX2_init, cX2_init, 1, none)
def mX4_init : ym_T := (yX4_init, cX4_init, 1, none)
def mX6_init : ym_T := (yX6_init, cX6_init, 1, none)
def mX5_init : ym_T := (yX5_init, cX5_init, 2, none)
def mX7_init : ym_T := (yX7_init, cX7_init, 2, none)
def mX0_init : ym_T := (yX0_init, cX0_init, 3, none)
def mX3_init : ym_T := (yX3_init, cX3_init, 3, none)
def mX1_init : ym_T := (yX1_init, cX1_init, 3, none)
def mX8_addEdge : ym_T := (yX8_addEdge, cX8_addEdge, 6, some .int)
def mX8_areNodes : ym_T := (yX8_areNodes, cX8_areNodes, 2, some .boolean)
def mX8_isWithin : ym_T := (yX8_isWithin, cX8_isWithin, 2, some .boolean)
def mX2_isValue : ym_T := (yX2_isValue, cX2_isValue, 2, some .boolean)
def mX4_keep : ym_T := (yX4_keep, cX4_keep, 2, none)
def mX2_copyTo : ym_T := (yX2_copyTo, cX2_copyTo, 3, none)
def mX2_pack : ym_T := (yX2_pack, cX2_pack, 5, some .int)
def mX2_append : ym_T := (yX2_append, cX2_append, 2, none)
def mX8_removeEdge : ym_T := (yX8_removeEdge, cX8_removeEdge, 2, some .int)
def mX2_has : ym_T := (yX2_has, cX2_has, 2, some .boolean)
def mX2_delete : ym_T := (yX2_delete, cX2_delete, 3, none)
def mX8_setEdge : ym_T := (yX8_setEdge, cX8_setEdge, 5, some .int)
def mX2_part : ym_T := (yX2_part, cX2_part, 3, some .int)
def mX2_setPart : ym_T := (yX2_setPart, cX2_setPart, 4, none)
def mX8_edge : ym_T := (yX8_edge, cX8_edge, 3, some .int)
def mX8_clear : ym_T := (yX8_clear, cX8_clear, 2, some .int)
def mX2_empty : ym_T := (yX2_empty, cX2_empty, 1, none)
def mX8_type : ym_T := (yX8_type, cX8_type, 2, some .int)
def mX6_append : ym_T := (yX6_append, cX6_append, 2, some .boolean)
def mX8_clearText : ym_T := (yX8_clearText, cX8_clearText, 2, some .int)
def mX8_fault : ym_T := (yX8_fault, cX8_fault, 1, some .int)
def mX6_scan : ym_T := (yX6_scan, cX6_scan, 2, some .int)
def mX6_skipBlanks : ym_T := (yX6_skipBlanks, cX6_skipBlanks, 1, none)
def mX6_letterAt : ym_T := (yX6_letterAt, cX6_letterAt, 2, some .int)
def mX6_readEdge : ym_T := (yX6_readEdge, cX6_readEdge, 6, some .boolean)
def mX6_readNode : ym_T := (yX6_readNode, cX6_readNode, 2, some .int)
def mX6_readOtherNode : ym_T := (yX6_readOtherNode, cX6_readOtherNode, 3, some .int)
def mX6_readNumber : ym_T := (yX6_readNumber, cX6_readNumber, 3, some .int)
def mX6_digitAt : ym_T := (yX6_digitAt, cX6_digitAt, 3, some .int)
def mX6_readSign : ym_T := (yX6_readSign, cX6_readSign, 2, some .boolean)
def mX6_readDelay : ym_T := (yX6_readDelay, cX6_readDelay, 2, some .int)
def mX6_readCost : ym_T := (yX6_readCost, cX6_readCost, 2, some .int)
def mX8_load : ym_T := (yX8_load, cX8_load, 2, some .int)
def mX6_codeOf : ym_T := (yX6_codeOf, cX6_codeOf, 2, some .int)
def mX8_attack : ym_T := (yX8_attack, cX8_attack, 4, some .int)
def mX2_costOfSet : ym_T := (yX2_costOfSet, cX2_costOfSet, 4, some .int)
def mX2_cost : ym_T := (yX2_cost, cX2_cost, 2, some .int)
def mX8_setAttack : ym_T := (yX8_setAttack, cX8_setAttack, 2, some .int)
def mX2_hasAll : ym_T := (yX2_hasAll, cX2_hasAll, 2, some .boolean)
def mX2_all : ym_T := (yX2_all, cX2_all, 1, some .int)
def mX8_distance : ym_T := (yX8_distance, cX8_distance, 3, some .int)
def mX5_measure : ym_T := (yX5_measure, cX5_measure, 5, some .int)
def mX5_run : ym_T := (yX5_run, cX5_run, 5, none)
def mJ7_fill_53178 : ym_T := (yJ7_fill_53178, cJ7_fill_53178, 4, none)
def mX2_fillLengths : ym_T := (yX2_fillLengths, cX2_fillLengths, 6, none)
def mX5_settle : ym_T := (yX5_settle, cX5_settle, 8, none)
def mX5_repairOnce : ym_T := (yX5_repairOnce, cX5_repairOnce, 7, none)
def mX5_distanceTo : ym_T := (yX5_distanceTo, cX5_distanceTo, 2, some .int)
def mX8_first : ym_T := (yX8_first, cX8_first, 5, some .int)
def mX7_findFirst : ym_T := (yX7_findFirst, cX7_findFirst, 4, some .boolean)
def mX7_begin : ym_T := (yX7_begin, cX7_begin, 5, some .int)
def mJ9_min_7cf53 : ym_T := (yJ9_min_7cf53, cJ9_min_7cf53, 2, some .int)
def mX7_walk : ym_T := (yX7_walk, cX7_walk, 7, some .boolean)
def mX7_arrive : ym_T := (yX7_arrive, cX7_arrive, 3, some .boolean)
def mX7_rank : ym_T := (yX7_rank, cX7_rank, 3, none)
def mX2_to : ym_T := (yX2_to, cX2_to, 2, some .int)
def mX2_from : ym_T := (yX2_from, cX2_from, 2, some .int)
def mX7_trailEdge : ym_T := (yX7_trailEdge, cX7_trailEdge, 2, some .int)
def mX8_paths : ym_T := (yX8_paths, cX8_paths, 4, some .int)
def mX7_countUpTo : ym_T := (yX7_countUpTo, cX7_countUpTo, 4, some .int)
def mX8_pathLength : ym_T := (yX8_pathLength, cX8_pathLength, 4, some .int)
def mX7_rankedLength : ym_T := (yX7_rankedLength, cX7_rankedLength, 4, some .int)
def mX8_tight : ym_T := (yX8_tight, cX8_tight, 3, some .int)
def mX5_tightEdges : ym_T := (yX5_tightEdges, cX5_tightEdges, 7, some .int)
def mX8_interdict : ym_T := (yX8_interdict, cX8_interdict, 4, some .int)
def mX8_interdictResponse : ym_T := (yX8_interdictResponse, cX8_interdictResponse, 5, some .int)
def mX0_seekBest : ym_T := (yX0_seekBest, cX0_seekBest, 7, none)
def mX0_grow : ym_T := (yX0_grow, cX0_grow, 10, none)
def mX5_usedTo : ym_T := (yX5_usedTo, cX5_usedTo, 2, some .int)
def mX0_markHelpful : ym_T := (yX0_markHelpful, cX0_markHelpful, 6, none)
def mX0_weigh : ym_T := (yX0_weigh, cX0_weigh, 5, none)
def mX0_isCheaper : ym_T := (yX0_isCheaper, cX0_isCheaper, 3, some .boolean)
def mX8_greedy : ym_T := (yX8_greedy, cX8_greedy, 5, some .int)
def mX3_seek : ym_T := (yX3_seek, cX3_seek, 11, some .int)
def mX8_budgetFor : ym_T := (yX8_budgetFor, cX8_budgetFor, 4, some .int)
def mX8_blockade : ym_T := (yX8_blockade, cX8_blockade, 6, some .int)
def mX2_costOfBorder : ym_T := (yX2_costOfBorder, cX2_costOfBorder, 4, some .int)
def mX8_respond : ym_T := (yX8_respond, cX8_respond, 5, some .int)
def mX8_fortify : ym_T := (yX8_fortify, cX8_fortify, 6, some .int)
def mX1_seek : ym_T := (yX1_seek, cX1_seek, 5, some .int)
def mX1_hold : ym_T := (yX1_hold, cX1_hold, 5, none)
def mX1_isBetter : ym_T := (yX1_isBetter, cX1_isBetter, 5, some .boolean)
def mJ6_bitCount_0f7a4 : ym_T := (yJ6_bitCount_0f7a4, cJ6_bitCount_0f7a4, 1, some .int)
def mX8_finding : ym_T := (yX8_finding, cX8_finding, 1, some .int)
def mX8_worth : ym_T := (yX8_worth, cX8_worth, 6, some .int)
def mX8_neverHelps : ym_T := (yX8_neverHelps, cX8_neverHelps, 4, some .int)
def mX0_seekHelpful : ym_T := (yX0_seekHelpful, cX0_seekHelpful, 4, none)
def mX8_expected : ym_T := (yX8_expected, cX8_expected, 5, some .long)
def mX8_isChance : ym_T := (yX8_isChance, cX8_isChance, 5, some .boolean)
def mX8_sumOfSubsets : ym_T := (yX8_sumOfSubsets, cX8_sumOfSubsets, 15, some .long)
def mX8_power : ym_T := (yX8_power, cX8_power, 6, some .long)
def mX8_lost : ym_T := (yX8_lost, cX8_lost, 5, some .long)
def mX8_undo : ym_T := (yX8_undo, cX8_undo, 1, some .int)
def mX4_bringBack : ym_T := (yX4_bringBack, cX4_bringBack, 2, some .boolean)
def mX2_copyFrom : ym_T := (yX2_copyFrom, cX2_copyFrom, 3, none)
def mX8_count : ym_T := (yX8_count, cX8_count, 2, some .int)
def mX2_sumOfLengths : ym_T := (yX2_sumOfLengths, cX2_sumOfLengths, 3, some .int)
def mX2_plainLength : ym_T := (yX2_plainLength, cX2_plainLength, 2, some .int)
def mX5_reachablePairs : ym_T := (yX5_reachablePairs, cX5_reachablePairs, 5, some .int)
def mX8_digest : ym_T := (yX8_digest, cX8_digest, 5, some .long)
def mX9_init : ym_T := (yX9_init, cX9_init, 1, none)
def mX9_undo : ym_T := (yX9_undo, cX9_undo, 2, some .int)
def mX9_addEdge : ym_T := (yX9_addEdge, cX9_addEdge, 6, some .int)
def mX9_areNodes : ym_T := (yX9_areNodes, cX9_areNodes, 2, some .boolean)
def mX9_in : ym_T := (yX9_in, cX9_in, 3, some .boolean)
def mX9_isValue : ym_T := (yX9_isValue, cX9_isValue, 2, some .boolean)
def mX9_keeps : ym_T := (yX9_keeps, cX9_keeps, 2, none)
def mX9_lays : ym_T := (yX9_lays, cX9_lays, 7, none)
def mX9_removeEdge : ym_T := (yX9_removeEdge, cX9_removeEdge, 5, some .int)
def mX9_isEdge : ym_T := (yX9_isEdge, cX9_isEdge, 2, some .boolean)
def mX9_has : ym_T := (yX9_has, cX9_has, 2, some .boolean)
def mX9_setEdge : ym_T := (yX9_setEdge, cX9_setEdge, 5, some .int)
def mX9_of : ym_T := (yX9_of, cX9_of, 3, some .int)
def mX9_edge : ym_T := (yX9_edge, cX9_edge, 3, some .int)
def mX9_clear : ym_T := (yX9_clear, cX9_clear, 2, some .int)
def mX9_type : ym_T := (yX9_type, cX9_type, 2, some .int)
def mX9_clearText : ym_T := (yX9_clearText, cX9_clearText, 2, some .int)
def mX9_fault : ym_T := (yX9_fault, cX9_fault, 1, some .int)
def mX9_blanks : ym_T := (yX9_blanks, cX9_blanks, 1, none)
def mX9_next : ym_T := (yX9_next, cX9_next, 1, some .int)
def mX9_node : ym_T := (yX9_node, cX9_node, 3, some .int)
def mX9_passes : ym_T := (yX9_passes, cX9_passes, 1, none)
def mX9_number : ym_T := (yX9_number, cX9_number, 3, some .int)
def mX9_isDigit : ym_T := (yX9_isDigit, cX9_isDigit, 1, some .boolean)
def mX9_sign : ym_T := (yX9_sign, cX9_sign, 2, none)
def mX9_delay : ym_T := (yX9_delay, cX9_delay, 1, some .int)
def mX9_digit : ym_T := (yX9_digit, cX9_digit, 2, some .int)
def mX9_load : ym_T := (yX9_load, cX9_load, 2, some .int)
def mX9_attack : ym_T := (yX9_attack, cX9_attack, 3, some .int)
def mX9_costOf : ym_T := (yX9_costOf, cX9_costOf, 4, some .int)
def mX9_setAttack : ym_T := (yX9_setAttack, cX9_setAttack, 2, some .int)
def mX9_isSet : ym_T := (yX9_isSet, cX9_isSet, 2, some .boolean)
def mX9_distance : ym_T := (yX9_distance, cX9_distance, 3, some .int)
def mX9_far : ym_T := (yX9_far, cX9_far, 7, some .int)
def mX9_ways : ym_T := (yX9_ways, cX9_ways, 11, none)
def mX9_lengthOf : ym_T := (yX9_lengthOf, cX9_lengthOf, 3, some .int)
def mX9_lessens : ym_T := (yX9_lessens, cX9_lessens, 4, some .boolean)
def mX9_paths : ym_T := (yX9_paths, cX9_paths, 6, some .int)
def mX9_starts : ym_T := (yX9_starts, cX9_starts, 2, none)
def mX9_nextPath : ym_T := (yX9_nextPath, cX9_nextPath, 6, some .boolean)
def mX9_lastNode : ym_T := (yX9_lastNode, cX9_lastNode, 2, some .int)
def mX9_back : ym_T := (yX9_back, cX9_back, 2, none)
def mX9_forth : ym_T := (yX9_forth, cX9_forth, 6, some .boolean)
def mX9_pathLength : ym_T := (yX9_pathLength, cX9_pathLength, 7, some .int)
def mX9_first : ym_T := (yX9_first, cX9_first, 8, some .int)
def mX9_tight : ym_T := (yX9_tight, cX9_tight, 8, some .int)
def mX9_interdict : ym_T := (yX9_interdict, cX9_interdict, 5, some .int)
def mX9_bestFar : ym_T := (yX9_bestFar, cX9_bestFar, 11, some .int)
def mX9_greedy : ym_T := (yX9_greedy, cX9_greedy, 9, some .int)
def mX9_step : ym_T := (yX9_step, cX9_step, 10, some .int)
def mX9_budgetFor : ym_T := (yX9_budgetFor, cX9_budgetFor, 6, some .int)
def mX9_blockade : ym_T := (yX9_blockade, cX9_blockade, 9, some .int)
def mX9_respond : ym_T := (yX9_respond, cX9_respond, 5, some .int)
def mX9_interdictResponse : ym_T := (yX9_interdictResponse, cX9_interdictResponse, 6, some .int)
def mX9_fortify : ym_T := (yX9_fortify, cX9_fortify, 10, some .int)
def mX9_many : ym_T := (yX9_many, cX9_many, 3, some .int)
def mX9_finding : ym_T := (yX9_finding, cX9_finding, 1, some .int)
def mX9_worth : ym_T := (yX9_worth, cX9_worth, 5, some .int)
def mX9_neverHelps : ym_T := (yX9_neverHelps, cX9_neverHelps, 9, some .int)
def mX9_expected : ym_T := (yX9_expected, cX9_expected, 5, some .long)
def mX9_isAsked : ym_T := (yX9_isAsked, cX9_isAsked, 5, some .boolean)
def mX9_sum : ym_T := (yX9_sum, cX9_sum, 12, some .long)
def mX9_power : ym_T := (yX9_power, cX9_power, 5, some .long)
def mX9_lost : ym_T := (yX9_lost, cX9_lost, 5, some .long)
def mX9_count : ym_T := (yX9_count, cX9_count, 2, some .int)
def mX9_lengths : ym_T := (yX9_lengths, cX9_lengths, 3, some .int)
def mX9_reachable : ym_T := (yX9_reachable, cX9_reachable, 3, some .int)
def mX9_digest : ym_T := (yX9_digest, cX9_digest, 2, some .long)
def mX9_mixes : ym_T := (yX9_mixes, cX9_mixes, 2, none)
end
section
/-! THE LAYOUT (by wip/whole/gen_names.py): the cells of class and reference, the words, the links of fields and calls -/
abbrev ly_F : Type := Option (Option Nat)
abbrev ly_E : Type := (Nat × Nat) ⊕ (Nat × List ly_F)
def ly_L : List ly_E := [.inr (8, [some (some 1), some (some 3), some (some 5), some (some 8), some (some 15), some (some 19), some (some 20), some (some 21), none]), .inr (2, [some (some 2), none, none]), .inl (0, 16), .inr (4, [some (some 4), none, none]), .inl (0, 216), .inr (6, [some (some 6), some (some 7), none, none, none]), .inl (1, 110), .inl (0, 16), .inr (5, [some (some 1), some (some 9), some (some 10), some (some 11), some (some 12), some (some 13), some (some 14)]), .inl (0, 16), .inl (0, 8), .inl (0, 8), .inl (0, 8), .inl (0, 8), .inl (0, 8), .inr (7, [some (some 1), some (some 16), some (some 17), none, some (some 18), none, none, none, none, none, none]), .inl (0, 16), .inl (0, 8), .inl (0, 100), .inr (0, [some (some 1), some (some 8), none, none, none, none, none, none, none, none, none, none]), .inr (3, [some (some 1), some (some 8), none]), .inr (1, [some (some 1), some (some 19), none, none, none, none, none, none]), .inr (9, [some (some 23), some (some 24), none, none, some (some 25), none, some (some 26), none, none, none, some (some 27), some (some 28), none, none, none, some (some 29), some (some 30), none, some none]), .inl (0, 82), .inl (0, 984), .inl (0, 110), .inl (0, 80), .inl (0, 32), .inl (0, 8), .inl (0, 100), .inl (0, 8)]
def ly_C : List vw_C := [(RX0, TX0, 12), (RX1, TX1, 8), (RX2, TX2, 3), (RX3, TX3, 3), (RX4, TX4, 3), (RX5, TX5, 7), (RX6, TX6, 5), (RX7, TX7, 11), (RX8, TX8, 9), (RX9, TX9, 19)]
def ly_G : List Cond := lw_tbl.filter goodWord
def ly_N : List Cond := []
def ly_Z : List (Nat × String × String × String × Nat × (Nat → Int32)) := [(90, "PathInterdiction$Graph", "SHIFTS", "[I", 5, fun j => [0, 3, 6, 13, 20].getD j 0), (91, "PathInterdiction$Graph", "MASKS", "[I", 5, fun j => [7, 7, 127, 127, 15].getD j 0)]
theorem ly_in (i : Nat) {w : Cond} (hp : lw_tbl[i]? = some w) (h : goodWord w = true) : w ∈ ly_G := List.mem_filter.mpr ⟨List.mem_of_getElem? hp, h⟩
theorem ly_ins (ws : List Cond) (ps : List Nat) (hp : ws = ps.filterMap (fun i => lw_tbl[i]?)) (h : ws.all goodWord = true) : ∀ w ∈ ws, w ∈ ly_G := by
  intro w hw
  have h1 := List.all_eq_true.mp h w hw
  rw [hp] at hw
  obtain ⟨i, -, hi⟩ := List.mem_filterMap.mp hw
  exact ly_in i hi h1
set_option maxRecDepth 20000 in
theorem igX0 : ∀ w ∈ u_ws RX0 TX0 12, w ∈ ly_G := ly_ins _ [238, 240, 242, 244, 246, 248, 250, 252, 254, 256, 258, 260] (by decide +kernel) (by decide +kernel)
set_option maxRecDepth 20000 in
theorem igX1 : ∀ w ∈ u_ws RX1 TX1 8, w ∈ ly_G := ly_ins _ [295, 297, 299, 301, 303, 305, 307, 309] (by decide +kernel) (by decide +kernel)
set_option maxRecDepth 20000 in
theorem igX2 : ∀ w ∈ u_ws RX2 TX2 3, w ∈ ly_G := ly_ins _ [95, 97, 99] (by decide +kernel) (by decide +kernel)
set_option maxRecDepth 20000 in
theorem igX3 : ∀ w ∈ u_ws RX3 TX3 3, w ∈ ly_G := ly_ins _ [273, 275, 277] (by decide +kernel) (by decide +kernel)
set_option maxRecDepth 20000 in
theorem igX4 : ∀ w ∈ u_ws RX4 TX4 3, w ∈ ly_G := ly_ins _ [113, 115, 117] (by decide +kernel) (by decide +kernel)
set_option maxRecDepth 20000 in
theorem igX5 : ∀ w ∈ u_ws RX5 TX5 7, w ∈ ly_G := ly_ins _ [158, 160, 162, 164, 166, 168, 170] (by decide +kernel) (by decide +kernel)
set_option maxRecDepth 20000 in
theorem igX6 : ∀ w ∈ u_ws RX6 TX6 5, w ∈ ly_G := ly_ins _ [133, 135, 137, 139, 141] (by decide +kernel) (by decide +kernel)
set_option maxRecDepth 20000 in
theorem igX7 : ∀ w ∈ u_ws RX7 TX7 11, w ∈ ly_G := ly_ins _ [191, 193, 195, 197, 199, 201, 203, 205, 207, 209, 211] (by decide +kernel) (by decide +kernel)
set_option maxRecDepth 20000 in
theorem igX8 : ∀ w ∈ u_ws RX8 TX8 9, w ∈ ly_G := ly_ins _ [321, 323, 325, 327, 329, 331, 333, 335, 337] (by decide +kernel) (by decide +kernel)
set_option maxRecDepth 20000 in
theorem igX9 : ∀ w ∈ u_ws RX9 TX9 19, w ∈ ly_G := ly_ins _ [795, 797, 799, 801, 803, 805, 807, 809, 811, 813, 815, 817, 819, 821, 823, 825, 827, 829, 831] (by decide +kernel) (by decide +kernel)
/-- a field's link: pool place idx of class own is field j of class ci -/
def fl_ok (own : String) (idx ci j : Nat) : Prop := ∃ (C : String) (T : u_T) (N : Nat), ly_C[ci]? = some (C, T, N) ∧ j < N ∧ (∀ w ∈ u_ws C T N, w ∈ ly_G) ∧ (Cond.fieldLink own idx (T j).1 (T j).2.1 (T j).2.2.1 ∈ ly_G ∨ ∃ host, Cond.fieldLinkNest own idx (T j).1 (T j).2.1 (T j).2.2.1 host ∈ ly_N)
/-- and it may be written: not final, of type ty -/
def fp_ok (own : String) (idx ci j : Nat) (ty : FieldType) : Prop := ∃ (C : String) (T : u_T) (N : Nat) (ty0 : Nat → FieldType), ly_C[ci]? = some (C, T, N) ∧ j < N ∧ (∀ w ∈ u_ws C T N, w ∈ ly_G) ∧ (Cond.fieldLink own idx (T j).1 (T j).2.1 (T j).2.2.1 ∈ ly_G ∨ ∃ host, Cond.fieldLinkNest own idx (T j).1 (T j).2.1 (T j).2.2.1 host ∈ ly_N) ∧ (∀ k, k < N → parseFieldDescriptor (T k).2.2.1 = some (ty0 k)) ∧ (∀ a, a < N → ∀ b, b < N → a ≠ b → (T a).2.1 ≠ (T b).2.1) ∧ (T j).2.2.2 = false ∧ parseFieldDescriptor (T j).2.2.1 = some ty
/-- a call of a method of an object -/
def cv_ok (own : String) (idx : Nat) (y1 : ym_T) (ci n : Nat) : Prop := (ly_C[ci]?).map (fun q => q.1) = some y1.1.cls ∧ (Cond.methodLink own idx y1.1 ∈ ly_G ∨ ∃ host, Cond.methodLinkNest own idx y1.1 host ∈ ly_N) ∧ Cond.instanceMethod y1.1 ∈ ly_G ∧ Cond.selects y1.1.cls y1.1 y1.1 ∈ ly_G ∧ Cond.initialized y1.1.cls ∈ ly_G ∧ Cond.code y1.1 y1.2.1 y1.2.2.1 y1.2.2.2 ∈ ly_G ∧ (y1.1.cls ≠ "java/lang/invoke/MethodHandle" ∧ y1.1.cls ≠ "java/lang/invoke/VarHandle" ∧ (parseMethodDescriptor y1.1.desc).map (fun d => d.parameters.length) = some n) ∧ y1.2.2.1 ≤ 21
/-- a call of a static method -/
def cs_ok (own : String) (idx : Nat) (y1 : ym_T) (n : Nat) : Prop := (Cond.methodLink own idx y1.1 ∈ ly_G ∨ ∃ host, Cond.methodLinkNest own idx y1.1 host ∈ ly_N) ∧ Cond.static y1.1 ∈ ly_G ∧ Cond.initialized y1.1.cls ∈ ly_G ∧ Cond.code y1.1 y1.2.1 y1.2.2.1 y1.2.2.2 ∈ ly_G ∧ (y1.1.cls ≠ "java/lang/invoke/MethodHandle" ∧ y1.1.cls ≠ "java/lang/invoke/VarHandle" ∧ (parseMethodDescriptor y1.1.desc).map (fun d => d.parameters.length) = some n) ∧ y1.2.2.1 ≤ 21
end
section
/-! links of fields, constants -/
set_option maxRecDepth 20000 in
theorem fl_X2_9 : fl_ok RX2 9 2 0 := ⟨RX2, TX2, 3, rfl, by decide, igX2, Or.inl (ly_in 83 (by decide +kernel) (by decide +kernel))⟩
set_option maxRecDepth 20000 in
theorem fl_X5_65 : fl_ok RX5 65 2 0 := ⟨RX2, TX2, 3, rfl, by decide, igX2, Or.inl (ly_in 84 (by decide +kernel) (by decide +kernel))⟩
set_option maxRecDepth 20000 in
theorem fl_X2_15 : fl_ok RX2 15 2 1 := ⟨RX2, TX2, 3, rfl, by decide, igX2, Or.inl (ly_in 85 (by decide +kernel) (by decide +kernel))⟩
theorem fp_X2_15 : fp_ok RX2 15 2 1 .int := ⟨RX2, TX2, 3, tyX2, rfl, by decide, igX2, Or.inl (ly_in 85 (by decide +kernel) (by decide +kernel)), tyX2_ok, nmX2, by decide, by decide +kernel⟩
set_option maxRecDepth 20000 in
theorem fl_X3_29 : fl_ok RX3 29 2 1 := ⟨RX2, TX2, 3, rfl, by decide, igX2, Or.inl (ly_in 86 (by decide +kernel) (by decide +kernel))⟩
theorem fp_X3_29 : fp_ok RX3 29 2 1 .int := ⟨RX2, TX2, 3, tyX2, rfl, by decide, igX2, Or.inl (ly_in 86 (by decide +kernel) (by decide +kernel)), tyX2_ok, nmX2, by decide, by decide +kernel⟩
set_option maxRecDepth 20000 in
theorem fl_X8_82 : fl_ok RX8 82 2 1 := ⟨RX2, TX2, 3, rfl, by decide, igX2, Or.inl (ly_in 87 (by decide +kernel) (by decide +kernel))⟩
theorem fp_X8_82 : fp_ok RX8 82 2 1 .int := ⟨RX2, TX2, 3, tyX2, rfl, by decide, igX2, Or.inl (ly_in 87 (by decide +kernel) (by decide +kernel)), tyX2_ok, nmX2, by decide, by decide +kernel⟩
set_option maxRecDepth 20000 in
theorem fl_X1_54 : fl_ok RX1 54 2 1 := ⟨RX2, TX2, 3, rfl, by decide, igX2, Or.inl (ly_in 88 (by decide +kernel) (by decide +kernel))⟩
theorem fp_X1_54 : fp_ok RX1 54 2 1 .int := ⟨RX2, TX2, 3, tyX2, rfl, by decide, igX2, Or.inl (ly_in 88 (by decide +kernel) (by decide +kernel)), tyX2_ok, nmX2, by decide, by decide +kernel⟩
set_option maxRecDepth 20000 in
theorem fl_X0_75 : fl_ok RX0 75 2 1 := ⟨RX2, TX2, 3, rfl, by decide, igX2, Or.inl (ly_in 89 (by decide +kernel) (by decide +kernel))⟩
theorem fp_X0_75 : fp_ok RX0 75 2 1 .int := ⟨RX2, TX2, 3, tyX2, rfl, by decide, igX2, Or.inl (ly_in 89 (by decide +kernel) (by decide +kernel)), tyX2_ok, nmX2, by decide, by decide +kernel⟩
set_option maxRecDepth 20000 in
theorem fl_X5_61 : fl_ok RX5 61 2 1 := ⟨RX2, TX2, 3, rfl, by decide, igX2, Or.inl (ly_in 90 (by decide +kernel) (by decide +kernel))⟩
theorem fp_X5_61 : fp_ok RX5 61 2 1 .int := ⟨RX2, TX2, 3, tyX2, rfl, by decide, igX2, Or.inl (ly_in 90 (by decide +kernel) (by decide +kernel)), tyX2_ok, nmX2, by decide, by decide +kernel⟩
set_option maxRecDepth 20000 in
theorem fl_X7_75 : fl_ok RX7 75 2 1 := ⟨RX2, TX2, 3, rfl, by decide, igX2, Or.inl (ly_in 91 (by decide +kernel) (by decide +kernel))⟩
theorem fp_X7_75 : fp_ok RX7 75 2 1 .int := ⟨RX2, TX2, 3, tyX2, rfl, by decide, igX2, Or.inl (ly_in 91 (by decide +kernel) (by decide +kernel)), tyX2_ok, nmX2, by decide, by decide +kernel⟩
set_option maxRecDepth 20000 in
theorem fl_X2_19 : fl_ok RX2 19 2 2 := ⟨RX2, TX2, 3, rfl, by decide, igX2, Or.inl (ly_in 92 (by decide +kernel) (by decide +kernel))⟩
theorem fp_X2_19 : fp_ok RX2 19 2 2 .int := ⟨RX2, TX2, 3, tyX2, rfl, by decide, igX2, Or.inl (ly_in 92 (by decide +kernel) (by decide +kernel)), tyX2_ok, nmX2, by decide, by decide +kernel⟩
set_option maxRecDepth 20000 in
theorem fl_X8_111 : fl_ok RX8 111 2 2 := ⟨RX2, TX2, 3, rfl, by decide, igX2, Or.inl (ly_in 93 (by decide +kernel) (by decide +kernel))⟩
theorem fp_X8_111 : fp_ok RX8 111 2 2 .int := ⟨RX2, TX2, 3, tyX2, rfl, by decide, igX2, Or.inl (ly_in 93 (by decide +kernel) (by decide +kernel)), tyX2_ok, nmX2, by decide, by decide +kernel⟩
set_option maxRecDepth 20000 in
theorem fl_X7_58 : fl_ok RX7 58 2 2 := ⟨RX2, TX2, 3, rfl, by decide, igX2, Or.inl (ly_in 94 (by decide +kernel) (by decide +kernel))⟩
theorem fp_X7_58 : fp_ok RX7 58 2 2 .int := ⟨RX2, TX2, 3, tyX2, rfl, by decide, igX2, Or.inl (ly_in 94 (by decide +kernel) (by decide +kernel)), tyX2_ok, nmX2, by decide, by decide +kernel⟩
set_option maxRecDepth 20000 in
theorem fl_X4_11 : fl_ok RX4 11 4 0 := ⟨RX4, TX4, 3, rfl, by decide, igX4, Or.inl (ly_in 109 (by decide +kernel) (by decide +kernel))⟩
set_option maxRecDepth 20000 in
theorem fl_X4_17 : fl_ok RX4 17 4 1 := ⟨RX4, TX4, 3, rfl, by decide, igX4, Or.inl (ly_in 110 (by decide +kernel) (by decide +kernel))⟩
theorem fp_X4_17 : fp_ok RX4 17 4 1 .int := ⟨RX4, TX4, 3, tyX4, rfl, by decide, igX4, Or.inl (ly_in 110 (by decide +kernel) (by decide +kernel)), tyX4_ok, nmX4, by decide, by decide +kernel⟩
set_option maxRecDepth 20000 in
theorem fl_X4_21 : fl_ok RX4 21 4 2 := ⟨RX4, TX4, 3, rfl, by decide, igX4, Or.inl (ly_in 111 (by decide +kernel) (by decide +kernel))⟩
theorem fp_X4_21 : fp_ok RX4 21 4 2 .int := ⟨RX4, TX4, 3, tyX4, rfl, by decide, igX4, Or.inl (ly_in 111 (by decide +kernel) (by decide +kernel)), tyX4_ok, nmX4, by decide, by decide +kernel⟩
set_option maxRecDepth 20000 in
theorem fl_X8_213 : fl_ok RX8 213 4 2 := ⟨RX4, TX4, 3, rfl, by decide, igX4, Or.inl (ly_in 112 (by decide +kernel) (by decide +kernel))⟩
theorem fp_X8_213 : fp_ok RX8 213 4 2 .int := ⟨RX4, TX4, 3, tyX4, rfl, by decide, igX4, Or.inl (ly_in 112 (by decide +kernel) (by decide +kernel)), tyX4_ok, nmX4, by decide, by decide +kernel⟩
set_option maxRecDepth 20000 in
theorem fl_X6_9 : fl_ok RX6 9 6 0 := ⟨RX6, TX6, 5, rfl, by decide, igX6, Or.inl (ly_in 126 (by decide +kernel) (by decide +kernel))⟩
set_option maxRecDepth 20000 in
theorem fl_X6_15 : fl_ok RX6 15 6 1 := ⟨RX6, TX6, 5, rfl, by decide, igX6, Or.inl (ly_in 127 (by decide +kernel) (by decide +kernel))⟩
set_option maxRecDepth 20000 in
theorem fl_X6_19 : fl_ok RX6 19 6 2 := ⟨RX6, TX6, 5, rfl, by decide, igX6, Or.inl (ly_in 128 (by decide +kernel) (by decide +kernel))⟩
theorem fp_X6_19 : fp_ok RX6 19 6 2 .int := ⟨RX6, TX6, 5, tyX6, rfl, by decide, igX6, Or.inl (ly_in 128 (by decide +kernel) (by decide +kernel)), tyX6_ok, nmX6, by decide, by decide +kernel⟩
set_option maxRecDepth 20000 in
theorem fl_X8_119 : fl_ok RX8 119 6 2 := ⟨RX6, TX6, 5, rfl, by decide, igX6, Or.inl (ly_in 129 (by decide +kernel) (by decide +kernel))⟩
theorem fp_X8_119 : fp_ok RX8 119 6 2 .int := ⟨RX6, TX6, 5, tyX6, rfl, by decide, igX6, Or.inl (ly_in 129 (by decide +kernel) (by decide +kernel)), tyX6_ok, nmX6, by decide, by decide +kernel⟩
set_option maxRecDepth 20000 in
theorem fl_X6_23 : fl_ok RX6 23 6 3 := ⟨RX6, TX6, 5, rfl, by decide, igX6, Or.inl (ly_in 130 (by decide +kernel) (by decide +kernel))⟩
theorem fp_X6_23 : fp_ok RX6 23 6 3 .int := ⟨RX6, TX6, 5, tyX6, rfl, by decide, igX6, Or.inl (ly_in 130 (by decide +kernel) (by decide +kernel)), tyX6_ok, nmX6, by decide, by decide +kernel⟩
set_option maxRecDepth 20000 in
theorem fl_X8_124 : fl_ok RX8 124 6 3 := ⟨RX6, TX6, 5, rfl, by decide, igX6, Or.inl (ly_in 131 (by decide +kernel) (by decide +kernel))⟩
theorem fp_X8_124 : fp_ok RX8 124 6 3 .int := ⟨RX6, TX6, 5, tyX6, rfl, by decide, igX6, Or.inl (ly_in 131 (by decide +kernel) (by decide +kernel)), tyX6_ok, nmX6, by decide, by decide +kernel⟩
set_option maxRecDepth 20000 in
theorem fl_X6_26 : fl_ok RX6 26 6 4 := ⟨RX6, TX6, 5, rfl, by decide, igX6, Or.inl (ly_in 132 (by decide +kernel) (by decide +kernel))⟩
theorem fp_X6_26 : fp_ok RX6 26 6 4 .int := ⟨RX6, TX6, 5, tyX6, rfl, by decide, igX6, Or.inl (ly_in 132 (by decide +kernel) (by decide +kernel)), tyX6_ok, nmX6, by decide, by decide +kernel⟩
set_option maxRecDepth 20000 in
theorem fl_X5_30 : fl_ok RX5 30 5 0 := ⟨RX5, TX5, 7, rfl, by decide, igX5, Or.inl (ly_in 151 (by decide +kernel) (by decide +kernel))⟩
set_option maxRecDepth 20000 in
theorem fl_X5_9 : fl_ok RX5 9 5 1 := ⟨RX5, TX5, 7, rfl, by decide, igX5, Or.inl (ly_in 152 (by decide +kernel) (by decide +kernel))⟩
set_option maxRecDepth 20000 in
theorem fl_X5_15 : fl_ok RX5 15 5 2 := ⟨RX5, TX5, 7, rfl, by decide, igX5, Or.inl (ly_in 153 (by decide +kernel) (by decide +kernel))⟩
set_option maxRecDepth 20000 in
theorem fl_X5_18 : fl_ok RX5 18 5 3 := ⟨RX5, TX5, 7, rfl, by decide, igX5, Or.inl (ly_in 154 (by decide +kernel) (by decide +kernel))⟩
set_option maxRecDepth 20000 in
theorem fl_X5_21 : fl_ok RX5 21 5 4 := ⟨RX5, TX5, 7, rfl, by decide, igX5, Or.inl (ly_in 155 (by decide +kernel) (by decide +kernel))⟩
set_option maxRecDepth 20000 in
theorem fl_X5_24 : fl_ok RX5 24 5 5 := ⟨RX5, TX5, 7, rfl, by decide, igX5, Or.inl (ly_in 156 (by decide +kernel) (by decide +kernel))⟩
set_option maxRecDepth 20000 in
theorem fl_X5_27 : fl_ok RX5 27 5 6 := ⟨RX5, TX5, 7, rfl, by decide, igX5, Or.inl (ly_in 157 (by decide +kernel) (by decide +kernel))⟩
set_option maxRecDepth 20000 in
theorem fl_X7_44 : fl_ok RX7 44 7 0 := ⟨RX7, TX7, 11, rfl, by decide, igX7, Or.inl (ly_in 179 (by decide +kernel) (by decide +kernel))⟩
set_option maxRecDepth 20000 in
theorem fl_X7_9 : fl_ok RX7 9 7 1 := ⟨RX7, TX7, 11, rfl, by decide, igX7, Or.inl (ly_in 180 (by decide +kernel) (by decide +kernel))⟩
set_option maxRecDepth 20000 in
theorem fl_X7_15 : fl_ok RX7 15 7 2 := ⟨RX7, TX7, 11, rfl, by decide, igX7, Or.inl (ly_in 181 (by decide +kernel) (by decide +kernel))⟩
set_option maxRecDepth 20000 in
theorem fl_X7_18 : fl_ok RX7 18 7 3 := ⟨RX7, TX7, 11, rfl, by decide, igX7, Or.inl (ly_in 182 (by decide +kernel) (by decide +kernel))⟩
theorem fp_X7_18 : fp_ok RX7 18 7 3 .int := ⟨RX7, TX7, 11, tyX7, rfl, by decide, igX7, Or.inl (ly_in 182 (by decide +kernel) (by decide +kernel)), tyX7_ok, nmX7, by decide, by decide +kernel⟩
set_option maxRecDepth 20000 in
theorem fl_X8_145 : fl_ok RX8 145 7 3 := ⟨RX7, TX7, 11, rfl, by decide, igX7, Or.inl (ly_in 183 (by decide +kernel) (by decide +kernel))⟩
theorem fp_X8_145 : fp_ok RX8 145 7 3 .int := ⟨RX7, TX7, 11, tyX7, rfl, by decide, igX7, Or.inl (ly_in 183 (by decide +kernel) (by decide +kernel)), tyX7_ok, nmX7, by decide, by decide +kernel⟩
set_option maxRecDepth 20000 in
theorem fl_X7_22 : fl_ok RX7 22 7 4 := ⟨RX7, TX7, 11, rfl, by decide, igX7, Or.inl (ly_in 184 (by decide +kernel) (by decide +kernel))⟩
set_option maxRecDepth 20000 in
theorem fl_X7_25 : fl_ok RX7 25 7 5 := ⟨RX7, TX7, 11, rfl, by decide, igX7, Or.inl (ly_in 185 (by decide +kernel) (by decide +kernel))⟩
theorem fp_X7_25 : fp_ok RX7 25 7 5 .int := ⟨RX7, TX7, 11, tyX7, rfl, by decide, igX7, Or.inl (ly_in 185 (by decide +kernel) (by decide +kernel)), tyX7_ok, nmX7, by decide, by decide +kernel⟩
set_option maxRecDepth 20000 in
theorem fl_X7_28 : fl_ok RX7 28 7 6 := ⟨RX7, TX7, 11, rfl, by decide, igX7, Or.inl (ly_in 186 (by decide +kernel) (by decide +kernel))⟩
theorem fp_X7_28 : fp_ok RX7 28 7 6 .int := ⟨RX7, TX7, 11, tyX7, rfl, by decide, igX7, Or.inl (ly_in 186 (by decide +kernel) (by decide +kernel)), tyX7_ok, nmX7, by decide, by decide +kernel⟩
set_option maxRecDepth 20000 in
theorem fl_X7_31 : fl_ok RX7 31 7 7 := ⟨RX7, TX7, 11, rfl, by decide, igX7, Or.inl (ly_in 187 (by decide +kernel) (by decide +kernel))⟩
theorem fp_X7_31 : fp_ok RX7 31 7 7 .int := ⟨RX7, TX7, 11, tyX7, rfl, by decide, igX7, Or.inl (ly_in 187 (by decide +kernel) (by decide +kernel)), tyX7_ok, nmX7, by decide, by decide +kernel⟩
set_option maxRecDepth 20000 in
theorem fl_X7_34 : fl_ok RX7 34 7 8 := ⟨RX7, TX7, 11, rfl, by decide, igX7, Or.inl (ly_in 188 (by decide +kernel) (by decide +kernel))⟩
theorem fp_X7_34 : fp_ok RX7 34 7 8 .int := ⟨RX7, TX7, 11, tyX7, rfl, by decide, igX7, Or.inl (ly_in 188 (by decide +kernel) (by decide +kernel)), tyX7_ok, nmX7, by decide, by decide +kernel⟩
set_option maxRecDepth 20000 in
theorem fl_X7_37 : fl_ok RX7 37 7 9 := ⟨RX7, TX7, 11, rfl, by decide, igX7, Or.inl (ly_in 189 (by decide +kernel) (by decide +kernel))⟩
theorem fp_X7_37 : fp_ok RX7 37 7 9 .int := ⟨RX7, TX7, 11, tyX7, rfl, by decide, igX7, Or.inl (ly_in 189 (by decide +kernel) (by decide +kernel)), tyX7_ok, nmX7, by decide, by decide +kernel⟩
set_option maxRecDepth 20000 in
theorem fl_X7_40 : fl_ok RX7 40 7 10 := ⟨RX7, TX7, 11, rfl, by decide, igX7, Or.inl (ly_in 190 (by decide +kernel) (by decide +kernel))⟩
theorem fp_X7_40 : fp_ok RX7 40 7 10 .boolean := ⟨RX7, TX7, 11, tyX7, rfl, by decide, igX7, Or.inl (ly_in 190 (by decide +kernel) (by decide +kernel)), tyX7_ok, nmX7, by decide, by decide +kernel⟩
set_option maxRecDepth 20000 in
theorem fl_X0_43 : fl_ok RX0 43 0 0 := ⟨RX0, TX0, 12, rfl, by decide, igX0, Or.inl (ly_in 220 (by decide +kernel) (by decide +kernel))⟩
set_option maxRecDepth 20000 in
theorem fl_X0_47 : fl_ok RX0 47 0 1 := ⟨RX0, TX0, 12, rfl, by decide, igX0, Or.inl (ly_in 221 (by decide +kernel) (by decide +kernel))⟩
set_option maxRecDepth 20000 in
theorem fl_X0_9 : fl_ok RX0 9 0 2 := ⟨RX0, TX0, 12, rfl, by decide, igX0, Or.inl (ly_in 222 (by decide +kernel) (by decide +kernel))⟩
theorem fp_X0_9 : fp_ok RX0 9 0 2 .int := ⟨RX0, TX0, 12, tyX0, rfl, by decide, igX0, Or.inl (ly_in 222 (by decide +kernel) (by decide +kernel)), tyX0_ok, nmX0, by decide, by decide +kernel⟩
set_option maxRecDepth 20000 in
theorem fl_X0_15 : fl_ok RX0 15 0 3 := ⟨RX0, TX0, 12, rfl, by decide, igX0, Or.inl (ly_in 223 (by decide +kernel) (by decide +kernel))⟩
theorem fp_X0_15 : fp_ok RX0 15 0 3 .int := ⟨RX0, TX0, 12, tyX0, rfl, by decide, igX0, Or.inl (ly_in 223 (by decide +kernel) (by decide +kernel)), tyX0_ok, nmX0, by decide, by decide +kernel⟩
set_option maxRecDepth 20000 in
theorem fl_X0_18 : fl_ok RX0 18 0 4 := ⟨RX0, TX0, 12, rfl, by decide, igX0, Or.inl (ly_in 224 (by decide +kernel) (by decide +kernel))⟩
theorem fp_X0_18 : fp_ok RX0 18 0 4 .int := ⟨RX0, TX0, 12, tyX0, rfl, by decide, igX0, Or.inl (ly_in 224 (by decide +kernel) (by decide +kernel)), tyX0_ok, nmX0, by decide, by decide +kernel⟩
set_option maxRecDepth 20000 in
theorem fl_X0_21 : fl_ok RX0 21 0 5 := ⟨RX0, TX0, 12, rfl, by decide, igX0, Or.inl (ly_in 225 (by decide +kernel) (by decide +kernel))⟩
theorem fp_X0_21 : fp_ok RX0 21 0 5 .int := ⟨RX0, TX0, 12, tyX0, rfl, by decide, igX0, Or.inl (ly_in 225 (by decide +kernel) (by decide +kernel)), tyX0_ok, nmX0, by decide, by decide +kernel⟩
set_option maxRecDepth 20000 in
theorem fl_X0_24 : fl_ok RX0 24 0 6 := ⟨RX0, TX0, 12, rfl, by decide, igX0, Or.inl (ly_in 226 (by decide +kernel) (by decide +kernel))⟩
theorem fp_X0_24 : fp_ok RX0 24 0 6 .int := ⟨RX0, TX0, 12, tyX0, rfl, by decide, igX0, Or.inl (ly_in 226 (by decide +kernel) (by decide +kernel)), tyX0_ok, nmX0, by decide, by decide +kernel⟩
set_option maxRecDepth 20000 in
theorem fl_X0_27 : fl_ok RX0 27 0 7 := ⟨RX0, TX0, 12, rfl, by decide, igX0, Or.inl (ly_in 227 (by decide +kernel) (by decide +kernel))⟩
theorem fp_X0_27 : fp_ok RX0 27 0 7 .boolean := ⟨RX0, TX0, 12, tyX0, rfl, by decide, igX0, Or.inl (ly_in 227 (by decide +kernel) (by decide +kernel)), tyX0_ok, nmX0, by decide, by decide +kernel⟩
set_option maxRecDepth 20000 in
theorem fl_X0_31 : fl_ok RX0 31 0 8 := ⟨RX0, TX0, 12, rfl, by decide, igX0, Or.inl (ly_in 228 (by decide +kernel) (by decide +kernel))⟩
theorem fp_X0_31 : fp_ok RX0 31 0 8 .int := ⟨RX0, TX0, 12, tyX0, rfl, by decide, igX0, Or.inl (ly_in 228 (by decide +kernel) (by decide +kernel)), tyX0_ok, nmX0, by decide, by decide +kernel⟩
set_option maxRecDepth 20000 in
theorem fl_X1_49 : fl_ok RX1 49 0 8 := ⟨RX0, TX0, 12, rfl, by decide, igX0, Or.inl (ly_in 229 (by decide +kernel) (by decide +kernel))⟩
theorem fp_X1_49 : fp_ok RX1 49 0 8 .int := ⟨RX0, TX0, 12, tyX0, rfl, by decide, igX0, Or.inl (ly_in 229 (by decide +kernel) (by decide +kernel)), tyX0_ok, nmX0, by decide, by decide +kernel⟩
set_option maxRecDepth 20000 in
theorem fl_X8_177 : fl_ok RX8 177 0 8 := ⟨RX0, TX0, 12, rfl, by decide, igX0, Or.inl (ly_in 230 (by decide +kernel) (by decide +kernel))⟩
theorem fp_X8_177 : fp_ok RX8 177 0 8 .int := ⟨RX0, TX0, 12, tyX0, rfl, by decide, igX0, Or.inl (ly_in 230 (by decide +kernel) (by decide +kernel)), tyX0_ok, nmX0, by decide, by decide +kernel⟩
set_option maxRecDepth 20000 in
theorem fl_X0_34 : fl_ok RX0 34 0 9 := ⟨RX0, TX0, 12, rfl, by decide, igX0, Or.inl (ly_in 231 (by decide +kernel) (by decide +kernel))⟩
theorem fp_X0_34 : fp_ok RX0 34 0 9 .int := ⟨RX0, TX0, 12, tyX0, rfl, by decide, igX0, Or.inl (ly_in 231 (by decide +kernel) (by decide +kernel)), tyX0_ok, nmX0, by decide, by decide +kernel⟩
set_option maxRecDepth 20000 in
theorem fl_X8_181 : fl_ok RX8 181 0 9 := ⟨RX0, TX0, 12, rfl, by decide, igX0, Or.inl (ly_in 232 (by decide +kernel) (by decide +kernel))⟩
theorem fp_X8_181 : fp_ok RX8 181 0 9 .int := ⟨RX0, TX0, 12, tyX0, rfl, by decide, igX0, Or.inl (ly_in 232 (by decide +kernel) (by decide +kernel)), tyX0_ok, nmX0, by decide, by decide +kernel⟩
set_option maxRecDepth 20000 in
theorem fl_X0_37 : fl_ok RX0 37 0 10 := ⟨RX0, TX0, 12, rfl, by decide, igX0, Or.inl (ly_in 233 (by decide +kernel) (by decide +kernel))⟩
theorem fp_X0_37 : fp_ok RX0 37 0 10 .int := ⟨RX0, TX0, 12, tyX0, rfl, by decide, igX0, Or.inl (ly_in 233 (by decide +kernel) (by decide +kernel)), tyX0_ok, nmX0, by decide, by decide +kernel⟩
set_option maxRecDepth 20000 in
theorem fl_X1_48 : fl_ok RX1 48 0 10 := ⟨RX0, TX0, 12, rfl, by decide, igX0, Or.inl (ly_in 234 (by decide +kernel) (by decide +kernel))⟩
theorem fp_X1_48 : fp_ok RX1 48 0 10 .int := ⟨RX0, TX0, 12, tyX0, rfl, by decide, igX0, Or.inl (ly_in 234 (by decide +kernel) (by decide +kernel)), tyX0_ok, nmX0, by decide, by decide +kernel⟩
set_option maxRecDepth 20000 in
theorem fl_X8_180 : fl_ok RX8 180 0 10 := ⟨RX0, TX0, 12, rfl, by decide, igX0, Or.inl (ly_in 235 (by decide +kernel) (by decide +kernel))⟩
theorem fp_X8_180 : fp_ok RX8 180 0 10 .int := ⟨RX0, TX0, 12, tyX0, rfl, by decide, igX0, Or.inl (ly_in 235 (by decide +kernel) (by decide +kernel)), tyX0_ok, nmX0, by decide, by decide +kernel⟩
set_option maxRecDepth 20000 in
theorem fl_X0_40 : fl_ok RX0 40 0 11 := ⟨RX0, TX0, 12, rfl, by decide, igX0, Or.inl (ly_in 236 (by decide +kernel) (by decide +kernel))⟩
theorem fp_X0_40 : fp_ok RX0 40 0 11 .int := ⟨RX0, TX0, 12, tyX0, rfl, by decide, igX0, Or.inl (ly_in 236 (by decide +kernel) (by decide +kernel)), tyX0_ok, nmX0, by decide, by decide +kernel⟩
set_option maxRecDepth 20000 in
theorem fl_X8_196 : fl_ok RX8 196 0 11 := ⟨RX0, TX0, 12, rfl, by decide, igX0, Or.inl (ly_in 237 (by decide +kernel) (by decide +kernel))⟩
theorem fp_X8_196 : fp_ok RX8 196 0 11 .int := ⟨RX0, TX0, 12, tyX0, rfl, by decide, igX0, Or.inl (ly_in 237 (by decide +kernel) (by decide +kernel)), tyX0_ok, nmX0, by decide, by decide +kernel⟩
set_option maxRecDepth 20000 in
theorem fl_X3_15 : fl_ok RX3 15 3 0 := ⟨RX3, TX3, 3, rfl, by decide, igX3, Or.inl (ly_in 269 (by decide +kernel) (by decide +kernel))⟩
set_option maxRecDepth 20000 in
theorem fl_X3_19 : fl_ok RX3 19 3 1 := ⟨RX3, TX3, 3, rfl, by decide, igX3, Or.inl (ly_in 270 (by decide +kernel) (by decide +kernel))⟩
set_option maxRecDepth 20000 in
theorem fl_X3_9 : fl_ok RX3 9 3 2 := ⟨RX3, TX3, 3, rfl, by decide, igX3, Or.inl (ly_in 271 (by decide +kernel) (by decide +kernel))⟩
theorem fp_X3_9 : fp_ok RX3 9 3 2 .int := ⟨RX3, TX3, 3, tyX3, rfl, by decide, igX3, Or.inl (ly_in 271 (by decide +kernel) (by decide +kernel)), tyX3_ok, nmX3, by decide, by decide +kernel⟩
set_option maxRecDepth 20000 in
theorem fl_X8_170 : fl_ok RX8 170 3 2 := ⟨RX3, TX3, 3, rfl, by decide, igX3, Or.inl (ly_in 272 (by decide +kernel) (by decide +kernel))⟩
theorem fp_X8_170 : fp_ok RX8 170 3 2 .int := ⟨RX3, TX3, 3, tyX3, rfl, by decide, igX3, Or.inl (ly_in 272 (by decide +kernel) (by decide +kernel)), tyX3_ok, nmX3, by decide, by decide +kernel⟩
set_option maxRecDepth 20000 in
theorem fl_X1_30 : fl_ok RX1 30 1 0 := ⟨RX1, TX1, 8, rfl, by decide, igX1, Or.inl (ly_in 286 (by decide +kernel) (by decide +kernel))⟩
set_option maxRecDepth 20000 in
theorem fl_X1_34 : fl_ok RX1 34 1 1 := ⟨RX1, TX1, 8, rfl, by decide, igX1, Or.inl (ly_in 287 (by decide +kernel) (by decide +kernel))⟩
set_option maxRecDepth 20000 in
theorem fl_X1_9 : fl_ok RX1 9 1 2 := ⟨RX1, TX1, 8, rfl, by decide, igX1, Or.inl (ly_in 288 (by decide +kernel) (by decide +kernel))⟩
theorem fp_X1_9 : fp_ok RX1 9 1 2 .int := ⟨RX1, TX1, 8, tyX1, rfl, by decide, igX1, Or.inl (ly_in 288 (by decide +kernel) (by decide +kernel)), tyX1_ok, nmX1, by decide, by decide +kernel⟩
set_option maxRecDepth 20000 in
theorem fl_X1_15 : fl_ok RX1 15 1 3 := ⟨RX1, TX1, 8, rfl, by decide, igX1, Or.inl (ly_in 289 (by decide +kernel) (by decide +kernel))⟩
theorem fp_X1_15 : fp_ok RX1 15 1 3 .int := ⟨RX1, TX1, 8, tyX1, rfl, by decide, igX1, Or.inl (ly_in 289 (by decide +kernel) (by decide +kernel)), tyX1_ok, nmX1, by decide, by decide +kernel⟩
set_option maxRecDepth 20000 in
theorem fl_X1_18 : fl_ok RX1 18 1 4 := ⟨RX1, TX1, 8, rfl, by decide, igX1, Or.inl (ly_in 290 (by decide +kernel) (by decide +kernel))⟩
theorem fp_X1_18 : fp_ok RX1 18 1 4 .int := ⟨RX1, TX1, 8, tyX1, rfl, by decide, igX1, Or.inl (ly_in 290 (by decide +kernel) (by decide +kernel)), tyX1_ok, nmX1, by decide, by decide +kernel⟩
set_option maxRecDepth 20000 in
theorem fl_X1_21 : fl_ok RX1 21 1 5 := ⟨RX1, TX1, 8, rfl, by decide, igX1, Or.inl (ly_in 291 (by decide +kernel) (by decide +kernel))⟩
theorem fp_X1_21 : fp_ok RX1 21 1 5 .int := ⟨RX1, TX1, 8, tyX1, rfl, by decide, igX1, Or.inl (ly_in 291 (by decide +kernel) (by decide +kernel)), tyX1_ok, nmX1, by decide, by decide +kernel⟩
set_option maxRecDepth 20000 in
theorem fl_X1_24 : fl_ok RX1 24 1 6 := ⟨RX1, TX1, 8, rfl, by decide, igX1, Or.inl (ly_in 292 (by decide +kernel) (by decide +kernel))⟩
theorem fp_X1_24 : fp_ok RX1 24 1 6 .int := ⟨RX1, TX1, 8, tyX1, rfl, by decide, igX1, Or.inl (ly_in 292 (by decide +kernel) (by decide +kernel)), tyX1_ok, nmX1, by decide, by decide +kernel⟩
set_option maxRecDepth 20000 in
theorem fl_X1_27 : fl_ok RX1 27 1 7 := ⟨RX1, TX1, 8, rfl, by decide, igX1, Or.inl (ly_in 293 (by decide +kernel) (by decide +kernel))⟩
theorem fp_X1_27 : fp_ok RX1 27 1 7 .int := ⟨RX1, TX1, 8, tyX1, rfl, by decide, igX1, Or.inl (ly_in 293 (by decide +kernel) (by decide +kernel)), tyX1_ok, nmX1, by decide, by decide +kernel⟩
set_option maxRecDepth 20000 in
theorem fl_X8_189 : fl_ok RX8 189 1 7 := ⟨RX1, TX1, 8, rfl, by decide, igX1, Or.inl (ly_in 294 (by decide +kernel) (by decide +kernel))⟩
theorem fp_X8_189 : fp_ok RX8 189 1 7 .int := ⟨RX1, TX1, 8, tyX1, rfl, by decide, igX1, Or.inl (ly_in 294 (by decide +kernel) (by decide +kernel)), tyX1_ok, nmX1, by decide, by decide +kernel⟩
set_option maxRecDepth 20000 in
theorem fl_X8_10 : fl_ok RX8 10 8 0 := ⟨RX8, TX8, 9, rfl, by decide, igX8, Or.inl (ly_in 312 (by decide +kernel) (by decide +kernel))⟩
set_option maxRecDepth 20000 in
theorem fl_X8_19 : fl_ok RX8 19 8 1 := ⟨RX8, TX8, 9, rfl, by decide, igX8, Or.inl (ly_in 313 (by decide +kernel) (by decide +kernel))⟩
set_option maxRecDepth 20000 in
theorem fl_X8_26 : fl_ok RX8 26 8 2 := ⟨RX8, TX8, 9, rfl, by decide, igX8, Or.inl (ly_in 314 (by decide +kernel) (by decide +kernel))⟩
set_option maxRecDepth 20000 in
theorem fl_X8_35 : fl_ok RX8 35 8 3 := ⟨RX8, TX8, 9, rfl, by decide, igX8, Or.inl (ly_in 315 (by decide +kernel) (by decide +kernel))⟩
set_option maxRecDepth 20000 in
theorem fl_X8_42 : fl_ok RX8 42 8 4 := ⟨RX8, TX8, 9, rfl, by decide, igX8, Or.inl (ly_in 316 (by decide +kernel) (by decide +kernel))⟩
set_option maxRecDepth 20000 in
theorem fl_X8_51 : fl_ok RX8 51 8 5 := ⟨RX8, TX8, 9, rfl, by decide, igX8, Or.inl (ly_in 317 (by decide +kernel) (by decide +kernel))⟩
set_option maxRecDepth 20000 in
theorem fl_X8_58 : fl_ok RX8 58 8 6 := ⟨RX8, TX8, 9, rfl, by decide, igX8, Or.inl (ly_in 318 (by decide +kernel) (by decide +kernel))⟩
set_option maxRecDepth 20000 in
theorem fl_X8_67 : fl_ok RX8 67 8 7 := ⟨RX8, TX8, 9, rfl, by decide, igX8, Or.inl (ly_in 319 (by decide +kernel) (by decide +kernel))⟩
set_option maxRecDepth 20000 in
theorem fl_X8_71 : fl_ok RX8 71 8 8 := ⟨RX8, TX8, 9, rfl, by decide, igX8, Or.inl (ly_in 320 (by decide +kernel) (by decide +kernel))⟩
theorem fp_X8_71 : fp_ok RX8 71 8 8 .int := ⟨RX8, TX8, 9, tyX8, rfl, by decide, igX8, Or.inl (ly_in 320 (by decide +kernel) (by decide +kernel)), tyX8_ok, nmX8, by decide, by decide +kernel⟩
theorem zs_X2_30 : Cond.fieldLink RX2 30 "PathInterdiction$Graph" "SHIFTS" "[I" ∈ ly_G := (ly_in 392 (by decide +kernel) (by decide +kernel))
theorem zs_X2_33 : Cond.fieldLink RX2 33 "PathInterdiction$Graph" "MASKS" "[I" ∈ ly_G := (ly_in 394 (by decide +kernel) (by decide +kernel))
set_option maxRecDepth 20000 in
theorem fl_X9_7 : fl_ok RX9 7 9 0 := ⟨RX9, TX9, 19, rfl, by decide, igX9, Or.inl (ly_in 776 (by decide +kernel) (by decide +kernel))⟩
set_option maxRecDepth 20000 in
theorem fl_X9_13 : fl_ok RX9 13 9 1 := ⟨RX9, TX9, 19, rfl, by decide, igX9, Or.inl (ly_in 777 (by decide +kernel) (by decide +kernel))⟩
set_option maxRecDepth 20000 in
theorem fl_X9_50 : fl_ok RX9 50 9 2 := ⟨RX9, TX9, 19, rfl, by decide, igX9, Or.inl (ly_in 778 (by decide +kernel) (by decide +kernel))⟩
theorem fp_X9_50 : fp_ok RX9 50 9 2 .int := ⟨RX9, TX9, 19, tyX9, rfl, by decide, igX9, Or.inl (ly_in 778 (by decide +kernel) (by decide +kernel)), tyX9_ok, nmX9, by decide, by decide +kernel⟩
set_option maxRecDepth 20000 in
theorem fl_X9_16 : fl_ok RX9 16 9 3 := ⟨RX9, TX9, 19, rfl, by decide, igX9, Or.inl (ly_in 779 (by decide +kernel) (by decide +kernel))⟩
theorem fp_X9_16 : fp_ok RX9 16 9 3 .int := ⟨RX9, TX9, 19, tyX9, rfl, by decide, igX9, Or.inl (ly_in 779 (by decide +kernel) (by decide +kernel)), tyX9_ok, nmX9, by decide, by decide +kernel⟩
set_option maxRecDepth 20000 in
theorem fl_X9_20 : fl_ok RX9 20 9 4 := ⟨RX9, TX9, 19, rfl, by decide, igX9, Or.inl (ly_in 780 (by decide +kernel) (by decide +kernel))⟩
set_option maxRecDepth 20000 in
theorem fl_X9_70 : fl_ok RX9 70 9 5 := ⟨RX9, TX9, 19, rfl, by decide, igX9, Or.inl (ly_in 781 (by decide +kernel) (by decide +kernel))⟩
theorem fp_X9_70 : fp_ok RX9 70 9 5 .int := ⟨RX9, TX9, 19, tyX9, rfl, by decide, igX9, Or.inl (ly_in 781 (by decide +kernel) (by decide +kernel)), tyX9_ok, nmX9, by decide, by decide +kernel⟩
set_option maxRecDepth 20000 in
theorem fl_X9_23 : fl_ok RX9 23 9 6 := ⟨RX9, TX9, 19, rfl, by decide, igX9, Or.inl (ly_in 782 (by decide +kernel) (by decide +kernel))⟩
set_option maxRecDepth 20000 in
theorem fl_X9_98 : fl_ok RX9 98 9 7 := ⟨RX9, TX9, 19, rfl, by decide, igX9, Or.inl (ly_in 783 (by decide +kernel) (by decide +kernel))⟩
theorem fp_X9_98 : fp_ok RX9 98 9 7 .int := ⟨RX9, TX9, 19, tyX9, rfl, by decide, igX9, Or.inl (ly_in 783 (by decide +kernel) (by decide +kernel)), tyX9_ok, nmX9, by decide, by decide +kernel⟩
set_option maxRecDepth 20000 in
theorem fl_X9_73 : fl_ok RX9 73 9 8 := ⟨RX9, TX9, 19, rfl, by decide, igX9, Or.inl (ly_in 784 (by decide +kernel) (by decide +kernel))⟩
theorem fp_X9_73 : fp_ok RX9 73 9 8 .int := ⟨RX9, TX9, 19, tyX9, rfl, by decide, igX9, Or.inl (ly_in 784 (by decide +kernel) (by decide +kernel)), tyX9_ok, nmX9, by decide, by decide +kernel⟩
set_option maxRecDepth 20000 in
theorem fl_X9_83 : fl_ok RX9 83 9 9 := ⟨RX9, TX9, 19, rfl, by decide, igX9, Or.inl (ly_in 785 (by decide +kernel) (by decide +kernel))⟩
theorem fp_X9_83 : fp_ok RX9 83 9 9 .boolean := ⟨RX9, TX9, 19, tyX9, rfl, by decide, igX9, Or.inl (ly_in 785 (by decide +kernel) (by decide +kernel)), tyX9_ok, nmX9, by decide, by decide +kernel⟩
set_option maxRecDepth 20000 in
theorem fl_X9_26 : fl_ok RX9 26 9 10 := ⟨RX9, TX9, 19, rfl, by decide, igX9, Or.inl (ly_in 786 (by decide +kernel) (by decide +kernel))⟩
set_option maxRecDepth 20000 in
theorem fl_X9_29 : fl_ok RX9 29 9 11 := ⟨RX9, TX9, 19, rfl, by decide, igX9, Or.inl (ly_in 787 (by decide +kernel) (by decide +kernel))⟩
set_option maxRecDepth 20000 in
theorem fl_X9_138 : fl_ok RX9 138 9 12 := ⟨RX9, TX9, 19, rfl, by decide, igX9, Or.inl (ly_in 788 (by decide +kernel) (by decide +kernel))⟩
theorem fp_X9_138 : fp_ok RX9 138 9 12 .int := ⟨RX9, TX9, 19, tyX9, rfl, by decide, igX9, Or.inl (ly_in 788 (by decide +kernel) (by decide +kernel)), tyX9_ok, nmX9, by decide, by decide +kernel⟩
set_option maxRecDepth 20000 in
theorem fl_X9_141 : fl_ok RX9 141 9 13 := ⟨RX9, TX9, 19, rfl, by decide, igX9, Or.inl (ly_in 789 (by decide +kernel) (by decide +kernel))⟩
theorem fp_X9_141 : fp_ok RX9 141 9 13 .int := ⟨RX9, TX9, 19, tyX9, rfl, by decide, igX9, Or.inl (ly_in 789 (by decide +kernel) (by decide +kernel)), tyX9_ok, nmX9, by decide, by decide +kernel⟩
set_option maxRecDepth 20000 in
theorem fl_X9_144 : fl_ok RX9 144 9 14 := ⟨RX9, TX9, 19, rfl, by decide, igX9, Or.inl (ly_in 790 (by decide +kernel) (by decide +kernel))⟩
theorem fp_X9_144 : fp_ok RX9 144 9 14 .int := ⟨RX9, TX9, 19, tyX9, rfl, by decide, igX9, Or.inl (ly_in 790 (by decide +kernel) (by decide +kernel)), tyX9_ok, nmX9, by decide, by decide +kernel⟩
set_option maxRecDepth 20000 in
theorem fl_X9_32 : fl_ok RX9 32 9 15 := ⟨RX9, TX9, 19, rfl, by decide, igX9, Or.inl (ly_in 791 (by decide +kernel) (by decide +kernel))⟩
set_option maxRecDepth 20000 in
theorem fl_X9_35 : fl_ok RX9 35 9 16 := ⟨RX9, TX9, 19, rfl, by decide, igX9, Or.inl (ly_in 792 (by decide +kernel) (by decide +kernel))⟩
set_option maxRecDepth 20000 in
theorem fl_X9_163 : fl_ok RX9 163 9 17 := ⟨RX9, TX9, 19, rfl, by decide, igX9, Or.inl (ly_in 793 (by decide +kernel) (by decide +kernel))⟩
theorem fp_X9_163 : fp_ok RX9 163 9 17 .int := ⟨RX9, TX9, 19, tyX9, rfl, by decide, igX9, Or.inl (ly_in 793 (by decide +kernel) (by decide +kernel)), tyX9_ok, nmX9, by decide, by decide +kernel⟩
set_option maxRecDepth 20000 in
theorem fl_X9_197 : fl_ok RX9 197 9 18 := ⟨RX9, TX9, 19, rfl, by decide, igX9, Or.inl (ly_in 794 (by decide +kernel) (by decide +kernel))⟩
theorem fp_X9_197 : fp_ok RX9 197 9 18 .long := ⟨RX9, TX9, 19, tyX9, rfl, by decide, igX9, Or.inl (ly_in 794 (by decide +kernel) (by decide +kernel)), tyX9_ok, nmX9, by decide, by decide +kernel⟩
theorem kc_J6_265 : Cond.constant RJ6 265 (1431655765) ∈ ly_G := (ly_in 690 (by decide +kernel) (by decide +kernel))
theorem kc_J6_266 : Cond.constant RJ6 266 (858993459) ∈ ly_G := (ly_in 691 (by decide +kernel) (by decide +kernel))
theorem kc_J6_267 : Cond.constant RJ6 267 (252645135) ∈ ly_G := (ly_in 692 (by decide +kernel) (by decide +kernel))
theorem kc_X8_203 : Cond.constantLong RX8 203 (-2) ∈ ly_G := (ly_in 719 (by decide +kernel) (by decide +kernel))
theorem kc_X8_227 : Cond.constantLong RX8 227 (61) ∈ ly_G := (ly_in 763 (by decide +kernel) (by decide +kernel))
theorem kc_X8_229 : Cond.constantLong RX8 229 (31) ∈ ly_G := (ly_in 764 (by decide +kernel) (by decide +kernel))
theorem kc_X9_188 : Cond.constantLong RX9 188 (-2) ∈ ly_G := (ly_in 1077 (by decide +kernel) (by decide +kernel))
theorem kc_X9_201 : Cond.constantLong RX9 201 (61) ∈ ly_G := (ly_in 1098 (by decide +kernel) (by decide +kernel))
theorem kc_X9_195 : Cond.constantLong RX9 195 (31) ∈ ly_G := (ly_in 1104 (by decide +kernel) (by decide +kernel))
theorem ly_copy : Cond.native arraycopyName ∈ ly_G ∧ Cond.static arraycopyName ∈ ly_G ∧ Cond.initialized "java/lang/System" ∈ ly_G := ⟨(ly_in 363 (by decide +kernel) (by decide +kernel)), (ly_in 362 (by decide +kernel) (by decide +kernel)), (ly_in 65 (by decide +kernel) (by decide +kernel))⟩
theorem ly_copy_X2_57 : Cond.methodLink RX2 57 arraycopyName ∈ ly_G := (ly_in 361 (by decide +kernel) (by decide +kernel))
theorem ly_z0 : (90, "PathInterdiction$Graph", "SHIFTS", "[I", 5, fun j => [0, 3, 6, 13, 20].getD j 0) ∈ ly_Z := List.mem_cons_self
theorem ly_z1 : (91, "PathInterdiction$Graph", "MASKS", "[I", 5, fun j => [7, 7, 127, 127, 15].getD j 0) ∈ ly_Z := List.mem_cons_of_mem _ List.mem_cons_self
end
section
/-! links of calls -/
set_option maxRecDepth 20000 in
theorem cd_X8_addEdge : Cond.code mX8_addEdge.1 mX8_addEdge.2.1 mX8_addEdge.2.2.1 mX8_addEdge.2.2.2 ∈ ly_G := (ly_in 343 rfl rfl)
theorem cw_X8_addEdge : Cond.instanceMethod mX8_addEdge.1 ∈ ly_G ∧ Cond.selects mX8_addEdge.1.cls mX8_addEdge.1 mX8_addEdge.1 ∈ ly_G ∧ Cond.initialized mX8_addEdge.1.cls ∈ ly_G := ⟨(ly_in 341 (by decide +kernel) (by decide +kernel)), (ly_in 342 (by decide +kernel) (by decide +kernel)), (ly_in 55 (by decide +kernel) (by decide +kernel))⟩
theorem cv_L_13 : cv_ok RL 13 mX8_addEdge 8 5 := ⟨by decide +kernel, Or.inl (ly_in 340 (by decide +kernel) (by decide +kernel)), cw_X8_addEdge.1, cw_X8_addEdge.2.1, cw_X8_addEdge.2.2, cd_X8_addEdge, by decide +kernel, by decide⟩
set_option maxRecDepth 20000 in
theorem cd_X8_areNodes : Cond.code mX8_areNodes.1 mX8_areNodes.2.1 mX8_areNodes.2.2.1 mX8_areNodes.2.2.2 ∈ ly_G := (ly_in 346 rfl rfl)
theorem cw_X8_areNodes : Cond.static mX8_areNodes.1 ∈ ly_G ∧ Cond.initialized mX8_areNodes.1.cls ∈ ly_G := ⟨(ly_in 345 (by decide +kernel) (by decide +kernel)), (ly_in 55 (by decide +kernel) (by decide +kernel))⟩
theorem cs_X8_75 : cs_ok RX8 75 mX8_areNodes 2 := ⟨Or.inl (ly_in 344 (by decide +kernel) (by decide +kernel)), cw_X8_areNodes.1, cw_X8_areNodes.2, cd_X8_areNodes, by decide +kernel, by decide⟩
set_option maxRecDepth 20000 in
theorem cd_X8_isWithin : Cond.code mX8_isWithin.1 mX8_isWithin.2.1 mX8_isWithin.2.2.1 mX8_isWithin.2.2.2 ∈ ly_G := (ly_in 349 rfl rfl)
theorem cw_X8_isWithin : Cond.static mX8_isWithin.1 ∈ ly_G ∧ Cond.initialized mX8_isWithin.1.cls ∈ ly_G := ⟨(ly_in 348 (by decide +kernel) (by decide +kernel)), (ly_in 55 (by decide +kernel) (by decide +kernel))⟩
theorem cs_X8_164 : cs_ok RX8 164 mX8_isWithin 2 := ⟨Or.inl (ly_in 347 (by decide +kernel) (by decide +kernel)), cw_X8_isWithin.1, cw_X8_isWithin.2, cd_X8_isWithin, by decide +kernel, by decide⟩
set_option maxRecDepth 20000 in
theorem cd_X2_isValue : Cond.code mX2_isValue.1 mX2_isValue.2.1 mX2_isValue.2.2.1 mX2_isValue.2.2.2 ∈ ly_G := (ly_in 352 rfl rfl)
theorem cw_X2_isValue : Cond.static mX2_isValue.1 ∈ ly_G ∧ Cond.initialized mX2_isValue.1.cls ∈ ly_G := ⟨(ly_in 351 (by decide +kernel) (by decide +kernel)), (ly_in 56 (by decide +kernel) (by decide +kernel))⟩
theorem cs_X8_79 : cs_ok RX8 79 mX2_isValue 2 := ⟨Or.inl (ly_in 350 (by decide +kernel) (by decide +kernel)), cw_X2_isValue.1, cw_X2_isValue.2, cd_X2_isValue, by decide +kernel, by decide⟩
set_option maxRecDepth 20000 in
theorem cd_X4_keep : Cond.code mX4_keep.1 mX4_keep.2.1 mX4_keep.2.2.1 mX4_keep.2.2.2 ∈ ly_G := (ly_in 356 rfl rfl)
theorem cw_X4_keep : Cond.instanceMethod mX4_keep.1 ∈ ly_G ∧ Cond.selects mX4_keep.1.cls mX4_keep.1 mX4_keep.1 ∈ ly_G ∧ Cond.initialized mX4_keep.1.cls ∈ ly_G := ⟨(ly_in 354 (by decide +kernel) (by decide +kernel)), (ly_in 355 (by decide +kernel) (by decide +kernel)), (ly_in 57 (by decide +kernel) (by decide +kernel))⟩
theorem cv_X8_85 : cv_ok RX8 85 mX4_keep 4 1 := ⟨by decide +kernel, Or.inl (ly_in 353 (by decide +kernel) (by decide +kernel)), cw_X4_keep.1, cw_X4_keep.2.1, cw_X4_keep.2.2, cd_X4_keep, by decide +kernel, by decide⟩
set_option maxRecDepth 20000 in
theorem cd_X2_copyTo : Cond.code mX2_copyTo.1 mX2_copyTo.2.1 mX2_copyTo.2.2.1 mX2_copyTo.2.2.2 ∈ ly_G := (ly_in 360 rfl rfl)
theorem cw_X2_copyTo : Cond.instanceMethod mX2_copyTo.1 ∈ ly_G ∧ Cond.selects mX2_copyTo.1.cls mX2_copyTo.1 mX2_copyTo.1 ∈ ly_G ∧ Cond.initialized mX2_copyTo.1.cls ∈ ly_G := ⟨(ly_in 358 (by decide +kernel) (by decide +kernel)), (ly_in 359 (by decide +kernel) (by decide +kernel)), (ly_in 56 (by decide +kernel) (by decide +kernel))⟩
theorem cv_X4_24 : cv_ok RX4 24 mX2_copyTo 2 2 := ⟨by decide +kernel, Or.inl (ly_in 357 (by decide +kernel) (by decide +kernel)), cw_X2_copyTo.1, cw_X2_copyTo.2.1, cw_X2_copyTo.2.2, cd_X2_copyTo, by decide +kernel, by decide⟩
set_option maxRecDepth 20000 in
theorem cd_X2_pack : Cond.code mX2_pack.1 mX2_pack.2.1 mX2_pack.2.2.1 mX2_pack.2.2.2 ∈ ly_G := (ly_in 366 rfl rfl)
theorem cw_X2_pack : Cond.static mX2_pack.1 ∈ ly_G ∧ Cond.initialized mX2_pack.1.cls ∈ ly_G := ⟨(ly_in 365 (by decide +kernel) (by decide +kernel)), (ly_in 56 (by decide +kernel) (by decide +kernel))⟩
theorem cs_X8_88 : cs_ok RX8 88 mX2_pack 5 := ⟨Or.inl (ly_in 364 (by decide +kernel) (by decide +kernel)), cw_X2_pack.1, cw_X2_pack.2, cd_X2_pack, by decide +kernel, by decide⟩
set_option maxRecDepth 20000 in
theorem cd_X2_append : Cond.code mX2_append.1 mX2_append.2.1 mX2_append.2.2.1 mX2_append.2.2.2 ∈ ly_G := (ly_in 370 rfl rfl)
theorem cw_X2_append : Cond.instanceMethod mX2_append.1 ∈ ly_G ∧ Cond.selects mX2_append.1.cls mX2_append.1 mX2_append.1 ∈ ly_G ∧ Cond.initialized mX2_append.1.cls ∈ ly_G := ⟨(ly_in 368 (by decide +kernel) (by decide +kernel)), (ly_in 369 (by decide +kernel) (by decide +kernel)), (ly_in 56 (by decide +kernel) (by decide +kernel))⟩
theorem cv_X8_92 : cv_ok RX8 92 mX2_append 2 1 := ⟨by decide +kernel, Or.inl (ly_in 367 (by decide +kernel) (by decide +kernel)), cw_X2_append.1, cw_X2_append.2.1, cw_X2_append.2.2, cd_X2_append, by decide +kernel, by decide⟩
set_option maxRecDepth 20000 in
theorem cd_X8_removeEdge : Cond.code mX8_removeEdge.1 mX8_removeEdge.2.1 mX8_removeEdge.2.2.1 mX8_removeEdge.2.2.2 ∈ ly_G := (ly_in 374 rfl rfl)
theorem cw_X8_removeEdge : Cond.instanceMethod mX8_removeEdge.1 ∈ ly_G ∧ Cond.selects mX8_removeEdge.1.cls mX8_removeEdge.1 mX8_removeEdge.1 ∈ ly_G ∧ Cond.initialized mX8_removeEdge.1.cls ∈ ly_G := ⟨(ly_in 372 (by decide +kernel) (by decide +kernel)), (ly_in 373 (by decide +kernel) (by decide +kernel)), (ly_in 55 (by decide +kernel) (by decide +kernel))⟩
theorem cv_L_18 : cv_ok RL 18 mX8_removeEdge 8 1 := ⟨by decide +kernel, Or.inl (ly_in 371 (by decide +kernel) (by decide +kernel)), cw_X8_removeEdge.1, cw_X8_removeEdge.2.1, cw_X8_removeEdge.2.2, cd_X8_removeEdge, by decide +kernel, by decide⟩
set_option maxRecDepth 20000 in
theorem cd_X2_has : Cond.code mX2_has.1 mX2_has.2.1 mX2_has.2.2.1 mX2_has.2.2.2 ∈ ly_G := (ly_in 378 rfl rfl)
theorem cw_X2_has : Cond.instanceMethod mX2_has.1 ∈ ly_G ∧ Cond.selects mX2_has.1.cls mX2_has.1 mX2_has.1 ∈ ly_G ∧ Cond.initialized mX2_has.1.cls ∈ ly_G := ⟨(ly_in 376 (by decide +kernel) (by decide +kernel)), (ly_in 377 (by decide +kernel) (by decide +kernel)), (ly_in 56 (by decide +kernel) (by decide +kernel))⟩
theorem cv_X8_96 : cv_ok RX8 96 mX2_has 2 1 := ⟨by decide +kernel, Or.inl (ly_in 375 (by decide +kernel) (by decide +kernel)), cw_X2_has.1, cw_X2_has.2.1, cw_X2_has.2.2, cd_X2_has, by decide +kernel, by decide⟩
set_option maxRecDepth 20000 in
theorem cd_X2_delete : Cond.code mX2_delete.1 mX2_delete.2.1 mX2_delete.2.2.1 mX2_delete.2.2.2 ∈ ly_G := (ly_in 382 rfl rfl)
theorem cw_X2_delete : Cond.instanceMethod mX2_delete.1 ∈ ly_G ∧ Cond.selects mX2_delete.1.cls mX2_delete.1 mX2_delete.1 ∈ ly_G ∧ Cond.initialized mX2_delete.1.cls ∈ ly_G := ⟨(ly_in 380 (by decide +kernel) (by decide +kernel)), (ly_in 381 (by decide +kernel) (by decide +kernel)), (ly_in 56 (by decide +kernel) (by decide +kernel))⟩
theorem cv_X8_100 : cv_ok RX8 100 mX2_delete 2 1 := ⟨by decide +kernel, Or.inl (ly_in 379 (by decide +kernel) (by decide +kernel)), cw_X2_delete.1, cw_X2_delete.2.1, cw_X2_delete.2.2, cd_X2_delete, by decide +kernel, by decide⟩
theorem cv_X2_26 : cv_ok RX2 26 mX2_has 2 1 := ⟨by decide +kernel, Or.inl (ly_in 383 (by decide +kernel) (by decide +kernel)), cw_X2_has.1, cw_X2_has.2.1, cw_X2_has.2.2, cd_X2_has, by decide +kernel, by decide⟩
set_option maxRecDepth 20000 in
theorem cd_X8_setEdge : Cond.code mX8_setEdge.1 mX8_setEdge.2.1 mX8_setEdge.2.2.1 mX8_setEdge.2.2.2 ∈ ly_G := (ly_in 387 rfl rfl)
theorem cw_X8_setEdge : Cond.instanceMethod mX8_setEdge.1 ∈ ly_G ∧ Cond.selects mX8_setEdge.1.cls mX8_setEdge.1 mX8_setEdge.1 ∈ ly_G ∧ Cond.initialized mX8_setEdge.1.cls ∈ ly_G := ⟨(ly_in 385 (by decide +kernel) (by decide +kernel)), (ly_in 386 (by decide +kernel) (by decide +kernel)), (ly_in 55 (by decide +kernel) (by decide +kernel))⟩
theorem cv_L_23 : cv_ok RL 23 mX8_setEdge 8 3 := ⟨by decide +kernel, Or.inl (ly_in 384 (by decide +kernel) (by decide +kernel)), cw_X8_setEdge.1, cw_X8_setEdge.2.1, cw_X8_setEdge.2.2, cd_X8_setEdge, by decide +kernel, by decide⟩
set_option maxRecDepth 20000 in
theorem cd_X2_part : Cond.code mX2_part.1 mX2_part.2.1 mX2_part.2.2.1 mX2_part.2.2.2 ∈ ly_G := (ly_in 391 rfl rfl)
theorem cw_X2_part : Cond.instanceMethod mX2_part.1 ∈ ly_G ∧ Cond.selects mX2_part.1.cls mX2_part.1 mX2_part.1 ∈ ly_G ∧ Cond.initialized mX2_part.1.cls ∈ ly_G := ⟨(ly_in 389 (by decide +kernel) (by decide +kernel)), (ly_in 390 (by decide +kernel) (by decide +kernel)), (ly_in 56 (by decide +kernel) (by decide +kernel))⟩
theorem cv_X8_103 : cv_ok RX8 103 mX2_part 2 2 := ⟨by decide +kernel, Or.inl (ly_in 388 (by decide +kernel) (by decide +kernel)), cw_X2_part.1, cw_X2_part.2.1, cw_X2_part.2.2, cd_X2_part, by decide +kernel, by decide⟩
set_option maxRecDepth 20000 in
theorem cd_X2_setPart : Cond.code mX2_setPart.1 mX2_setPart.2.1 mX2_setPart.2.2.1 mX2_setPart.2.2.2 ∈ ly_G := (ly_in 399 rfl rfl)
theorem cw_X2_setPart : Cond.instanceMethod mX2_setPart.1 ∈ ly_G ∧ Cond.selects mX2_setPart.1.cls mX2_setPart.1 mX2_setPart.1 ∈ ly_G ∧ Cond.initialized mX2_setPart.1.cls ∈ ly_G := ⟨(ly_in 397 (by decide +kernel) (by decide +kernel)), (ly_in 398 (by decide +kernel) (by decide +kernel)), (ly_in 56 (by decide +kernel) (by decide +kernel))⟩
theorem cv_X8_107 : cv_ok RX8 107 mX2_setPart 2 3 := ⟨by decide +kernel, Or.inl (ly_in 396 (by decide +kernel) (by decide +kernel)), cw_X2_setPart.1, cw_X2_setPart.2.1, cw_X2_setPart.2.2, cd_X2_setPart, by decide +kernel, by decide⟩
theorem cs_X2_36 : cs_ok RX2 36 mX2_isValue 2 := ⟨Or.inl (ly_in 400 (by decide +kernel) (by decide +kernel)), cw_X2_isValue.1, cw_X2_isValue.2, cd_X2_isValue, by decide +kernel, by decide⟩
set_option maxRecDepth 20000 in
theorem cd_X8_edge : Cond.code mX8_edge.1 mX8_edge.2.1 mX8_edge.2.2.1 mX8_edge.2.2.2 ∈ ly_G := (ly_in 404 rfl rfl)
theorem cw_X8_edge : Cond.instanceMethod mX8_edge.1 ∈ ly_G ∧ Cond.selects mX8_edge.1.cls mX8_edge.1 mX8_edge.1 ∈ ly_G ∧ Cond.initialized mX8_edge.1.cls ∈ ly_G := ⟨(ly_in 402 (by decide +kernel) (by decide +kernel)), (ly_in 403 (by decide +kernel) (by decide +kernel)), (ly_in 55 (by decide +kernel) (by decide +kernel))⟩
theorem cv_L_28 : cv_ok RL 28 mX8_edge 8 2 := ⟨by decide +kernel, Or.inl (ly_in 401 (by decide +kernel) (by decide +kernel)), cw_X8_edge.1, cw_X8_edge.2.1, cw_X8_edge.2.2, cd_X8_edge, by decide +kernel, by decide⟩
set_option maxRecDepth 20000 in
theorem cd_X8_clear : Cond.code mX8_clear.1 mX8_clear.2.1 mX8_clear.2.2.1 mX8_clear.2.2.2 ∈ ly_G := (ly_in 408 rfl rfl)
theorem cw_X8_clear : Cond.instanceMethod mX8_clear.1 ∈ ly_G ∧ Cond.selects mX8_clear.1.cls mX8_clear.1 mX8_clear.1 ∈ ly_G ∧ Cond.initialized mX8_clear.1.cls ∈ ly_G := ⟨(ly_in 406 (by decide +kernel) (by decide +kernel)), (ly_in 407 (by decide +kernel) (by decide +kernel)), (ly_in 55 (by decide +kernel) (by decide +kernel))⟩
theorem cv_L_33 : cv_ok RL 33 mX8_clear 8 0 := ⟨by decide +kernel, Or.inl (ly_in 405 (by decide +kernel) (by decide +kernel)), cw_X8_clear.1, cw_X8_clear.2.1, cw_X8_clear.2.2, cd_X8_clear, by decide +kernel, by decide⟩
set_option maxRecDepth 20000 in
theorem cd_X2_empty : Cond.code mX2_empty.1 mX2_empty.2.1 mX2_empty.2.2.1 mX2_empty.2.2.2 ∈ ly_G := (ly_in 412 rfl rfl)
theorem cw_X2_empty : Cond.instanceMethod mX2_empty.1 ∈ ly_G ∧ Cond.selects mX2_empty.1.cls mX2_empty.1 mX2_empty.1 ∈ ly_G ∧ Cond.initialized mX2_empty.1.cls ∈ ly_G := ⟨(ly_in 410 (by decide +kernel) (by decide +kernel)), (ly_in 411 (by decide +kernel) (by decide +kernel)), (ly_in 56 (by decide +kernel) (by decide +kernel))⟩
theorem cv_X8_114 : cv_ok RX8 114 mX2_empty 2 0 := ⟨by decide +kernel, Or.inl (ly_in 409 (by decide +kernel) (by decide +kernel)), cw_X2_empty.1, cw_X2_empty.2.1, cw_X2_empty.2.2, cd_X2_empty, by decide +kernel, by decide⟩
set_option maxRecDepth 20000 in
theorem cd_X8_type : Cond.code mX8_type.1 mX8_type.2.1 mX8_type.2.2.1 mX8_type.2.2.2 ∈ ly_G := (ly_in 416 rfl rfl)
theorem cw_X8_type : Cond.instanceMethod mX8_type.1 ∈ ly_G ∧ Cond.selects mX8_type.1.cls mX8_type.1 mX8_type.1 ∈ ly_G ∧ Cond.initialized mX8_type.1.cls ∈ ly_G := ⟨(ly_in 414 (by decide +kernel) (by decide +kernel)), (ly_in 415 (by decide +kernel) (by decide +kernel)), (ly_in 55 (by decide +kernel) (by decide +kernel))⟩
theorem cv_L_38 : cv_ok RL 38 mX8_type 8 1 := ⟨by decide +kernel, Or.inl (ly_in 413 (by decide +kernel) (by decide +kernel)), cw_X8_type.1, cw_X8_type.2.1, cw_X8_type.2.2, cd_X8_type, by decide +kernel, by decide⟩
set_option maxRecDepth 20000 in
theorem cd_X6_append : Cond.code mX6_append.1 mX6_append.2.1 mX6_append.2.2.1 mX6_append.2.2.2 ∈ ly_G := (ly_in 420 rfl rfl)
theorem cw_X6_append : Cond.instanceMethod mX6_append.1 ∈ ly_G ∧ Cond.selects mX6_append.1.cls mX6_append.1 mX6_append.1 ∈ ly_G ∧ Cond.initialized mX6_append.1.cls ∈ ly_G := ⟨(ly_in 418 (by decide +kernel) (by decide +kernel)), (ly_in 419 (by decide +kernel) (by decide +kernel)), (ly_in 58 (by decide +kernel) (by decide +kernel))⟩
theorem cv_X8_117 : cv_ok RX8 117 mX6_append 6 1 := ⟨by decide +kernel, Or.inl (ly_in 417 (by decide +kernel) (by decide +kernel)), cw_X6_append.1, cw_X6_append.2.1, cw_X6_append.2.2, cd_X6_append, by decide +kernel, by decide⟩
set_option maxRecDepth 20000 in
theorem cd_X8_clearText : Cond.code mX8_clearText.1 mX8_clearText.2.1 mX8_clearText.2.2.1 mX8_clearText.2.2.2 ∈ ly_G := (ly_in 424 rfl rfl)
theorem cw_X8_clearText : Cond.instanceMethod mX8_clearText.1 ∈ ly_G ∧ Cond.selects mX8_clearText.1.cls mX8_clearText.1 mX8_clearText.1 ∈ ly_G ∧ Cond.initialized mX8_clearText.1.cls ∈ ly_G := ⟨(ly_in 422 (by decide +kernel) (by decide +kernel)), (ly_in 423 (by decide +kernel) (by decide +kernel)), (ly_in 55 (by decide +kernel) (by decide +kernel))⟩
theorem cv_L_42 : cv_ok RL 42 mX8_clearText 8 0 := ⟨by decide +kernel, Or.inl (ly_in 421 (by decide +kernel) (by decide +kernel)), cw_X8_clearText.1, cw_X8_clearText.2.1, cw_X8_clearText.2.2, cd_X8_clearText, by decide +kernel, by decide⟩
set_option maxRecDepth 20000 in
theorem cd_X8_fault : Cond.code mX8_fault.1 mX8_fault.2.1 mX8_fault.2.2.1 mX8_fault.2.2.2 ∈ ly_G := (ly_in 428 rfl rfl)
theorem cw_X8_fault : Cond.instanceMethod mX8_fault.1 ∈ ly_G ∧ Cond.selects mX8_fault.1.cls mX8_fault.1 mX8_fault.1 ∈ ly_G ∧ Cond.initialized mX8_fault.1.cls ∈ ly_G := ⟨(ly_in 426 (by decide +kernel) (by decide +kernel)), (ly_in 427 (by decide +kernel) (by decide +kernel)), (ly_in 55 (by decide +kernel) (by decide +kernel))⟩
theorem cv_L_46 : cv_ok RL 46 mX8_fault 8 0 := ⟨by decide +kernel, Or.inl (ly_in 425 (by decide +kernel) (by decide +kernel)), cw_X8_fault.1, cw_X8_fault.2.1, cw_X8_fault.2.2, cd_X8_fault, by decide +kernel, by decide⟩
set_option maxRecDepth 20000 in
theorem cd_X6_scan : Cond.code mX6_scan.1 mX6_scan.2.1 mX6_scan.2.2.1 mX6_scan.2.2.2 ∈ ly_G := (ly_in 432 rfl rfl)
theorem cw_X6_scan : Cond.instanceMethod mX6_scan.1 ∈ ly_G ∧ Cond.selects mX6_scan.1.cls mX6_scan.1 mX6_scan.1 ∈ ly_G ∧ Cond.initialized mX6_scan.1.cls ∈ ly_G := ⟨(ly_in 430 (by decide +kernel) (by decide +kernel)), (ly_in 431 (by decide +kernel) (by decide +kernel)), (ly_in 58 (by decide +kernel) (by decide +kernel))⟩
theorem cv_X8_120 : cv_ok RX8 120 mX6_scan 6 0 := ⟨by decide +kernel, Or.inl (ly_in 429 (by decide +kernel) (by decide +kernel)), cw_X6_scan.1, cw_X6_scan.2.1, cw_X6_scan.2.2, cd_X6_scan, by decide +kernel, by decide⟩
set_option maxRecDepth 20000 in
theorem cd_X6_skipBlanks : Cond.code mX6_skipBlanks.1 mX6_skipBlanks.2.1 mX6_skipBlanks.2.2.1 mX6_skipBlanks.2.2.2 ∈ ly_G := (ly_in 436 rfl rfl)
theorem cw_X6_skipBlanks : Cond.instanceMethod mX6_skipBlanks.1 ∈ ly_G ∧ Cond.selects mX6_skipBlanks.1.cls mX6_skipBlanks.1 mX6_skipBlanks.1 ∈ ly_G ∧ Cond.initialized mX6_skipBlanks.1.cls ∈ ly_G := ⟨(ly_in 435 (by decide +kernel) (by decide +kernel)), (ly_in 0 (by decide +kernel) (by decide +kernel)), (ly_in 58 (by decide +kernel) (by decide +kernel))⟩
theorem cv_X6_29 : cv_ok RX6 29 mX6_skipBlanks 6 0 := ⟨by decide +kernel, Or.inl (ly_in 433 (by decide +kernel) (by decide +kernel)), cw_X6_skipBlanks.1, cw_X6_skipBlanks.2.1, cw_X6_skipBlanks.2.2, cd_X6_skipBlanks, by decide +kernel, by decide⟩
set_option maxRecDepth 20000 in
theorem cd_X6_letterAt : Cond.code mX6_letterAt.1 mX6_letterAt.2.1 mX6_letterAt.2.2.1 mX6_letterAt.2.2.2 ∈ ly_G := (ly_in 440 rfl rfl)
theorem cw_X6_letterAt : Cond.instanceMethod mX6_letterAt.1 ∈ ly_G ∧ Cond.selects mX6_letterAt.1.cls mX6_letterAt.1 mX6_letterAt.1 ∈ ly_G ∧ Cond.initialized mX6_letterAt.1.cls ∈ ly_G := ⟨(ly_in 438 (by decide +kernel) (by decide +kernel)), (ly_in 439 (by decide +kernel) (by decide +kernel)), (ly_in 58 (by decide +kernel) (by decide +kernel))⟩
theorem cv_X6_63 : cv_ok RX6 63 mX6_letterAt 6 1 := ⟨by decide +kernel, Or.inl (ly_in 437 (by decide +kernel) (by decide +kernel)), cw_X6_letterAt.1, cw_X6_letterAt.2.1, cw_X6_letterAt.2.2, cd_X6_letterAt, by decide +kernel, by decide⟩
set_option maxRecDepth 20000 in
theorem cd_X6_readEdge : Cond.code mX6_readEdge.1 mX6_readEdge.2.1 mX6_readEdge.2.2.1 mX6_readEdge.2.2.2 ∈ ly_G := (ly_in 444 rfl rfl)
theorem cw_X6_readEdge : Cond.instanceMethod mX6_readEdge.1 ∈ ly_G ∧ Cond.selects mX6_readEdge.1.cls mX6_readEdge.1 mX6_readEdge.1 ∈ ly_G ∧ Cond.initialized mX6_readEdge.1.cls ∈ ly_G := ⟨(ly_in 443 (by decide +kernel) (by decide +kernel)), (ly_in 1 (by decide +kernel) (by decide +kernel)), (ly_in 58 (by decide +kernel) (by decide +kernel))⟩
theorem cv_X6_32 : cv_ok RX6 32 mX6_readEdge 6 0 := ⟨by decide +kernel, Or.inl (ly_in 441 (by decide +kernel) (by decide +kernel)), cw_X6_readEdge.1, cw_X6_readEdge.2.1, cw_X6_readEdge.2.2, cd_X6_readEdge, by decide +kernel, by decide⟩
set_option maxRecDepth 20000 in
theorem cd_X6_readNode : Cond.code mX6_readNode.1 mX6_readNode.2.1 mX6_readNode.2.2.1 mX6_readNode.2.2.2 ∈ ly_G := (ly_in 448 rfl rfl)
theorem cw_X6_readNode : Cond.instanceMethod mX6_readNode.1 ∈ ly_G ∧ Cond.selects mX6_readNode.1.cls mX6_readNode.1 mX6_readNode.1 ∈ ly_G ∧ Cond.initialized mX6_readNode.1.cls ∈ ly_G := ⟨(ly_in 447 (by decide +kernel) (by decide +kernel)), (ly_in 2 (by decide +kernel) (by decide +kernel)), (ly_in 58 (by decide +kernel) (by decide +kernel))⟩
theorem cv_X6_36 : cv_ok RX6 36 mX6_readNode 6 0 := ⟨by decide +kernel, Or.inl (ly_in 445 (by decide +kernel) (by decide +kernel)), cw_X6_readNode.1, cw_X6_readNode.2.1, cw_X6_readNode.2.2, cd_X6_readNode, by decide +kernel, by decide⟩
set_option maxRecDepth 20000 in
theorem cd_X6_readOtherNode : Cond.code mX6_readOtherNode.1 mX6_readOtherNode.2.1 mX6_readOtherNode.2.2.1 mX6_readOtherNode.2.2.2 ∈ ly_G := (ly_in 452 rfl rfl)
theorem cw_X6_readOtherNode : Cond.instanceMethod mX6_readOtherNode.1 ∈ ly_G ∧ Cond.selects mX6_readOtherNode.1.cls mX6_readOtherNode.1 mX6_readOtherNode.1 ∈ ly_G ∧ Cond.initialized mX6_readOtherNode.1.cls ∈ ly_G := ⟨(ly_in 451 (by decide +kernel) (by decide +kernel)), (ly_in 3 (by decide +kernel) (by decide +kernel)), (ly_in 58 (by decide +kernel) (by decide +kernel))⟩
theorem cv_X6_40 : cv_ok RX6 40 mX6_readOtherNode 6 1 := ⟨by decide +kernel, Or.inl (ly_in 449 (by decide +kernel) (by decide +kernel)), cw_X6_readOtherNode.1, cw_X6_readOtherNode.2.1, cw_X6_readOtherNode.2.2, cd_X6_readOtherNode, by decide +kernel, by decide⟩
set_option maxRecDepth 20000 in
theorem cd_X6_readNumber : Cond.code mX6_readNumber.1 mX6_readNumber.2.1 mX6_readNumber.2.2.1 mX6_readNumber.2.2.2 ∈ ly_G := (ly_in 456 rfl rfl)
theorem cw_X6_readNumber : Cond.instanceMethod mX6_readNumber.1 ∈ ly_G ∧ Cond.selects mX6_readNumber.1.cls mX6_readNumber.1 mX6_readNumber.1 ∈ ly_G ∧ Cond.initialized mX6_readNumber.1.cls ∈ ly_G := ⟨(ly_in 455 (by decide +kernel) (by decide +kernel)), (ly_in 4 (by decide +kernel) (by decide +kernel)), (ly_in 58 (by decide +kernel) (by decide +kernel))⟩
theorem cv_X6_44 : cv_ok RX6 44 mX6_readNumber 6 0 := ⟨by decide +kernel, Or.inl (ly_in 453 (by decide +kernel) (by decide +kernel)), cw_X6_readNumber.1, cw_X6_readNumber.2.1, cw_X6_readNumber.2.2, cd_X6_readNumber, by decide +kernel, by decide⟩
set_option maxRecDepth 20000 in
theorem cd_X6_digitAt : Cond.code mX6_digitAt.1 mX6_digitAt.2.1 mX6_digitAt.2.2.1 mX6_digitAt.2.2.2 ∈ ly_G := (ly_in 460 rfl rfl)
theorem cw_X6_digitAt : Cond.instanceMethod mX6_digitAt.1 ∈ ly_G ∧ Cond.selects mX6_digitAt.1.cls mX6_digitAt.1 mX6_digitAt.1 ∈ ly_G ∧ Cond.initialized mX6_digitAt.1.cls ∈ ly_G := ⟨(ly_in 459 (by decide +kernel) (by decide +kernel)), (ly_in 5 (by decide +kernel) (by decide +kernel)), (ly_in 58 (by decide +kernel) (by decide +kernel))⟩
theorem cv_X6_66 : cv_ok RX6 66 mX6_digitAt 6 1 := ⟨by decide +kernel, Or.inl (ly_in 457 (by decide +kernel) (by decide +kernel)), cw_X6_digitAt.1, cw_X6_digitAt.2.1, cw_X6_digitAt.2.2, cd_X6_digitAt, by decide +kernel, by decide⟩
set_option maxRecDepth 20000 in
theorem cd_X6_readSign : Cond.code mX6_readSign.1 mX6_readSign.2.1 mX6_readSign.2.2.1 mX6_readSign.2.2.2 ∈ ly_G := (ly_in 464 rfl rfl)
theorem cw_X6_readSign : Cond.instanceMethod mX6_readSign.1 ∈ ly_G ∧ Cond.selects mX6_readSign.1.cls mX6_readSign.1 mX6_readSign.1 ∈ ly_G ∧ Cond.initialized mX6_readSign.1.cls ∈ ly_G := ⟨(ly_in 463 (by decide +kernel) (by decide +kernel)), (ly_in 6 (by decide +kernel) (by decide +kernel)), (ly_in 58 (by decide +kernel) (by decide +kernel))⟩
theorem cv_X6_47 : cv_ok RX6 47 mX6_readSign 6 1 := ⟨by decide +kernel, Or.inl (ly_in 461 (by decide +kernel) (by decide +kernel)), cw_X6_readSign.1, cw_X6_readSign.2.1, cw_X6_readSign.2.2, cd_X6_readSign, by decide +kernel, by decide⟩
set_option maxRecDepth 20000 in
theorem cd_X6_readDelay : Cond.code mX6_readDelay.1 mX6_readDelay.2.1 mX6_readDelay.2.2.1 mX6_readDelay.2.2.2 ∈ ly_G := (ly_in 468 rfl rfl)
theorem cw_X6_readDelay : Cond.instanceMethod mX6_readDelay.1 ∈ ly_G ∧ Cond.selects mX6_readDelay.1.cls mX6_readDelay.1 mX6_readDelay.1 ∈ ly_G ∧ Cond.initialized mX6_readDelay.1.cls ∈ ly_G := ⟨(ly_in 467 (by decide +kernel) (by decide +kernel)), (ly_in 7 (by decide +kernel) (by decide +kernel)), (ly_in 58 (by decide +kernel) (by decide +kernel))⟩
theorem cv_X6_51 : cv_ok RX6 51 mX6_readDelay 6 0 := ⟨by decide +kernel, Or.inl (ly_in 465 (by decide +kernel) (by decide +kernel)), cw_X6_readDelay.1, cw_X6_readDelay.2.1, cw_X6_readDelay.2.2, cd_X6_readDelay, by decide +kernel, by decide⟩
set_option maxRecDepth 20000 in
theorem cd_X6_readCost : Cond.code mX6_readCost.1 mX6_readCost.2.1 mX6_readCost.2.2.1 mX6_readCost.2.2.2 ∈ ly_G := (ly_in 472 rfl rfl)
theorem cw_X6_readCost : Cond.instanceMethod mX6_readCost.1 ∈ ly_G ∧ Cond.selects mX6_readCost.1.cls mX6_readCost.1 mX6_readCost.1 ∈ ly_G ∧ Cond.initialized mX6_readCost.1.cls ∈ ly_G := ⟨(ly_in 471 (by decide +kernel) (by decide +kernel)), (ly_in 8 (by decide +kernel) (by decide +kernel)), (ly_in 58 (by decide +kernel) (by decide +kernel))⟩
theorem cv_X6_54 : cv_ok RX6 54 mX6_readCost 6 0 := ⟨by decide +kernel, Or.inl (ly_in 469 (by decide +kernel) (by decide +kernel)), cw_X6_readCost.1, cw_X6_readCost.2.1, cw_X6_readCost.2.2, cd_X6_readCost, by decide +kernel, by decide⟩
theorem cs_X6_57 : cs_ok RX6 57 mX2_pack 5 := ⟨Or.inl (ly_in 473 (by decide +kernel) (by decide +kernel)), cw_X2_pack.1, cw_X2_pack.2, cd_X2_pack, by decide +kernel, by decide⟩
set_option maxRecDepth 20000 in
theorem cd_X8_load : Cond.code mX8_load.1 mX8_load.2.1 mX8_load.2.2.1 mX8_load.2.2.2 ∈ ly_G := (ly_in 477 rfl rfl)
theorem cw_X8_load : Cond.instanceMethod mX8_load.1 ∈ ly_G ∧ Cond.selects mX8_load.1.cls mX8_load.1 mX8_load.1 ∈ ly_G ∧ Cond.initialized mX8_load.1.cls ∈ ly_G := ⟨(ly_in 475 (by decide +kernel) (by decide +kernel)), (ly_in 476 (by decide +kernel) (by decide +kernel)), (ly_in 55 (by decide +kernel) (by decide +kernel))⟩
theorem cv_L_50 : cv_ok RL 50 mX8_load 8 0 := ⟨by decide +kernel, Or.inl (ly_in 474 (by decide +kernel) (by decide +kernel)), cw_X8_load.1, cw_X8_load.2.1, cw_X8_load.2.2, cd_X8_load, by decide +kernel, by decide⟩
set_option maxRecDepth 20000 in
theorem cd_X6_codeOf : Cond.code mX6_codeOf.1 mX6_codeOf.2.1 mX6_codeOf.2.2.1 mX6_codeOf.2.2.2 ∈ ly_G := (ly_in 481 rfl rfl)
theorem cw_X6_codeOf : Cond.instanceMethod mX6_codeOf.1 ∈ ly_G ∧ Cond.selects mX6_codeOf.1.cls mX6_codeOf.1 mX6_codeOf.1 ∈ ly_G ∧ Cond.initialized mX6_codeOf.1.cls ∈ ly_G := ⟨(ly_in 479 (by decide +kernel) (by decide +kernel)), (ly_in 480 (by decide +kernel) (by decide +kernel)), (ly_in 58 (by decide +kernel) (by decide +kernel))⟩
theorem cv_X8_127 : cv_ok RX8 127 mX6_codeOf 6 1 := ⟨by decide +kernel, Or.inl (ly_in 478 (by decide +kernel) (by decide +kernel)), cw_X6_codeOf.1, cw_X6_codeOf.2.1, cw_X6_codeOf.2.2, cd_X6_codeOf, by decide +kernel, by decide⟩
set_option maxRecDepth 20000 in
theorem cd_X8_attack : Cond.code mX8_attack.1 mX8_attack.2.1 mX8_attack.2.2.1 mX8_attack.2.2.2 ∈ ly_G := (ly_in 485 rfl rfl)
theorem cw_X8_attack : Cond.instanceMethod mX8_attack.1 ∈ ly_G ∧ Cond.selects mX8_attack.1.cls mX8_attack.1 mX8_attack.1 ∈ ly_G ∧ Cond.initialized mX8_attack.1.cls ∈ ly_G := ⟨(ly_in 483 (by decide +kernel) (by decide +kernel)), (ly_in 484 (by decide +kernel) (by decide +kernel)), (ly_in 55 (by decide +kernel) (by decide +kernel))⟩
theorem cv_L_54 : cv_ok RL 54 mX8_attack 8 2 := ⟨by decide +kernel, Or.inl (ly_in 482 (by decide +kernel) (by decide +kernel)), cw_X8_attack.1, cw_X8_attack.2.1, cw_X8_attack.2.2, cd_X8_attack, by decide +kernel, by decide⟩
set_option maxRecDepth 20000 in
theorem cd_X2_costOfSet : Cond.code mX2_costOfSet.1 mX2_costOfSet.2.1 mX2_costOfSet.2.2.1 mX2_costOfSet.2.2.2 ∈ ly_G := (ly_in 489 rfl rfl)
theorem cw_X2_costOfSet : Cond.instanceMethod mX2_costOfSet.1 ∈ ly_G ∧ Cond.selects mX2_costOfSet.1.cls mX2_costOfSet.1 mX2_costOfSet.1 ∈ ly_G ∧ Cond.initialized mX2_costOfSet.1.cls ∈ ly_G := ⟨(ly_in 487 (by decide +kernel) (by decide +kernel)), (ly_in 488 (by decide +kernel) (by decide +kernel)), (ly_in 56 (by decide +kernel) (by decide +kernel))⟩
theorem cv_X8_131 : cv_ok RX8 131 mX2_costOfSet 2 1 := ⟨by decide +kernel, Or.inl (ly_in 486 (by decide +kernel) (by decide +kernel)), cw_X2_costOfSet.1, cw_X2_costOfSet.2.1, cw_X2_costOfSet.2.2, cd_X2_costOfSet, by decide +kernel, by decide⟩
set_option maxRecDepth 20000 in
theorem cd_X2_cost : Cond.code mX2_cost.1 mX2_cost.2.1 mX2_cost.2.2.1 mX2_cost.2.2.2 ∈ ly_G := (ly_in 493 rfl rfl)
theorem cw_X2_cost : Cond.instanceMethod mX2_cost.1 ∈ ly_G ∧ Cond.selects mX2_cost.1.cls mX2_cost.1 mX2_cost.1 ∈ ly_G ∧ Cond.initialized mX2_cost.1.cls ∈ ly_G := ⟨(ly_in 491 (by decide +kernel) (by decide +kernel)), (ly_in 492 (by decide +kernel) (by decide +kernel)), (ly_in 56 (by decide +kernel) (by decide +kernel))⟩
theorem cv_X2_40 : cv_ok RX2 40 mX2_cost 2 1 := ⟨by decide +kernel, Or.inl (ly_in 490 (by decide +kernel) (by decide +kernel)), cw_X2_cost.1, cw_X2_cost.2.1, cw_X2_cost.2.2, cd_X2_cost, by decide +kernel, by decide⟩
set_option maxRecDepth 20000 in
theorem cd_X8_setAttack : Cond.code mX8_setAttack.1 mX8_setAttack.2.1 mX8_setAttack.2.2.1 mX8_setAttack.2.2.2 ∈ ly_G := (ly_in 497 rfl rfl)
theorem cw_X8_setAttack : Cond.instanceMethod mX8_setAttack.1 ∈ ly_G ∧ Cond.selects mX8_setAttack.1.cls mX8_setAttack.1 mX8_setAttack.1 ∈ ly_G ∧ Cond.initialized mX8_setAttack.1.cls ∈ ly_G := ⟨(ly_in 495 (by decide +kernel) (by decide +kernel)), (ly_in 496 (by decide +kernel) (by decide +kernel)), (ly_in 55 (by decide +kernel) (by decide +kernel))⟩
theorem cv_L_59 : cv_ok RL 59 mX8_setAttack 8 1 := ⟨by decide +kernel, Or.inl (ly_in 494 (by decide +kernel) (by decide +kernel)), cw_X8_setAttack.1, cw_X8_setAttack.2.1, cw_X8_setAttack.2.2, cd_X8_setAttack, by decide +kernel, by decide⟩
set_option maxRecDepth 20000 in
theorem cd_X2_hasAll : Cond.code mX2_hasAll.1 mX2_hasAll.2.1 mX2_hasAll.2.2.1 mX2_hasAll.2.2.2 ∈ ly_G := (ly_in 501 rfl rfl)
theorem cw_X2_hasAll : Cond.instanceMethod mX2_hasAll.1 ∈ ly_G ∧ Cond.selects mX2_hasAll.1.cls mX2_hasAll.1 mX2_hasAll.1 ∈ ly_G ∧ Cond.initialized mX2_hasAll.1.cls ∈ ly_G := ⟨(ly_in 499 (by decide +kernel) (by decide +kernel)), (ly_in 500 (by decide +kernel) (by decide +kernel)), (ly_in 56 (by decide +kernel) (by decide +kernel))⟩
theorem cv_X8_134 : cv_ok RX8 134 mX2_hasAll 2 1 := ⟨by decide +kernel, Or.inl (ly_in 498 (by decide +kernel) (by decide +kernel)), cw_X2_hasAll.1, cw_X2_hasAll.2.1, cw_X2_hasAll.2.2, cd_X2_hasAll, by decide +kernel, by decide⟩
set_option maxRecDepth 20000 in
theorem cd_X2_all : Cond.code mX2_all.1 mX2_all.2.1 mX2_all.2.2.1 mX2_all.2.2.2 ∈ ly_G := (ly_in 505 rfl rfl)
theorem cw_X2_all : Cond.instanceMethod mX2_all.1 ∈ ly_G ∧ Cond.selects mX2_all.1.cls mX2_all.1 mX2_all.1 ∈ ly_G ∧ Cond.initialized mX2_all.1.cls ∈ ly_G := ⟨(ly_in 503 (by decide +kernel) (by decide +kernel)), (ly_in 504 (by decide +kernel) (by decide +kernel)), (ly_in 56 (by decide +kernel) (by decide +kernel))⟩
theorem cv_X2_22 : cv_ok RX2 22 mX2_all 2 0 := ⟨by decide +kernel, Or.inl (ly_in 502 (by decide +kernel) (by decide +kernel)), cw_X2_all.1, cw_X2_all.2.1, cw_X2_all.2.2, cd_X2_all, by decide +kernel, by decide⟩
set_option maxRecDepth 20000 in
theorem cd_X8_distance : Cond.code mX8_distance.1 mX8_distance.2.1 mX8_distance.2.2.1 mX8_distance.2.2.2 ∈ ly_G := (ly_in 509 rfl rfl)
theorem cw_X8_distance : Cond.instanceMethod mX8_distance.1 ∈ ly_G ∧ Cond.selects mX8_distance.1.cls mX8_distance.1 mX8_distance.1 ∈ ly_G ∧ Cond.initialized mX8_distance.1.cls ∈ ly_G := ⟨(ly_in 507 (by decide +kernel) (by decide +kernel)), (ly_in 508 (by decide +kernel) (by decide +kernel)), (ly_in 55 (by decide +kernel) (by decide +kernel))⟩
theorem cv_L_63 : cv_ok RL 63 mX8_distance 8 2 := ⟨by decide +kernel, Or.inl (ly_in 506 (by decide +kernel) (by decide +kernel)), cw_X8_distance.1, cw_X8_distance.2.1, cw_X8_distance.2.2, cd_X8_distance, by decide +kernel, by decide⟩
set_option maxRecDepth 20000 in
theorem cd_X5_measure : Cond.code mX5_measure.1 mX5_measure.2.1 mX5_measure.2.2.1 mX5_measure.2.2.2 ∈ ly_G := (ly_in 513 rfl rfl)
theorem cw_X5_measure : Cond.instanceMethod mX5_measure.1 ∈ ly_G ∧ Cond.selects mX5_measure.1.cls mX5_measure.1 mX5_measure.1 ∈ ly_G ∧ Cond.initialized mX5_measure.1.cls ∈ ly_G := ⟨(ly_in 511 (by decide +kernel) (by decide +kernel)), (ly_in 512 (by decide +kernel) (by decide +kernel)), (ly_in 59 (by decide +kernel) (by decide +kernel))⟩
theorem cv_X8_137 : cv_ok RX8 137 mX5_measure 5 4 := ⟨by decide +kernel, Or.inl (ly_in 510 (by decide +kernel) (by decide +kernel)), cw_X5_measure.1, cw_X5_measure.2.1, cw_X5_measure.2.2, cd_X5_measure, by decide +kernel, by decide⟩
set_option maxRecDepth 20000 in
theorem cd_X5_run : Cond.code mX5_run.1 mX5_run.2.1 mX5_run.2.2.1 mX5_run.2.2.2 ∈ ly_G := (ly_in 517 rfl rfl)
theorem cw_X5_run : Cond.instanceMethod mX5_run.1 ∈ ly_G ∧ Cond.selects mX5_run.1.cls mX5_run.1 mX5_run.1 ∈ ly_G ∧ Cond.initialized mX5_run.1.cls ∈ ly_G := ⟨(ly_in 515 (by decide +kernel) (by decide +kernel)), (ly_in 516 (by decide +kernel) (by decide +kernel)), (ly_in 59 (by decide +kernel) (by decide +kernel))⟩
theorem cv_X5_34 : cv_ok RX5 34 mX5_run 5 3 := ⟨by decide +kernel, Or.inl (ly_in 514 (by decide +kernel) (by decide +kernel)), cw_X5_run.1, cw_X5_run.2.1, cw_X5_run.2.2, cd_X5_run, by decide +kernel, by decide⟩
set_option maxRecDepth 20000 in
theorem cd_J7_fill_53178 : Cond.code mJ7_fill_53178.1 mJ7_fill_53178.2.1 mJ7_fill_53178.2.2.1 mJ7_fill_53178.2.2.2 ∈ ly_G := (ly_in 520 rfl rfl)
theorem cw_J7_fill_53178 : Cond.static mJ7_fill_53178.1 ∈ ly_G ∧ Cond.initialized mJ7_fill_53178.1.cls ∈ ly_G := ⟨(ly_in 519 (by decide +kernel) (by decide +kernel)), (ly_in 66 (by decide +kernel) (by decide +kernel))⟩
theorem cs_X5_42 : cs_ok RX5 42 mJ7_fill_53178 2 := ⟨Or.inl (ly_in 518 (by decide +kernel) (by decide +kernel)), cw_J7_fill_53178.1, cw_J7_fill_53178.2, cd_J7_fill_53178, by decide +kernel, by decide⟩
set_option maxRecDepth 20000 in
theorem cd_X2_fillLengths : Cond.code mX2_fillLengths.1 mX2_fillLengths.2.1 mX2_fillLengths.2.2.1 mX2_fillLengths.2.2.2 ∈ ly_G := (ly_in 524 rfl rfl)
theorem cw_X2_fillLengths : Cond.instanceMethod mX2_fillLengths.1 ∈ ly_G ∧ Cond.selects mX2_fillLengths.1.cls mX2_fillLengths.1 mX2_fillLengths.1 ∈ ly_G ∧ Cond.initialized mX2_fillLengths.1.cls ∈ ly_G := ⟨(ly_in 522 (by decide +kernel) (by decide +kernel)), (ly_in 523 (by decide +kernel) (by decide +kernel)), (ly_in 56 (by decide +kernel) (by decide +kernel))⟩
theorem cv_X5_48 : cv_ok RX5 48 mX2_fillLengths 2 2 := ⟨by decide +kernel, Or.inl (ly_in 521 (by decide +kernel) (by decide +kernel)), cw_X2_fillLengths.1, cw_X2_fillLengths.2.1, cw_X2_fillLengths.2.2, cd_X2_fillLengths, by decide +kernel, by decide⟩
set_option maxRecDepth 20000 in
theorem cd_X5_settle : Cond.code mX5_settle.1 mX5_settle.2.1 mX5_settle.2.2.1 mX5_settle.2.2.2 ∈ ly_G := (ly_in 528 rfl rfl)
theorem cw_X5_settle : Cond.instanceMethod mX5_settle.1 ∈ ly_G ∧ Cond.selects mX5_settle.1.cls mX5_settle.1 mX5_settle.1 ∈ ly_G ∧ Cond.initialized mX5_settle.1.cls ∈ ly_G := ⟨(ly_in 527 (by decide +kernel) (by decide +kernel)), (ly_in 9 (by decide +kernel) (by decide +kernel)), (ly_in 59 (by decide +kernel) (by decide +kernel))⟩
theorem cv_X5_54 : cv_ok RX5 54 mX5_settle 5 0 := ⟨by decide +kernel, Or.inl (ly_in 525 (by decide +kernel) (by decide +kernel)), cw_X5_settle.1, cw_X5_settle.2.1, cw_X5_settle.2.2, cd_X5_settle, by decide +kernel, by decide⟩
set_option maxRecDepth 20000 in
theorem cd_X5_repairOnce : Cond.code mX5_repairOnce.1 mX5_repairOnce.2.1 mX5_repairOnce.2.2.1 mX5_repairOnce.2.2.2 ∈ ly_G := (ly_in 532 rfl rfl)
theorem cw_X5_repairOnce : Cond.instanceMethod mX5_repairOnce.1 ∈ ly_G ∧ Cond.selects mX5_repairOnce.1.cls mX5_repairOnce.1 mX5_repairOnce.1 ∈ ly_G ∧ Cond.initialized mX5_repairOnce.1.cls ∈ ly_G := ⟨(ly_in 531 (by decide +kernel) (by decide +kernel)), (ly_in 10 (by decide +kernel) (by decide +kernel)), (ly_in 59 (by decide +kernel) (by decide +kernel))⟩
theorem cv_X5_57 : cv_ok RX5 57 mX5_repairOnce 5 1 := ⟨by decide +kernel, Or.inl (ly_in 529 (by decide +kernel) (by decide +kernel)), cw_X5_repairOnce.1, cw_X5_repairOnce.2.1, cw_X5_repairOnce.2.2, cd_X5_repairOnce, by decide +kernel, by decide⟩
set_option maxRecDepth 20000 in
theorem cd_X5_distanceTo : Cond.code mX5_distanceTo.1 mX5_distanceTo.2.1 mX5_distanceTo.2.2.1 mX5_distanceTo.2.2.2 ∈ ly_G := (ly_in 536 rfl rfl)
theorem cw_X5_distanceTo : Cond.instanceMethod mX5_distanceTo.1 ∈ ly_G ∧ Cond.selects mX5_distanceTo.1.cls mX5_distanceTo.1 mX5_distanceTo.1 ∈ ly_G ∧ Cond.initialized mX5_distanceTo.1.cls ∈ ly_G := ⟨(ly_in 534 (by decide +kernel) (by decide +kernel)), (ly_in 535 (by decide +kernel) (by decide +kernel)), (ly_in 59 (by decide +kernel) (by decide +kernel))⟩
theorem cv_X5_38 : cv_ok RX5 38 mX5_distanceTo 5 1 := ⟨by decide +kernel, Or.inl (ly_in 533 (by decide +kernel) (by decide +kernel)), cw_X5_distanceTo.1, cw_X5_distanceTo.2.1, cw_X5_distanceTo.2.2, cd_X5_distanceTo, by decide +kernel, by decide⟩
set_option maxRecDepth 20000 in
theorem cd_X8_first : Cond.code mX8_first.1 mX8_first.2.1 mX8_first.2.2.1 mX8_first.2.2.2 ∈ ly_G := (ly_in 540 rfl rfl)
theorem cw_X8_first : Cond.instanceMethod mX8_first.1 ∈ ly_G ∧ Cond.selects mX8_first.1.cls mX8_first.1 mX8_first.1 ∈ ly_G ∧ Cond.initialized mX8_first.1.cls ∈ ly_G := ⟨(ly_in 538 (by decide +kernel) (by decide +kernel)), (ly_in 539 (by decide +kernel) (by decide +kernel)), (ly_in 55 (by decide +kernel) (by decide +kernel))⟩
theorem cv_L_67 : cv_ok RL 67 mX8_first 8 3 := ⟨by decide +kernel, Or.inl (ly_in 537 (by decide +kernel) (by decide +kernel)), cw_X8_first.1, cw_X8_first.2.1, cw_X8_first.2.2, cd_X8_first, by decide +kernel, by decide⟩
set_option maxRecDepth 20000 in
theorem cd_X7_findFirst : Cond.code mX7_findFirst.1 mX7_findFirst.2.1 mX7_findFirst.2.2.1 mX7_findFirst.2.2.2 ∈ ly_G := (ly_in 544 rfl rfl)
theorem cw_X7_findFirst : Cond.instanceMethod mX7_findFirst.1 ∈ ly_G ∧ Cond.selects mX7_findFirst.1.cls mX7_findFirst.1 mX7_findFirst.1 ∈ ly_G ∧ Cond.initialized mX7_findFirst.1.cls ∈ ly_G := ⟨(ly_in 542 (by decide +kernel) (by decide +kernel)), (ly_in 543 (by decide +kernel) (by decide +kernel)), (ly_in 60 (by decide +kernel) (by decide +kernel))⟩
theorem cv_X8_141 : cv_ok RX8 141 mX7_findFirst 7 3 := ⟨by decide +kernel, Or.inl (ly_in 541 (by decide +kernel) (by decide +kernel)), cw_X7_findFirst.1, cw_X7_findFirst.2.1, cw_X7_findFirst.2.2, cd_X7_findFirst, by decide +kernel, by decide⟩
set_option maxRecDepth 20000 in
theorem cd_X7_begin : Cond.code mX7_begin.1 mX7_begin.2.1 mX7_begin.2.2.1 mX7_begin.2.2.2 ∈ ly_G := (ly_in 548 rfl rfl)
theorem cw_X7_begin : Cond.instanceMethod mX7_begin.1 ∈ ly_G ∧ Cond.selects mX7_begin.1.cls mX7_begin.1 mX7_begin.1 ∈ ly_G ∧ Cond.initialized mX7_begin.1.cls ∈ ly_G := ⟨(ly_in 547 (by decide +kernel) (by decide +kernel)), (ly_in 11 (by decide +kernel) (by decide +kernel)), (ly_in 60 (by decide +kernel) (by decide +kernel))⟩
theorem cv_X7_48 : cv_ok RX7 48 mX7_begin 7 4 := ⟨by decide +kernel, Or.inl (ly_in 545 (by decide +kernel) (by decide +kernel)), cw_X7_begin.1, cw_X7_begin.2.1, cw_X7_begin.2.2, cd_X7_begin, by decide +kernel, by decide⟩
set_option maxRecDepth 20000 in
theorem cd_J9_min_7cf53 : Cond.code mJ9_min_7cf53.1 mJ9_min_7cf53.2.1 mJ9_min_7cf53.2.2.1 mJ9_min_7cf53.2.2.2 ∈ ly_G := (ly_in 551 rfl rfl)
theorem cw_J9_min_7cf53 : Cond.static mJ9_min_7cf53.1 ∈ ly_G ∧ Cond.initialized mJ9_min_7cf53.1.cls ∈ ly_G := ⟨(ly_in 550 (by decide +kernel) (by decide +kernel)), (ly_in 67 (by decide +kernel) (by decide +kernel))⟩
theorem cs_X7_52 : cs_ok RX7 52 mJ9_min_7cf53 2 := ⟨Or.inl (ly_in 549 (by decide +kernel) (by decide +kernel)), cw_J9_min_7cf53.1, cw_J9_min_7cf53.2, cd_J9_min_7cf53, by decide +kernel, by decide⟩
theorem cv_X7_63 : cv_ok RX7 63 mX2_fillLengths 2 2 := ⟨by decide +kernel, Or.inl (ly_in 552 (by decide +kernel) (by decide +kernel)), cw_X2_fillLengths.1, cw_X2_fillLengths.2.1, cw_X2_fillLengths.2.2, cd_X2_fillLengths, by decide +kernel, by decide⟩
set_option maxRecDepth 20000 in
theorem cd_X7_walk : Cond.code mX7_walk.1 mX7_walk.2.1 mX7_walk.2.2.1 mX7_walk.2.2.2 ∈ ly_G := (ly_in 556 rfl rfl)
theorem cw_X7_walk : Cond.instanceMethod mX7_walk.1 ∈ ly_G ∧ Cond.selects mX7_walk.1.cls mX7_walk.1 mX7_walk.1 ∈ ly_G ∧ Cond.initialized mX7_walk.1.cls ∈ ly_G := ⟨(ly_in 555 (by decide +kernel) (by decide +kernel)), (ly_in 12 (by decide +kernel) (by decide +kernel)), (ly_in 60 (by decide +kernel) (by decide +kernel))⟩
theorem cv_X7_67 : cv_ok RX7 67 mX7_walk 7 4 := ⟨by decide +kernel, Or.inl (ly_in 553 (by decide +kernel) (by decide +kernel)), cw_X7_walk.1, cw_X7_walk.2.1, cw_X7_walk.2.2, cd_X7_walk, by decide +kernel, by decide⟩
set_option maxRecDepth 20000 in
theorem cd_X7_arrive : Cond.code mX7_arrive.1 mX7_arrive.2.1 mX7_arrive.2.2.1 mX7_arrive.2.2.2 ∈ ly_G := (ly_in 560 rfl rfl)
theorem cw_X7_arrive : Cond.instanceMethod mX7_arrive.1 ∈ ly_G ∧ Cond.selects mX7_arrive.1.cls mX7_arrive.1 mX7_arrive.1 ∈ ly_G ∧ Cond.initialized mX7_arrive.1.cls ∈ ly_G := ⟨(ly_in 559 (by decide +kernel) (by decide +kernel)), (ly_in 13 (by decide +kernel) (by decide +kernel)), (ly_in 60 (by decide +kernel) (by decide +kernel))⟩
theorem cv_X7_71 : cv_ok RX7 71 mX7_arrive 7 2 := ⟨by decide +kernel, Or.inl (ly_in 557 (by decide +kernel) (by decide +kernel)), cw_X7_arrive.1, cw_X7_arrive.2.1, cw_X7_arrive.2.2, cd_X7_arrive, by decide +kernel, by decide⟩
set_option maxRecDepth 20000 in
theorem cd_X7_rank : Cond.code mX7_rank.1 mX7_rank.2.1 mX7_rank.2.2.1 mX7_rank.2.2.2 ∈ ly_G := (ly_in 564 rfl rfl)
theorem cw_X7_rank : Cond.instanceMethod mX7_rank.1 ∈ ly_G ∧ Cond.selects mX7_rank.1.cls mX7_rank.1 mX7_rank.1 ∈ ly_G ∧ Cond.initialized mX7_rank.1.cls ∈ ly_G := ⟨(ly_in 563 (by decide +kernel) (by decide +kernel)), (ly_in 14 (by decide +kernel) (by decide +kernel)), (ly_in 60 (by decide +kernel) (by decide +kernel))⟩
theorem cv_X7_85 : cv_ok RX7 85 mX7_rank 7 1 := ⟨by decide +kernel, Or.inl (ly_in 561 (by decide +kernel) (by decide +kernel)), cw_X7_rank.1, cw_X7_rank.2.1, cw_X7_rank.2.2, cd_X7_rank, by decide +kernel, by decide⟩
set_option maxRecDepth 20000 in
theorem cd_X2_to : Cond.code mX2_to.1 mX2_to.2.1 mX2_to.2.2.1 mX2_to.2.2.2 ∈ ly_G := (ly_in 568 rfl rfl)
theorem cw_X2_to : Cond.instanceMethod mX2_to.1 ∈ ly_G ∧ Cond.selects mX2_to.1.cls mX2_to.1 mX2_to.1 ∈ ly_G ∧ Cond.initialized mX2_to.1.cls ∈ ly_G := ⟨(ly_in 566 (by decide +kernel) (by decide +kernel)), (ly_in 567 (by decide +kernel) (by decide +kernel)), (ly_in 56 (by decide +kernel) (by decide +kernel))⟩
theorem cv_X7_78 : cv_ok RX7 78 mX2_to 2 1 := ⟨by decide +kernel, Or.inl (ly_in 565 (by decide +kernel) (by decide +kernel)), cw_X2_to.1, cw_X2_to.2.1, cw_X2_to.2.2, cd_X2_to, by decide +kernel, by decide⟩
set_option maxRecDepth 20000 in
theorem cd_X2_from : Cond.code mX2_from.1 mX2_from.2.1 mX2_from.2.2.1 mX2_from.2.2.2 ∈ ly_G := (ly_in 572 rfl rfl)
theorem cw_X2_from : Cond.instanceMethod mX2_from.1 ∈ ly_G ∧ Cond.selects mX2_from.1.cls mX2_from.1 mX2_from.1 ∈ ly_G ∧ Cond.initialized mX2_from.1.cls ∈ ly_G := ⟨(ly_in 570 (by decide +kernel) (by decide +kernel)), (ly_in 571 (by decide +kernel) (by decide +kernel)), (ly_in 56 (by decide +kernel) (by decide +kernel))⟩
theorem cv_X7_82 : cv_ok RX7 82 mX2_from 2 1 := ⟨by decide +kernel, Or.inl (ly_in 569 (by decide +kernel) (by decide +kernel)), cw_X2_from.1, cw_X2_from.2.1, cw_X2_from.2.2, cd_X2_from, by decide +kernel, by decide⟩
set_option maxRecDepth 20000 in
theorem cd_X7_trailEdge : Cond.code mX7_trailEdge.1 mX7_trailEdge.2.1 mX7_trailEdge.2.2.1 mX7_trailEdge.2.2.2 ∈ ly_G := (ly_in 576 rfl rfl)
theorem cw_X7_trailEdge : Cond.instanceMethod mX7_trailEdge.1 ∈ ly_G ∧ Cond.selects mX7_trailEdge.1.cls mX7_trailEdge.1 mX7_trailEdge.1 ∈ ly_G ∧ Cond.initialized mX7_trailEdge.1.cls ∈ ly_G := ⟨(ly_in 574 (by decide +kernel) (by decide +kernel)), (ly_in 575 (by decide +kernel) (by decide +kernel)), (ly_in 60 (by decide +kernel) (by decide +kernel))⟩
theorem cv_X8_148 : cv_ok RX8 148 mX7_trailEdge 7 1 := ⟨by decide +kernel, Or.inl (ly_in 573 (by decide +kernel) (by decide +kernel)), cw_X7_trailEdge.1, cw_X7_trailEdge.2.1, cw_X7_trailEdge.2.2, cd_X7_trailEdge, by decide +kernel, by decide⟩
set_option maxRecDepth 20000 in
theorem cd_X8_paths : Cond.code mX8_paths.1 mX8_paths.2.1 mX8_paths.2.2.1 mX8_paths.2.2.2 ∈ ly_G := (ly_in 580 rfl rfl)
theorem cw_X8_paths : Cond.instanceMethod mX8_paths.1 ∈ ly_G ∧ Cond.selects mX8_paths.1.cls mX8_paths.1 mX8_paths.1 ∈ ly_G ∧ Cond.initialized mX8_paths.1.cls ∈ ly_G := ⟨(ly_in 578 (by decide +kernel) (by decide +kernel)), (ly_in 579 (by decide +kernel) (by decide +kernel)), (ly_in 55 (by decide +kernel) (by decide +kernel))⟩
theorem cv_L_71 : cv_ok RL 71 mX8_paths 8 3 := ⟨by decide +kernel, Or.inl (ly_in 577 (by decide +kernel) (by decide +kernel)), cw_X8_paths.1, cw_X8_paths.2.1, cw_X8_paths.2.2, cd_X8_paths, by decide +kernel, by decide⟩
set_option maxRecDepth 20000 in
theorem cd_X7_countUpTo : Cond.code mX7_countUpTo.1 mX7_countUpTo.2.1 mX7_countUpTo.2.2.1 mX7_countUpTo.2.2.2 ∈ ly_G := (ly_in 584 rfl rfl)
theorem cw_X7_countUpTo : Cond.instanceMethod mX7_countUpTo.1 ∈ ly_G ∧ Cond.selects mX7_countUpTo.1.cls mX7_countUpTo.1 mX7_countUpTo.1 ∈ ly_G ∧ Cond.initialized mX7_countUpTo.1.cls ∈ ly_G := ⟨(ly_in 582 (by decide +kernel) (by decide +kernel)), (ly_in 583 (by decide +kernel) (by decide +kernel)), (ly_in 60 (by decide +kernel) (by decide +kernel))⟩
theorem cv_X8_151 : cv_ok RX8 151 mX7_countUpTo 7 3 := ⟨by decide +kernel, Or.inl (ly_in 581 (by decide +kernel) (by decide +kernel)), cw_X7_countUpTo.1, cw_X7_countUpTo.2.1, cw_X7_countUpTo.2.2, cd_X7_countUpTo, by decide +kernel, by decide⟩
set_option maxRecDepth 20000 in
theorem cd_X8_pathLength : Cond.code mX8_pathLength.1 mX8_pathLength.2.1 mX8_pathLength.2.2.1 mX8_pathLength.2.2.2 ∈ ly_G := (ly_in 588 rfl rfl)
theorem cw_X8_pathLength : Cond.instanceMethod mX8_pathLength.1 ∈ ly_G ∧ Cond.selects mX8_pathLength.1.cls mX8_pathLength.1 mX8_pathLength.1 ∈ ly_G ∧ Cond.initialized mX8_pathLength.1.cls ∈ ly_G := ⟨(ly_in 586 (by decide +kernel) (by decide +kernel)), (ly_in 587 (by decide +kernel) (by decide +kernel)), (ly_in 55 (by decide +kernel) (by decide +kernel))⟩
theorem cv_L_75 : cv_ok RL 75 mX8_pathLength 8 3 := ⟨by decide +kernel, Or.inl (ly_in 585 (by decide +kernel) (by decide +kernel)), cw_X8_pathLength.1, cw_X8_pathLength.2.1, cw_X8_pathLength.2.2, cd_X8_pathLength, by decide +kernel, by decide⟩
set_option maxRecDepth 20000 in
theorem cd_X7_rankedLength : Cond.code mX7_rankedLength.1 mX7_rankedLength.2.1 mX7_rankedLength.2.2.1 mX7_rankedLength.2.2.2 ∈ ly_G := (ly_in 592 rfl rfl)
theorem cw_X7_rankedLength : Cond.instanceMethod mX7_rankedLength.1 ∈ ly_G ∧ Cond.selects mX7_rankedLength.1.cls mX7_rankedLength.1 mX7_rankedLength.1 ∈ ly_G ∧ Cond.initialized mX7_rankedLength.1.cls ∈ ly_G := ⟨(ly_in 590 (by decide +kernel) (by decide +kernel)), (ly_in 591 (by decide +kernel) (by decide +kernel)), (ly_in 60 (by decide +kernel) (by decide +kernel))⟩
theorem cv_X8_155 : cv_ok RX8 155 mX7_rankedLength 7 3 := ⟨by decide +kernel, Or.inl (ly_in 589 (by decide +kernel) (by decide +kernel)), cw_X7_rankedLength.1, cw_X7_rankedLength.2.1, cw_X7_rankedLength.2.2, cd_X7_rankedLength, by decide +kernel, by decide⟩
set_option maxRecDepth 20000 in
theorem cd_X8_tight : Cond.code mX8_tight.1 mX8_tight.2.1 mX8_tight.2.2.1 mX8_tight.2.2.2 ∈ ly_G := (ly_in 596 rfl rfl)
theorem cw_X8_tight : Cond.instanceMethod mX8_tight.1 ∈ ly_G ∧ Cond.selects mX8_tight.1.cls mX8_tight.1 mX8_tight.1 ∈ ly_G ∧ Cond.initialized mX8_tight.1.cls ∈ ly_G := ⟨(ly_in 594 (by decide +kernel) (by decide +kernel)), (ly_in 595 (by decide +kernel) (by decide +kernel)), (ly_in 55 (by decide +kernel) (by decide +kernel))⟩
theorem cv_L_79 : cv_ok RL 79 mX8_tight 8 2 := ⟨by decide +kernel, Or.inl (ly_in 593 (by decide +kernel) (by decide +kernel)), cw_X8_tight.1, cw_X8_tight.2.1, cw_X8_tight.2.2, cd_X8_tight, by decide +kernel, by decide⟩
set_option maxRecDepth 20000 in
theorem cd_X5_tightEdges : Cond.code mX5_tightEdges.1 mX5_tightEdges.2.1 mX5_tightEdges.2.2.1 mX5_tightEdges.2.2.2 ∈ ly_G := (ly_in 600 rfl rfl)
theorem cw_X5_tightEdges : Cond.instanceMethod mX5_tightEdges.1 ∈ ly_G ∧ Cond.selects mX5_tightEdges.1.cls mX5_tightEdges.1 mX5_tightEdges.1 ∈ ly_G ∧ Cond.initialized mX5_tightEdges.1.cls ∈ ly_G := ⟨(ly_in 598 (by decide +kernel) (by decide +kernel)), (ly_in 599 (by decide +kernel) (by decide +kernel)), (ly_in 59 (by decide +kernel) (by decide +kernel))⟩
theorem cv_X8_158 : cv_ok RX8 158 mX5_tightEdges 5 3 := ⟨by decide +kernel, Or.inl (ly_in 597 (by decide +kernel) (by decide +kernel)), cw_X5_tightEdges.1, cw_X5_tightEdges.2.1, cw_X5_tightEdges.2.2, cd_X5_tightEdges, by decide +kernel, by decide⟩
theorem cv_X5_68 : cv_ok RX5 68 mX5_measure 5 4 := ⟨by decide +kernel, Or.inl (ly_in 601 (by decide +kernel) (by decide +kernel)), cw_X5_measure.1, cw_X5_measure.2.1, cw_X5_measure.2.2, cd_X5_measure, by decide +kernel, by decide⟩
theorem cv_X5_72 : cv_ok RX5 72 mX2_from 2 1 := ⟨by decide +kernel, Or.inl (ly_in 602 (by decide +kernel) (by decide +kernel)), cw_X2_from.1, cw_X2_from.2.1, cw_X2_from.2.2, cd_X2_from, by decide +kernel, by decide⟩
theorem cv_X5_75 : cv_ok RX5 75 mX2_to 2 1 := ⟨by decide +kernel, Or.inl (ly_in 603 (by decide +kernel) (by decide +kernel)), cw_X2_to.1, cw_X2_to.2.1, cw_X2_to.2.2, cd_X2_to, by decide +kernel, by decide⟩
set_option maxRecDepth 20000 in
theorem cd_X8_interdict : Cond.code mX8_interdict.1 mX8_interdict.2.1 mX8_interdict.2.2.1 mX8_interdict.2.2.2 ∈ ly_G := (ly_in 607 rfl rfl)
theorem cw_X8_interdict : Cond.instanceMethod mX8_interdict.1 ∈ ly_G ∧ Cond.selects mX8_interdict.1.cls mX8_interdict.1 mX8_interdict.1 ∈ ly_G ∧ Cond.initialized mX8_interdict.1.cls ∈ ly_G := ⟨(ly_in 605 (by decide +kernel) (by decide +kernel)), (ly_in 606 (by decide +kernel) (by decide +kernel)), (ly_in 55 (by decide +kernel) (by decide +kernel))⟩
theorem cv_L_83 : cv_ok RL 83 mX8_interdict 8 3 := ⟨by decide +kernel, Or.inl (ly_in 604 (by decide +kernel) (by decide +kernel)), cw_X8_interdict.1, cw_X8_interdict.2.1, cw_X8_interdict.2.2, cd_X8_interdict, by decide +kernel, by decide⟩
set_option maxRecDepth 20000 in
theorem cd_X8_interdictResponse : Cond.code mX8_interdictResponse.1 mX8_interdictResponse.2.1 mX8_interdictResponse.2.2.1 mX8_interdictResponse.2.2.2 ∈ ly_G := (ly_in 611 rfl rfl)
theorem cw_X8_interdictResponse : Cond.instanceMethod mX8_interdictResponse.1 ∈ ly_G ∧ Cond.selects mX8_interdictResponse.1.cls mX8_interdictResponse.1 mX8_interdictResponse.1 ∈ ly_G ∧ Cond.initialized mX8_interdictResponse.1.cls ∈ ly_G := ⟨(ly_in 609 (by decide +kernel) (by decide +kernel)), (ly_in 610 (by decide +kernel) (by decide +kernel)), (ly_in 55 (by decide +kernel) (by decide +kernel))⟩
theorem cv_X8_161 : cv_ok RX8 161 mX8_interdictResponse 8 4 := ⟨by decide +kernel, Or.inl (ly_in 608 (by decide +kernel) (by decide +kernel)), cw_X8_interdictResponse.1, cw_X8_interdictResponse.2.1, cw_X8_interdictResponse.2.2, cd_X8_interdictResponse, by decide +kernel, by decide⟩
set_option maxRecDepth 20000 in
theorem cd_X0_seekBest : Cond.code mX0_seekBest.1 mX0_seekBest.2.1 mX0_seekBest.2.2.1 mX0_seekBest.2.2.2 ∈ ly_G := (ly_in 615 rfl rfl)
theorem cw_X0_seekBest : Cond.instanceMethod mX0_seekBest.1 ∈ ly_G ∧ Cond.selects mX0_seekBest.1.cls mX0_seekBest.1 mX0_seekBest.1 ∈ ly_G ∧ Cond.initialized mX0_seekBest.1.cls ∈ ly_G := ⟨(ly_in 613 (by decide +kernel) (by decide +kernel)), (ly_in 614 (by decide +kernel) (by decide +kernel)), (ly_in 61 (by decide +kernel) (by decide +kernel))⟩
theorem cv_X8_173 : cv_ok RX8 173 mX0_seekBest 0 6 := ⟨by decide +kernel, Or.inl (ly_in 612 (by decide +kernel) (by decide +kernel)), cw_X0_seekBest.1, cw_X0_seekBest.2.1, cw_X0_seekBest.2.2, cd_X0_seekBest, by decide +kernel, by decide⟩
set_option maxRecDepth 20000 in
theorem cd_X0_grow : Cond.code mX0_grow.1 mX0_grow.2.1 mX0_grow.2.2.1 mX0_grow.2.2.2 ∈ ly_G := (ly_in 619 rfl rfl)
theorem cw_X0_grow : Cond.instanceMethod mX0_grow.1 ∈ ly_G ∧ Cond.selects mX0_grow.1.cls mX0_grow.1 mX0_grow.1 ∈ ly_G ∧ Cond.initialized mX0_grow.1.cls ∈ ly_G := ⟨(ly_in 618 (by decide +kernel) (by decide +kernel)), (ly_in 15 (by decide +kernel) (by decide +kernel)), (ly_in 61 (by decide +kernel) (by decide +kernel))⟩
theorem cv_X0_51 : cv_ok RX0 51 mX0_grow 0 4 := ⟨by decide +kernel, Or.inl (ly_in 616 (by decide +kernel) (by decide +kernel)), cw_X0_grow.1, cw_X0_grow.2.1, cw_X0_grow.2.2, cd_X0_grow, by decide +kernel, by decide⟩
theorem cv_X0_55 : cv_ok RX0 55 mX5_run 5 3 := ⟨by decide +kernel, Or.inl (ly_in 620 (by decide +kernel) (by decide +kernel)), cw_X5_run.1, cw_X5_run.2.1, cw_X5_run.2.2, cd_X5_run, by decide +kernel, by decide⟩
theorem cv_X0_61 : cv_ok RX0 61 mX5_distanceTo 5 1 := ⟨by decide +kernel, Or.inl (ly_in 621 (by decide +kernel) (by decide +kernel)), cw_X5_distanceTo.1, cw_X5_distanceTo.2.1, cw_X5_distanceTo.2.2, cd_X5_distanceTo, by decide +kernel, by decide⟩
set_option maxRecDepth 20000 in
theorem cd_X5_usedTo : Cond.code mX5_usedTo.1 mX5_usedTo.2.1 mX5_usedTo.2.2.1 mX5_usedTo.2.2.2 ∈ ly_G := (ly_in 625 rfl rfl)
theorem cw_X5_usedTo : Cond.instanceMethod mX5_usedTo.1 ∈ ly_G ∧ Cond.selects mX5_usedTo.1.cls mX5_usedTo.1 mX5_usedTo.1 ∈ ly_G ∧ Cond.initialized mX5_usedTo.1.cls ∈ ly_G := ⟨(ly_in 623 (by decide +kernel) (by decide +kernel)), (ly_in 624 (by decide +kernel) (by decide +kernel)), (ly_in 59 (by decide +kernel) (by decide +kernel))⟩
theorem cv_X0_65 : cv_ok RX0 65 mX5_usedTo 5 1 := ⟨by decide +kernel, Or.inl (ly_in 622 (by decide +kernel) (by decide +kernel)), cw_X5_usedTo.1, cw_X5_usedTo.2.1, cw_X5_usedTo.2.2, cd_X5_usedTo, by decide +kernel, by decide⟩
set_option maxRecDepth 20000 in
theorem cd_X0_markHelpful : Cond.code mX0_markHelpful.1 mX0_markHelpful.2.1 mX0_markHelpful.2.2.1 mX0_markHelpful.2.2.2 ∈ ly_G := (ly_in 629 rfl rfl)
theorem cw_X0_markHelpful : Cond.instanceMethod mX0_markHelpful.1 ∈ ly_G ∧ Cond.selects mX0_markHelpful.1.cls mX0_markHelpful.1 mX0_markHelpful.1 ∈ ly_G ∧ Cond.initialized mX0_markHelpful.1.cls ∈ ly_G := ⟨(ly_in 628 (by decide +kernel) (by decide +kernel)), (ly_in 16 (by decide +kernel) (by decide +kernel)), (ly_in 61 (by decide +kernel) (by decide +kernel))⟩
theorem cv_X0_68 : cv_ok RX0 68 mX0_markHelpful 0 2 := ⟨by decide +kernel, Or.inl (ly_in 626 (by decide +kernel) (by decide +kernel)), cw_X0_markHelpful.1, cw_X0_markHelpful.2.1, cw_X0_markHelpful.2.2, cd_X0_markHelpful, by decide +kernel, by decide⟩
set_option maxRecDepth 20000 in
theorem cd_X0_weigh : Cond.code mX0_weigh.1 mX0_weigh.2.1 mX0_weigh.2.2.1 mX0_weigh.2.2.2 ∈ ly_G := (ly_in 633 rfl rfl)
theorem cw_X0_weigh : Cond.instanceMethod mX0_weigh.1 ∈ ly_G ∧ Cond.selects mX0_weigh.1.cls mX0_weigh.1 mX0_weigh.1 ∈ ly_G ∧ Cond.initialized mX0_weigh.1.cls ∈ ly_G := ⟨(ly_in 632 (by decide +kernel) (by decide +kernel)), (ly_in 17 (by decide +kernel) (by decide +kernel)), (ly_in 61 (by decide +kernel) (by decide +kernel))⟩
theorem cv_X0_72 : cv_ok RX0 72 mX0_weigh 0 3 := ⟨by decide +kernel, Or.inl (ly_in 630 (by decide +kernel) (by decide +kernel)), cw_X0_weigh.1, cw_X0_weigh.2.1, cw_X0_weigh.2.2, cd_X0_weigh, by decide +kernel, by decide⟩
theorem cs_X0_83 : cs_ok RX0 83 mJ9_min_7cf53 2 := ⟨Or.inl (ly_in 634 (by decide +kernel) (by decide +kernel)), cw_J9_min_7cf53.1, cw_J9_min_7cf53.2, cd_J9_min_7cf53, by decide +kernel, by decide⟩
set_option maxRecDepth 20000 in
theorem cd_X0_isCheaper : Cond.code mX0_isCheaper.1 mX0_isCheaper.2.1 mX0_isCheaper.2.2.1 mX0_isCheaper.2.2.2 ∈ ly_G := (ly_in 638 rfl rfl)
theorem cw_X0_isCheaper : Cond.instanceMethod mX0_isCheaper.1 ∈ ly_G ∧ Cond.selects mX0_isCheaper.1.cls mX0_isCheaper.1 mX0_isCheaper.1 ∈ ly_G ∧ Cond.initialized mX0_isCheaper.1.cls ∈ ly_G := ⟨(ly_in 637 (by decide +kernel) (by decide +kernel)), (ly_in 18 (by decide +kernel) (by decide +kernel)), (ly_in 61 (by decide +kernel) (by decide +kernel))⟩
theorem cv_X0_89 : cv_ok RX0 89 mX0_isCheaper 0 2 := ⟨by decide +kernel, Or.inl (ly_in 635 (by decide +kernel) (by decide +kernel)), cw_X0_isCheaper.1, cw_X0_isCheaper.2.1, cw_X0_isCheaper.2.2, cd_X0_isCheaper, by decide +kernel, by decide⟩
theorem cv_X0_80 : cv_ok RX0 80 mX2_cost 2 1 := ⟨by decide +kernel, Or.inl (ly_in 639 (by decide +kernel) (by decide +kernel)), cw_X2_cost.1, cw_X2_cost.2.1, cw_X2_cost.2.2, cd_X2_cost, by decide +kernel, by decide⟩
set_option maxRecDepth 20000 in
theorem cd_X8_greedy : Cond.code mX8_greedy.1 mX8_greedy.2.1 mX8_greedy.2.2.1 mX8_greedy.2.2.2 ∈ ly_G := (ly_in 643 rfl rfl)
theorem cw_X8_greedy : Cond.instanceMethod mX8_greedy.1 ∈ ly_G ∧ Cond.selects mX8_greedy.1.cls mX8_greedy.1 mX8_greedy.1 ∈ ly_G ∧ Cond.initialized mX8_greedy.1.cls ∈ ly_G := ⟨(ly_in 641 (by decide +kernel) (by decide +kernel)), (ly_in 642 (by decide +kernel) (by decide +kernel)), (ly_in 55 (by decide +kernel) (by decide +kernel))⟩
theorem cv_L_87 : cv_ok RL 87 mX8_greedy 8 3 := ⟨by decide +kernel, Or.inl (ly_in 640 (by decide +kernel) (by decide +kernel)), cw_X8_greedy.1, cw_X8_greedy.2.1, cw_X8_greedy.2.2, cd_X8_greedy, by decide +kernel, by decide⟩
set_option maxRecDepth 20000 in
theorem cd_X3_seek : Cond.code mX3_seek.1 mX3_seek.2.1 mX3_seek.2.2.1 mX3_seek.2.2.2 ∈ ly_G := (ly_in 647 rfl rfl)
theorem cw_X3_seek : Cond.instanceMethod mX3_seek.1 ∈ ly_G ∧ Cond.selects mX3_seek.1.cls mX3_seek.1 mX3_seek.1 ∈ ly_G ∧ Cond.initialized mX3_seek.1.cls ∈ ly_G := ⟨(ly_in 645 (by decide +kernel) (by decide +kernel)), (ly_in 646 (by decide +kernel) (by decide +kernel)), (ly_in 62 (by decide +kernel) (by decide +kernel))⟩
theorem cv_X8_167 : cv_ok RX8 167 mX3_seek 3 3 := ⟨by decide +kernel, Or.inl (ly_in 644 (by decide +kernel) (by decide +kernel)), cw_X3_seek.1, cw_X3_seek.2.1, cw_X3_seek.2.2, cd_X3_seek, by decide +kernel, by decide⟩
theorem cv_X3_23 : cv_ok RX3 23 mX5_measure 5 4 := ⟨by decide +kernel, Or.inl (ly_in 648 (by decide +kernel) (by decide +kernel)), cw_X5_measure.1, cw_X5_measure.2.1, cw_X5_measure.2.2, cd_X5_measure, by decide +kernel, by decide⟩
theorem cv_X3_34 : cv_ok RX3 34 mX2_cost 2 1 := ⟨by decide +kernel, Or.inl (ly_in 649 (by decide +kernel) (by decide +kernel)), cw_X2_cost.1, cw_X2_cost.2.1, cw_X2_cost.2.2, cd_X2_cost, by decide +kernel, by decide⟩
set_option maxRecDepth 20000 in
theorem cd_X8_budgetFor : Cond.code mX8_budgetFor.1 mX8_budgetFor.2.1 mX8_budgetFor.2.2.1 mX8_budgetFor.2.2.2 ∈ ly_G := (ly_in 653 rfl rfl)
theorem cw_X8_budgetFor : Cond.instanceMethod mX8_budgetFor.1 ∈ ly_G ∧ Cond.selects mX8_budgetFor.1.cls mX8_budgetFor.1 mX8_budgetFor.1 ∈ ly_G ∧ Cond.initialized mX8_budgetFor.1.cls ∈ ly_G := ⟨(ly_in 651 (by decide +kernel) (by decide +kernel)), (ly_in 652 (by decide +kernel) (by decide +kernel)), (ly_in 55 (by decide +kernel) (by decide +kernel))⟩
theorem cv_L_91 : cv_ok RL 91 mX8_budgetFor 8 3 := ⟨by decide +kernel, Or.inl (ly_in 650 (by decide +kernel) (by decide +kernel)), cw_X8_budgetFor.1, cw_X8_budgetFor.2.1, cw_X8_budgetFor.2.2, cd_X8_budgetFor, by decide +kernel, by decide⟩
set_option maxRecDepth 20000 in
theorem cd_X8_blockade : Cond.code mX8_blockade.1 mX8_blockade.2.1 mX8_blockade.2.2.1 mX8_blockade.2.2.2 ∈ ly_G := (ly_in 657 rfl rfl)
theorem cw_X8_blockade : Cond.instanceMethod mX8_blockade.1 ∈ ly_G ∧ Cond.selects mX8_blockade.1.cls mX8_blockade.1 mX8_blockade.1 ∈ ly_G ∧ Cond.initialized mX8_blockade.1.cls ∈ ly_G := ⟨(ly_in 655 (by decide +kernel) (by decide +kernel)), (ly_in 656 (by decide +kernel) (by decide +kernel)), (ly_in 55 (by decide +kernel) (by decide +kernel))⟩
theorem cv_L_95 : cv_ok RL 95 mX8_blockade 8 2 := ⟨by decide +kernel, Or.inl (ly_in 654 (by decide +kernel) (by decide +kernel)), cw_X8_blockade.1, cw_X8_blockade.2.1, cw_X8_blockade.2.2, cd_X8_blockade, by decide +kernel, by decide⟩
set_option maxRecDepth 20000 in
theorem cd_X2_costOfBorder : Cond.code mX2_costOfBorder.1 mX2_costOfBorder.2.1 mX2_costOfBorder.2.2.1 mX2_costOfBorder.2.2.2 ∈ ly_G := (ly_in 661 rfl rfl)
theorem cw_X2_costOfBorder : Cond.instanceMethod mX2_costOfBorder.1 ∈ ly_G ∧ Cond.selects mX2_costOfBorder.1.cls mX2_costOfBorder.1 mX2_costOfBorder.1 ∈ ly_G ∧ Cond.initialized mX2_costOfBorder.1.cls ∈ ly_G := ⟨(ly_in 659 (by decide +kernel) (by decide +kernel)), (ly_in 660 (by decide +kernel) (by decide +kernel)), (ly_in 56 (by decide +kernel) (by decide +kernel))⟩
theorem cv_X8_184 : cv_ok RX8 184 mX2_costOfBorder 2 1 := ⟨by decide +kernel, Or.inl (ly_in 658 (by decide +kernel) (by decide +kernel)), cw_X2_costOfBorder.1, cw_X2_costOfBorder.2.1, cw_X2_costOfBorder.2.2, cd_X2_costOfBorder, by decide +kernel, by decide⟩
theorem cv_X2_47 : cv_ok RX2 47 mX2_from 2 1 := ⟨by decide +kernel, Or.inl (ly_in 662 (by decide +kernel) (by decide +kernel)), cw_X2_from.1, cw_X2_from.2.1, cw_X2_from.2.2, cd_X2_from, by decide +kernel, by decide⟩
theorem cv_X2_50 : cv_ok RX2 50 mX2_to 2 1 := ⟨by decide +kernel, Or.inl (ly_in 663 (by decide +kernel) (by decide +kernel)), cw_X2_to.1, cw_X2_to.2.1, cw_X2_to.2.2, cd_X2_to, by decide +kernel, by decide⟩
theorem cv_X2_53 : cv_ok RX2 53 mX2_part 2 2 := ⟨by decide +kernel, Or.inl (ly_in 664 (by decide +kernel) (by decide +kernel)), cw_X2_part.1, cw_X2_part.2.1, cw_X2_part.2.2, cd_X2_part, by decide +kernel, by decide⟩
set_option maxRecDepth 20000 in
theorem cd_X8_respond : Cond.code mX8_respond.1 mX8_respond.2.1 mX8_respond.2.2.1 mX8_respond.2.2.2 ∈ ly_G := (ly_in 668 rfl rfl)
theorem cw_X8_respond : Cond.instanceMethod mX8_respond.1 ∈ ly_G ∧ Cond.selects mX8_respond.1.cls mX8_respond.1 mX8_respond.1 ∈ ly_G ∧ Cond.initialized mX8_respond.1.cls ∈ ly_G := ⟨(ly_in 666 (by decide +kernel) (by decide +kernel)), (ly_in 667 (by decide +kernel) (by decide +kernel)), (ly_in 55 (by decide +kernel) (by decide +kernel))⟩
theorem cv_L_99 : cv_ok RL 99 mX8_respond 8 4 := ⟨by decide +kernel, Or.inl (ly_in 665 (by decide +kernel) (by decide +kernel)), cw_X8_respond.1, cw_X8_respond.2.1, cw_X8_respond.2.2, cd_X8_respond, by decide +kernel, by decide⟩
theorem cv_L_104 : cv_ok RL 104 mX8_interdictResponse 8 4 := ⟨by decide +kernel, Or.inl (ly_in 669 (by decide +kernel) (by decide +kernel)), cw_X8_interdictResponse.1, cw_X8_interdictResponse.2.1, cw_X8_interdictResponse.2.2, cd_X8_interdictResponse, by decide +kernel, by decide⟩
set_option maxRecDepth 20000 in
theorem cd_X8_fortify : Cond.code mX8_fortify.1 mX8_fortify.2.1 mX8_fortify.2.2.1 mX8_fortify.2.2.2 ∈ ly_G := (ly_in 673 rfl rfl)
theorem cw_X8_fortify : Cond.instanceMethod mX8_fortify.1 ∈ ly_G ∧ Cond.selects mX8_fortify.1.cls mX8_fortify.1 mX8_fortify.1 ∈ ly_G ∧ Cond.initialized mX8_fortify.1.cls ∈ ly_G := ⟨(ly_in 671 (by decide +kernel) (by decide +kernel)), (ly_in 672 (by decide +kernel) (by decide +kernel)), (ly_in 55 (by decide +kernel) (by decide +kernel))⟩
theorem cv_L_108 : cv_ok RL 108 mX8_fortify 8 4 := ⟨by decide +kernel, Or.inl (ly_in 670 (by decide +kernel) (by decide +kernel)), cw_X8_fortify.1, cw_X8_fortify.2.1, cw_X8_fortify.2.2, cd_X8_fortify, by decide +kernel, by decide⟩
set_option maxRecDepth 20000 in
theorem cd_X1_seek : Cond.code mX1_seek.1 mX1_seek.2.1 mX1_seek.2.2.1 mX1_seek.2.2.2 ∈ ly_G := (ly_in 677 rfl rfl)
theorem cw_X1_seek : Cond.instanceMethod mX1_seek.1 ∈ ly_G ∧ Cond.selects mX1_seek.1.cls mX1_seek.1 mX1_seek.1 ∈ ly_G ∧ Cond.initialized mX1_seek.1.cls ∈ ly_G := ⟨(ly_in 675 (by decide +kernel) (by decide +kernel)), (ly_in 676 (by decide +kernel) (by decide +kernel)), (ly_in 63 (by decide +kernel) (by decide +kernel))⟩
theorem cv_X8_187 : cv_ok RX8 187 mX1_seek 1 4 := ⟨by decide +kernel, Or.inl (ly_in 674 (by decide +kernel) (by decide +kernel)), cw_X1_seek.1, cw_X1_seek.2.1, cw_X1_seek.2.2, cd_X1_seek, by decide +kernel, by decide⟩
set_option maxRecDepth 20000 in
theorem cd_X1_hold : Cond.code mX1_hold.1 mX1_hold.2.1 mX1_hold.2.2.1 mX1_hold.2.2.2 ∈ ly_G := (ly_in 681 rfl rfl)
theorem cw_X1_hold : Cond.instanceMethod mX1_hold.1 ∈ ly_G ∧ Cond.selects mX1_hold.1.cls mX1_hold.1 mX1_hold.1 ∈ ly_G ∧ Cond.initialized mX1_hold.1.cls ∈ ly_G := ⟨(ly_in 680 (by decide +kernel) (by decide +kernel)), (ly_in 19 (by decide +kernel) (by decide +kernel)), (ly_in 63 (by decide +kernel) (by decide +kernel))⟩
theorem cv_X1_38 : cv_ok RX1 38 mX1_hold 1 2 := ⟨by decide +kernel, Or.inl (ly_in 678 (by decide +kernel) (by decide +kernel)), cw_X1_hold.1, cw_X1_hold.2.1, cw_X1_hold.2.2, cd_X1_hold, by decide +kernel, by decide⟩
theorem cv_X1_42 : cv_ok RX1 42 mX0_seekBest 0 6 := ⟨by decide +kernel, Or.inl (ly_in 682 (by decide +kernel) (by decide +kernel)), cw_X0_seekBest.1, cw_X0_seekBest.2.1, cw_X0_seekBest.2.2, cd_X0_seekBest, by decide +kernel, by decide⟩
set_option maxRecDepth 20000 in
theorem cd_X1_isBetter : Cond.code mX1_isBetter.1 mX1_isBetter.2.1 mX1_isBetter.2.2.1 mX1_isBetter.2.2.2 ∈ ly_G := (ly_in 686 rfl rfl)
theorem cw_X1_isBetter : Cond.instanceMethod mX1_isBetter.1 ∈ ly_G ∧ Cond.selects mX1_isBetter.1.cls mX1_isBetter.1 mX1_isBetter.1 ∈ ly_G ∧ Cond.initialized mX1_isBetter.1.cls ∈ ly_G := ⟨(ly_in 685 (by decide +kernel) (by decide +kernel)), (ly_in 20 (by decide +kernel) (by decide +kernel)), (ly_in 63 (by decide +kernel) (by decide +kernel))⟩
theorem cv_X1_50 : cv_ok RX1 50 mX1_isBetter 1 3 := ⟨by decide +kernel, Or.inl (ly_in 683 (by decide +kernel) (by decide +kernel)), cw_X1_isBetter.1, cw_X1_isBetter.2.1, cw_X1_isBetter.2.2, cd_X1_isBetter, by decide +kernel, by decide⟩
set_option maxRecDepth 20000 in
theorem cd_J6_bitCount_0f7a4 : Cond.code mJ6_bitCount_0f7a4.1 mJ6_bitCount_0f7a4.2.1 mJ6_bitCount_0f7a4.2.2.1 mJ6_bitCount_0f7a4.2.2.2 ∈ ly_G := (ly_in 689 rfl rfl)
theorem cw_J6_bitCount_0f7a4 : Cond.static mJ6_bitCount_0f7a4.1 ∈ ly_G ∧ Cond.initialized mJ6_bitCount_0f7a4.1.cls ∈ ly_G := ⟨(ly_in 688 (by decide +kernel) (by decide +kernel)), (ly_in 68 (by decide +kernel) (by decide +kernel))⟩
theorem cs_X1_59 : cs_ok RX1 59 mJ6_bitCount_0f7a4 1 := ⟨Or.inl (ly_in 687 (by decide +kernel) (by decide +kernel)), cw_J6_bitCount_0f7a4.1, cw_J6_bitCount_0f7a4.2, cd_J6_bitCount_0f7a4, by decide +kernel, by decide⟩
set_option maxRecDepth 20000 in
theorem cd_X8_finding : Cond.code mX8_finding.1 mX8_finding.2.1 mX8_finding.2.2.1 mX8_finding.2.2.2 ∈ ly_G := (ly_in 696 rfl rfl)
theorem cw_X8_finding : Cond.instanceMethod mX8_finding.1 ∈ ly_G ∧ Cond.selects mX8_finding.1.cls mX8_finding.1 mX8_finding.1 ∈ ly_G ∧ Cond.initialized mX8_finding.1.cls ∈ ly_G := ⟨(ly_in 694 (by decide +kernel) (by decide +kernel)), (ly_in 695 (by decide +kernel) (by decide +kernel)), (ly_in 55 (by decide +kernel) (by decide +kernel))⟩
theorem cv_L_112 : cv_ok RL 112 mX8_finding 8 0 := ⟨by decide +kernel, Or.inl (ly_in 693 (by decide +kernel) (by decide +kernel)), cw_X8_finding.1, cw_X8_finding.2.1, cw_X8_finding.2.2, cd_X8_finding, by decide +kernel, by decide⟩
set_option maxRecDepth 20000 in
theorem cd_X8_worth : Cond.code mX8_worth.1 mX8_worth.2.1 mX8_worth.2.2.1 mX8_worth.2.2.2 ∈ ly_G := (ly_in 700 rfl rfl)
theorem cw_X8_worth : Cond.instanceMethod mX8_worth.1 ∈ ly_G ∧ Cond.selects mX8_worth.1.cls mX8_worth.1 mX8_worth.1 ∈ ly_G ∧ Cond.initialized mX8_worth.1.cls ∈ ly_G := ⟨(ly_in 698 (by decide +kernel) (by decide +kernel)), (ly_in 699 (by decide +kernel) (by decide +kernel)), (ly_in 55 (by decide +kernel) (by decide +kernel))⟩
theorem cv_L_116 : cv_ok RL 116 mX8_worth 8 3 := ⟨by decide +kernel, Or.inl (ly_in 697 (by decide +kernel) (by decide +kernel)), cw_X8_worth.1, cw_X8_worth.2.1, cw_X8_worth.2.2, cd_X8_worth, by decide +kernel, by decide⟩
set_option maxRecDepth 20000 in
theorem cd_X8_neverHelps : Cond.code mX8_neverHelps.1 mX8_neverHelps.2.1 mX8_neverHelps.2.2.1 mX8_neverHelps.2.2.2 ∈ ly_G := (ly_in 704 rfl rfl)
theorem cw_X8_neverHelps : Cond.instanceMethod mX8_neverHelps.1 ∈ ly_G ∧ Cond.selects mX8_neverHelps.1.cls mX8_neverHelps.1 mX8_neverHelps.1 ∈ ly_G ∧ Cond.initialized mX8_neverHelps.1.cls ∈ ly_G := ⟨(ly_in 702 (by decide +kernel) (by decide +kernel)), (ly_in 703 (by decide +kernel) (by decide +kernel)), (ly_in 55 (by decide +kernel) (by decide +kernel))⟩
theorem cv_L_120 : cv_ok RL 120 mX8_neverHelps 8 3 := ⟨by decide +kernel, Or.inl (ly_in 701 (by decide +kernel) (by decide +kernel)), cw_X8_neverHelps.1, cw_X8_neverHelps.2.1, cw_X8_neverHelps.2.2, cd_X8_neverHelps, by decide +kernel, by decide⟩
set_option maxRecDepth 20000 in
theorem cd_X0_seekHelpful : Cond.code mX0_seekHelpful.1 mX0_seekHelpful.2.1 mX0_seekHelpful.2.2.1 mX0_seekHelpful.2.2.2 ∈ ly_G := (ly_in 708 rfl rfl)
theorem cw_X0_seekHelpful : Cond.instanceMethod mX0_seekHelpful.1 ∈ ly_G ∧ Cond.selects mX0_seekHelpful.1.cls mX0_seekHelpful.1 mX0_seekHelpful.1 ∈ ly_G ∧ Cond.initialized mX0_seekHelpful.1.cls ∈ ly_G := ⟨(ly_in 706 (by decide +kernel) (by decide +kernel)), (ly_in 707 (by decide +kernel) (by decide +kernel)), (ly_in 61 (by decide +kernel) (by decide +kernel))⟩
theorem cv_X8_190 : cv_ok RX8 190 mX0_seekHelpful 0 3 := ⟨by decide +kernel, Or.inl (ly_in 705 (by decide +kernel) (by decide +kernel)), cw_X0_seekHelpful.1, cw_X0_seekHelpful.2.1, cw_X0_seekHelpful.2.2, cd_X0_seekHelpful, by decide +kernel, by decide⟩
theorem cv_X8_193 : cv_ok RX8 193 mX2_all 2 0 := ⟨by decide +kernel, Or.inl (ly_in 709 (by decide +kernel) (by decide +kernel)), cw_X2_all.1, cw_X2_all.2.1, cw_X2_all.2.2, cd_X2_all, by decide +kernel, by decide⟩
set_option maxRecDepth 20000 in
theorem cd_X8_expected : Cond.code mX8_expected.1 mX8_expected.2.1 mX8_expected.2.2.1 mX8_expected.2.2.2 ∈ ly_G := (ly_in 713 rfl rfl)
theorem cw_X8_expected : Cond.instanceMethod mX8_expected.1 ∈ ly_G ∧ Cond.selects mX8_expected.1.cls mX8_expected.1 mX8_expected.1 ∈ ly_G ∧ Cond.initialized mX8_expected.1.cls ∈ ly_G := ⟨(ly_in 711 (by decide +kernel) (by decide +kernel)), (ly_in 712 (by decide +kernel) (by decide +kernel)), (ly_in 55 (by decide +kernel) (by decide +kernel))⟩
theorem cv_L_124 : cv_ok RL 124 mX8_expected 8 4 := ⟨by decide +kernel, Or.inl (ly_in 710 (by decide +kernel) (by decide +kernel)), cw_X8_expected.1, cw_X8_expected.2.1, cw_X8_expected.2.2, cd_X8_expected, by decide +kernel, by decide⟩
set_option maxRecDepth 20000 in
theorem cd_X8_isChance : Cond.code mX8_isChance.1 mX8_isChance.2.1 mX8_isChance.2.2.1 mX8_isChance.2.2.2 ∈ ly_G := (ly_in 717 rfl rfl)
theorem cw_X8_isChance : Cond.instanceMethod mX8_isChance.1 ∈ ly_G ∧ Cond.selects mX8_isChance.1.cls mX8_isChance.1 mX8_isChance.1 ∈ ly_G ∧ Cond.initialized mX8_isChance.1.cls ∈ ly_G := ⟨(ly_in 716 (by decide +kernel) (by decide +kernel)), (ly_in 21 (by decide +kernel) (by decide +kernel)), (ly_in 55 (by decide +kernel) (by decide +kernel))⟩
theorem cv_X8_199 : cv_ok RX8 199 mX8_isChance 8 4 := ⟨by decide +kernel, Or.inl (ly_in 714 (by decide +kernel) (by decide +kernel)), cw_X8_isChance.1, cw_X8_isChance.2.1, cw_X8_isChance.2.2, cd_X8_isChance, by decide +kernel, by decide⟩
theorem cs_X8_216 : cs_ok RX8 216 mJ6_bitCount_0f7a4 1 := ⟨Or.inl (ly_in 718 (by decide +kernel) (by decide +kernel)), cw_J6_bitCount_0f7a4.1, cw_J6_bitCount_0f7a4.2, cd_J6_bitCount_0f7a4, by decide +kernel, by decide⟩
set_option maxRecDepth 20000 in
theorem cd_X8_sumOfSubsets : Cond.code mX8_sumOfSubsets.1 mX8_sumOfSubsets.2.1 mX8_sumOfSubsets.2.2.1 mX8_sumOfSubsets.2.2.2 ∈ ly_G := (ly_in 723 rfl rfl)
theorem cw_X8_sumOfSubsets : Cond.instanceMethod mX8_sumOfSubsets.1 ∈ ly_G ∧ Cond.selects mX8_sumOfSubsets.1.cls mX8_sumOfSubsets.1 mX8_sumOfSubsets.1 ∈ ly_G ∧ Cond.initialized mX8_sumOfSubsets.1.cls ∈ ly_G := ⟨(ly_in 722 (by decide +kernel) (by decide +kernel)), (ly_in 22 (by decide +kernel) (by decide +kernel)), (ly_in 55 (by decide +kernel) (by decide +kernel))⟩
theorem cv_X8_205 : cv_ok RX8 205 mX8_sumOfSubsets 8 5 := ⟨by decide +kernel, Or.inl (ly_in 720 (by decide +kernel) (by decide +kernel)), cw_X8_sumOfSubsets.1, cw_X8_sumOfSubsets.2.1, cw_X8_sumOfSubsets.2.2, cd_X8_sumOfSubsets, by decide +kernel, by decide⟩
set_option maxRecDepth 20000 in
theorem cd_X8_power : Cond.code mX8_power.1 mX8_power.2.1 mX8_power.2.2.1 mX8_power.2.2.2 ∈ ly_G := (ly_in 726 rfl rfl)
theorem cw_X8_power : Cond.static mX8_power.1 ∈ ly_G ∧ Cond.initialized mX8_power.1.cls ∈ ly_G := ⟨(ly_in 725 (by decide +kernel) (by decide +kernel)), (ly_in 55 (by decide +kernel) (by decide +kernel))⟩
theorem cs_X8_246 : cs_ok RX8 246 mX8_power 2 := ⟨Or.inl (ly_in 724 (by decide +kernel) (by decide +kernel)), cw_X8_power.1, cw_X8_power.2, cd_X8_power, by decide +kernel, by decide⟩
set_option maxRecDepth 20000 in
theorem cd_X8_lost : Cond.code mX8_lost.1 mX8_lost.2.1 mX8_lost.2.2.1 mX8_lost.2.2.2 ∈ ly_G := (ly_in 730 rfl rfl)
theorem cw_X8_lost : Cond.instanceMethod mX8_lost.1 ∈ ly_G ∧ Cond.selects mX8_lost.1.cls mX8_lost.1 mX8_lost.1 ∈ ly_G ∧ Cond.initialized mX8_lost.1.cls ∈ ly_G := ⟨(ly_in 728 (by decide +kernel) (by decide +kernel)), (ly_in 729 (by decide +kernel) (by decide +kernel)), (ly_in 55 (by decide +kernel) (by decide +kernel))⟩
theorem cv_L_129 : cv_ok RL 129 mX8_lost 8 4 := ⟨by decide +kernel, Or.inl (ly_in 727 (by decide +kernel) (by decide +kernel)), cw_X8_lost.1, cw_X8_lost.2.1, cw_X8_lost.2.2, cd_X8_lost, by decide +kernel, by decide⟩
set_option maxRecDepth 20000 in
theorem cd_X8_undo : Cond.code mX8_undo.1 mX8_undo.2.1 mX8_undo.2.2.1 mX8_undo.2.2.2 ∈ ly_G := (ly_in 734 rfl rfl)
theorem cw_X8_undo : Cond.instanceMethod mX8_undo.1 ∈ ly_G ∧ Cond.selects mX8_undo.1.cls mX8_undo.1 mX8_undo.1 ∈ ly_G ∧ Cond.initialized mX8_undo.1.cls ∈ ly_G := ⟨(ly_in 732 (by decide +kernel) (by decide +kernel)), (ly_in 733 (by decide +kernel) (by decide +kernel)), (ly_in 55 (by decide +kernel) (by decide +kernel))⟩
theorem cv_L_133 : cv_ok RL 133 mX8_undo 8 0 := ⟨by decide +kernel, Or.inl (ly_in 731 (by decide +kernel) (by decide +kernel)), cw_X8_undo.1, cw_X8_undo.2.1, cw_X8_undo.2.2, cd_X8_undo, by decide +kernel, by decide⟩
set_option maxRecDepth 20000 in
theorem cd_X4_bringBack : Cond.code mX4_bringBack.1 mX4_bringBack.2.1 mX4_bringBack.2.2.1 mX4_bringBack.2.2.2 ∈ ly_G := (ly_in 738 rfl rfl)
theorem cw_X4_bringBack : Cond.instanceMethod mX4_bringBack.1 ∈ ly_G ∧ Cond.selects mX4_bringBack.1.cls mX4_bringBack.1 mX4_bringBack.1 ∈ ly_G ∧ Cond.initialized mX4_bringBack.1.cls ∈ ly_G := ⟨(ly_in 736 (by decide +kernel) (by decide +kernel)), (ly_in 737 (by decide +kernel) (by decide +kernel)), (ly_in 57 (by decide +kernel) (by decide +kernel))⟩
theorem cv_X8_209 : cv_ok RX8 209 mX4_bringBack 4 1 := ⟨by decide +kernel, Or.inl (ly_in 735 (by decide +kernel) (by decide +kernel)), cw_X4_bringBack.1, cw_X4_bringBack.2.1, cw_X4_bringBack.2.2, cd_X4_bringBack, by decide +kernel, by decide⟩
set_option maxRecDepth 20000 in
theorem cd_X2_copyFrom : Cond.code mX2_copyFrom.1 mX2_copyFrom.2.1 mX2_copyFrom.2.2.1 mX2_copyFrom.2.2.2 ∈ ly_G := (ly_in 742 rfl rfl)
theorem cw_X2_copyFrom : Cond.instanceMethod mX2_copyFrom.1 ∈ ly_G ∧ Cond.selects mX2_copyFrom.1.cls mX2_copyFrom.1 mX2_copyFrom.1 ∈ ly_G ∧ Cond.initialized mX2_copyFrom.1.cls ∈ ly_G := ⟨(ly_in 740 (by decide +kernel) (by decide +kernel)), (ly_in 741 (by decide +kernel) (by decide +kernel)), (ly_in 56 (by decide +kernel) (by decide +kernel))⟩
theorem cv_X4_28 : cv_ok RX4 28 mX2_copyFrom 2 2 := ⟨by decide +kernel, Or.inl (ly_in 739 (by decide +kernel) (by decide +kernel)), cw_X2_copyFrom.1, cw_X2_copyFrom.2.1, cw_X2_copyFrom.2.2, cd_X2_copyFrom, by decide +kernel, by decide⟩
set_option maxRecDepth 20000 in
theorem cd_X8_count : Cond.code mX8_count.1 mX8_count.2.1 mX8_count.2.2.1 mX8_count.2.2.2 ∈ ly_G := (ly_in 746 rfl rfl)
theorem cw_X8_count : Cond.instanceMethod mX8_count.1 ∈ ly_G ∧ Cond.selects mX8_count.1.cls mX8_count.1 mX8_count.1 ∈ ly_G ∧ Cond.initialized mX8_count.1.cls ∈ ly_G := ⟨(ly_in 744 (by decide +kernel) (by decide +kernel)), (ly_in 745 (by decide +kernel) (by decide +kernel)), (ly_in 55 (by decide +kernel) (by decide +kernel))⟩
theorem cv_L_137 : cv_ok RL 137 mX8_count 8 1 := ⟨by decide +kernel, Or.inl (ly_in 743 (by decide +kernel) (by decide +kernel)), cw_X8_count.1, cw_X8_count.2.1, cw_X8_count.2.2, cd_X8_count, by decide +kernel, by decide⟩
set_option maxRecDepth 20000 in
theorem cd_X2_sumOfLengths : Cond.code mX2_sumOfLengths.1 mX2_sumOfLengths.2.1 mX2_sumOfLengths.2.2.1 mX2_sumOfLengths.2.2.2 ∈ ly_G := (ly_in 750 rfl rfl)
theorem cw_X2_sumOfLengths : Cond.instanceMethod mX2_sumOfLengths.1 ∈ ly_G ∧ Cond.selects mX2_sumOfLengths.1.cls mX2_sumOfLengths.1 mX2_sumOfLengths.1 ∈ ly_G ∧ Cond.initialized mX2_sumOfLengths.1.cls ∈ ly_G := ⟨(ly_in 748 (by decide +kernel) (by decide +kernel)), (ly_in 749 (by decide +kernel) (by decide +kernel)), (ly_in 56 (by decide +kernel) (by decide +kernel))⟩
theorem cv_X8_221 : cv_ok RX8 221 mX2_sumOfLengths 2 0 := ⟨by decide +kernel, Or.inl (ly_in 747 (by decide +kernel) (by decide +kernel)), cw_X2_sumOfLengths.1, cw_X2_sumOfLengths.2.1, cw_X2_sumOfLengths.2.2, cd_X2_sumOfLengths, by decide +kernel, by decide⟩
set_option maxRecDepth 20000 in
theorem cd_X2_plainLength : Cond.code mX2_plainLength.1 mX2_plainLength.2.1 mX2_plainLength.2.2.1 mX2_plainLength.2.2.2 ∈ ly_G := (ly_in 754 rfl rfl)
theorem cw_X2_plainLength : Cond.instanceMethod mX2_plainLength.1 ∈ ly_G ∧ Cond.selects mX2_plainLength.1.cls mX2_plainLength.1 mX2_plainLength.1 ∈ ly_G ∧ Cond.initialized mX2_plainLength.1.cls ∈ ly_G := ⟨(ly_in 752 (by decide +kernel) (by decide +kernel)), (ly_in 753 (by decide +kernel) (by decide +kernel)), (ly_in 56 (by decide +kernel) (by decide +kernel))⟩
theorem cv_X2_44 : cv_ok RX2 44 mX2_plainLength 2 1 := ⟨by decide +kernel, Or.inl (ly_in 751 (by decide +kernel) (by decide +kernel)), cw_X2_plainLength.1, cw_X2_plainLength.2.1, cw_X2_plainLength.2.2, cd_X2_plainLength, by decide +kernel, by decide⟩
set_option maxRecDepth 20000 in
theorem cd_X5_reachablePairs : Cond.code mX5_reachablePairs.1 mX5_reachablePairs.2.1 mX5_reachablePairs.2.2.1 mX5_reachablePairs.2.2.2 ∈ ly_G := (ly_in 758 rfl rfl)
theorem cw_X5_reachablePairs : Cond.instanceMethod mX5_reachablePairs.1 ∈ ly_G ∧ Cond.selects mX5_reachablePairs.1.cls mX5_reachablePairs.1 mX5_reachablePairs.1 ∈ ly_G ∧ Cond.initialized mX5_reachablePairs.1.cls ∈ ly_G := ⟨(ly_in 756 (by decide +kernel) (by decide +kernel)), (ly_in 757 (by decide +kernel) (by decide +kernel)), (ly_in 59 (by decide +kernel) (by decide +kernel))⟩
theorem cv_X8_224 : cv_ok RX8 224 mX5_reachablePairs 5 1 := ⟨by decide +kernel, Or.inl (ly_in 755 (by decide +kernel) (by decide +kernel)), cw_X5_reachablePairs.1, cw_X5_reachablePairs.2.1, cw_X5_reachablePairs.2.2, cd_X5_reachablePairs, by decide +kernel, by decide⟩
set_option maxRecDepth 20000 in
theorem cd_X8_digest : Cond.code mX8_digest.1 mX8_digest.2.1 mX8_digest.2.2.1 mX8_digest.2.2.2 ∈ ly_G := (ly_in 762 rfl rfl)
theorem cw_X8_digest : Cond.instanceMethod mX8_digest.1 ∈ ly_G ∧ Cond.selects mX8_digest.1.cls mX8_digest.1 mX8_digest.1 ∈ ly_G ∧ Cond.initialized mX8_digest.1.cls ∈ ly_G := ⟨(ly_in 760 (by decide +kernel) (by decide +kernel)), (ly_in 761 (by decide +kernel) (by decide +kernel)), (ly_in 55 (by decide +kernel) (by decide +kernel))⟩
theorem cv_L_141 : cv_ok RL 141 mX8_digest 8 0 := ⟨by decide +kernel, Or.inl (ly_in 759 (by decide +kernel) (by decide +kernel)), cw_X8_digest.1, cw_X8_digest.2.1, cw_X8_digest.2.2, cd_X8_digest, by decide +kernel, by decide⟩
theorem cv_X8_231 : cv_ok RX8 231 mX8_count 8 1 := ⟨by decide +kernel, Or.inl (ly_in 765 (by decide +kernel) (by decide +kernel)), cw_X8_count.1, cw_X8_count.2.1, cw_X8_count.2.2, cd_X8_count, by decide +kernel, by decide⟩
theorem cv_X8_234 : cv_ok RX8 234 mX8_edge 8 2 := ⟨by decide +kernel, Or.inl (ly_in 766 (by decide +kernel) (by decide +kernel)), cw_X8_edge.1, cw_X8_edge.2.1, cw_X8_edge.2.2, cd_X8_edge, by decide +kernel, by decide⟩
theorem cv_X8_237 : cv_ok RX8 237 mX5_run 5 3 := ⟨by decide +kernel, Or.inl (ly_in 767 (by decide +kernel) (by decide +kernel)), cw_X5_run.1, cw_X5_run.2.1, cw_X5_run.2.2, cd_X5_run, by decide +kernel, by decide⟩
theorem cv_X8_240 : cv_ok RX8 240 mX5_distanceTo 5 1 := ⟨by decide +kernel, Or.inl (ly_in 768 (by decide +kernel) (by decide +kernel)), cw_X5_distanceTo.1, cw_X5_distanceTo.2.1, cw_X5_distanceTo.2.2, cd_X5_distanceTo, by decide +kernel, by decide⟩
theorem cv_X8_243 : cv_ok RX8 243 mX6_letterAt 6 1 := ⟨by decide +kernel, Or.inl (ly_in 769 (by decide +kernel) (by decide +kernel)), cw_X6_letterAt.1, cw_X6_letterAt.2.1, cw_X6_letterAt.2.2, cd_X6_letterAt, by decide +kernel, by decide⟩
set_option maxRecDepth 20000 in
theorem cd_X9_undo : Cond.code mX9_undo.1 mX9_undo.2.1 mX9_undo.2.2.1 mX9_undo.2.2.2 ∈ ly_G := (ly_in 837 rfl rfl)
theorem cw_X9_undo : Cond.instanceMethod mX9_undo.1 ∈ ly_G ∧ Cond.selects mX9_undo.1.cls mX9_undo.1 mX9_undo.1 ∈ ly_G ∧ Cond.initialized mX9_undo.1.cls ∈ ly_G := ⟨(ly_in 835 (by decide +kernel) (by decide +kernel)), (ly_in 836 (by decide +kernel) (by decide +kernel)), (ly_in 64 (by decide +kernel) (by decide +kernel))⟩
theorem cv_L_136 : cv_ok RL 136 mX9_undo 9 0 := ⟨by decide +kernel, Or.inl (ly_in 834 (by decide +kernel) (by decide +kernel)), cw_X9_undo.1, cw_X9_undo.2.1, cw_X9_undo.2.2, cd_X9_undo, by decide +kernel, by decide⟩
set_option maxRecDepth 20000 in
theorem cd_X9_addEdge : Cond.code mX9_addEdge.1 mX9_addEdge.2.1 mX9_addEdge.2.2.1 mX9_addEdge.2.2.2 ∈ ly_G := (ly_in 841 rfl rfl)
theorem cw_X9_addEdge : Cond.instanceMethod mX9_addEdge.1 ∈ ly_G ∧ Cond.selects mX9_addEdge.1.cls mX9_addEdge.1 mX9_addEdge.1 ∈ ly_G ∧ Cond.initialized mX9_addEdge.1.cls ∈ ly_G := ⟨(ly_in 839 (by decide +kernel) (by decide +kernel)), (ly_in 840 (by decide +kernel) (by decide +kernel)), (ly_in 64 (by decide +kernel) (by decide +kernel))⟩
theorem cv_L_17 : cv_ok RL 17 mX9_addEdge 9 5 := ⟨by decide +kernel, Or.inl (ly_in 838 (by decide +kernel) (by decide +kernel)), cw_X9_addEdge.1, cw_X9_addEdge.2.1, cw_X9_addEdge.2.2, cd_X9_addEdge, by decide +kernel, by decide⟩
set_option maxRecDepth 20000 in
theorem cd_X9_areNodes : Cond.code mX9_areNodes.1 mX9_areNodes.2.1 mX9_areNodes.2.2.1 mX9_areNodes.2.2.2 ∈ ly_G := (ly_in 844 rfl rfl)
theorem cw_X9_areNodes : Cond.static mX9_areNodes.1 ∈ ly_G ∧ Cond.initialized mX9_areNodes.1.cls ∈ ly_G := ⟨(ly_in 843 (by decide +kernel) (by decide +kernel)), (ly_in 64 (by decide +kernel) (by decide +kernel))⟩
theorem cs_X9_53 : cs_ok RX9 53 mX9_areNodes 2 := ⟨Or.inl (ly_in 842 (by decide +kernel) (by decide +kernel)), cw_X9_areNodes.1, cw_X9_areNodes.2, cd_X9_areNodes, by decide +kernel, by decide⟩
set_option maxRecDepth 20000 in
theorem cd_X9_in : Cond.code mX9_in.1 mX9_in.2.1 mX9_in.2.2.1 mX9_in.2.2.2 ∈ ly_G := (ly_in 847 rfl rfl)
theorem cw_X9_in : Cond.static mX9_in.1 ∈ ly_G ∧ Cond.initialized mX9_in.1.cls ∈ ly_G := ⟨(ly_in 846 (by decide +kernel) (by decide +kernel)), (ly_in 64 (by decide +kernel) (by decide +kernel))⟩
theorem cs_X9_38 : cs_ok RX9 38 mX9_in 3 := ⟨Or.inl (ly_in 845 (by decide +kernel) (by decide +kernel)), cw_X9_in.1, cw_X9_in.2, cd_X9_in, by decide +kernel, by decide⟩
set_option maxRecDepth 20000 in
theorem cd_X9_isValue : Cond.code mX9_isValue.1 mX9_isValue.2.1 mX9_isValue.2.2.1 mX9_isValue.2.2.2 ∈ ly_G := (ly_in 850 rfl rfl)
theorem cw_X9_isValue : Cond.static mX9_isValue.1 ∈ ly_G ∧ Cond.initialized mX9_isValue.1.cls ∈ ly_G := ⟨(ly_in 849 (by decide +kernel) (by decide +kernel)), (ly_in 64 (by decide +kernel) (by decide +kernel))⟩
theorem cs_X9_56 : cs_ok RX9 56 mX9_isValue 2 := ⟨Or.inl (ly_in 848 (by decide +kernel) (by decide +kernel)), cw_X9_isValue.1, cw_X9_isValue.2, cd_X9_isValue, by decide +kernel, by decide⟩
set_option maxRecDepth 20000 in
theorem cd_X9_keeps : Cond.code mX9_keeps.1 mX9_keeps.2.1 mX9_keeps.2.2.1 mX9_keeps.2.2.2 ∈ ly_G := (ly_in 854 rfl rfl)
theorem cw_X9_keeps : Cond.instanceMethod mX9_keeps.1 ∈ ly_G ∧ Cond.selects mX9_keeps.1.cls mX9_keeps.1 mX9_keeps.1 ∈ ly_G ∧ Cond.initialized mX9_keeps.1.cls ∈ ly_G := ⟨(ly_in 853 (by decide +kernel) (by decide +kernel)), (ly_in 23 (by decide +kernel) (by decide +kernel)), (ly_in 64 (by decide +kernel) (by decide +kernel))⟩
theorem cv_X9_59 : cv_ok RX9 59 mX9_keeps 9 0 := ⟨by decide +kernel, Or.inl (ly_in 851 (by decide +kernel) (by decide +kernel)), cw_X9_keeps.1, cw_X9_keeps.2.1, cw_X9_keeps.2.2, cd_X9_keeps, by decide +kernel, by decide⟩
set_option maxRecDepth 20000 in
theorem cd_X9_lays : Cond.code mX9_lays.1 mX9_lays.2.1 mX9_lays.2.2.1 mX9_lays.2.2.2 ∈ ly_G := (ly_in 858 rfl rfl)
theorem cw_X9_lays : Cond.instanceMethod mX9_lays.1 ∈ ly_G ∧ Cond.selects mX9_lays.1.cls mX9_lays.1 mX9_lays.1 ∈ ly_G ∧ Cond.initialized mX9_lays.1.cls ∈ ly_G := ⟨(ly_in 857 (by decide +kernel) (by decide +kernel)), (ly_in 24 (by decide +kernel) (by decide +kernel)), (ly_in 64 (by decide +kernel) (by decide +kernel))⟩
theorem cv_X9_62 : cv_ok RX9 62 mX9_lays 9 6 := ⟨by decide +kernel, Or.inl (ly_in 855 (by decide +kernel) (by decide +kernel)), cw_X9_lays.1, cw_X9_lays.2.1, cw_X9_lays.2.2, cd_X9_lays, by decide +kernel, by decide⟩
set_option maxRecDepth 20000 in
theorem cd_X9_removeEdge : Cond.code mX9_removeEdge.1 mX9_removeEdge.2.1 mX9_removeEdge.2.2.1 mX9_removeEdge.2.2.2 ∈ ly_G := (ly_in 862 rfl rfl)
theorem cw_X9_removeEdge : Cond.instanceMethod mX9_removeEdge.1 ∈ ly_G ∧ Cond.selects mX9_removeEdge.1.cls mX9_removeEdge.1 mX9_removeEdge.1 ∈ ly_G ∧ Cond.initialized mX9_removeEdge.1.cls ∈ ly_G := ⟨(ly_in 860 (by decide +kernel) (by decide +kernel)), (ly_in 861 (by decide +kernel) (by decide +kernel)), (ly_in 64 (by decide +kernel) (by decide +kernel))⟩
theorem cv_L_22 : cv_ok RL 22 mX9_removeEdge 9 1 := ⟨by decide +kernel, Or.inl (ly_in 859 (by decide +kernel) (by decide +kernel)), cw_X9_removeEdge.1, cw_X9_removeEdge.2.1, cw_X9_removeEdge.2.2, cd_X9_removeEdge, by decide +kernel, by decide⟩
set_option maxRecDepth 20000 in
theorem cd_X9_isEdge : Cond.code mX9_isEdge.1 mX9_isEdge.2.1 mX9_isEdge.2.2.1 mX9_isEdge.2.2.2 ∈ ly_G := (ly_in 866 rfl rfl)
theorem cw_X9_isEdge : Cond.instanceMethod mX9_isEdge.1 ∈ ly_G ∧ Cond.selects mX9_isEdge.1.cls mX9_isEdge.1 mX9_isEdge.1 ∈ ly_G ∧ Cond.initialized mX9_isEdge.1.cls ∈ ly_G := ⟨(ly_in 865 (by decide +kernel) (by decide +kernel)), (ly_in 25 (by decide +kernel) (by decide +kernel)), (ly_in 64 (by decide +kernel) (by decide +kernel))⟩
theorem cv_X9_66 : cv_ok RX9 66 mX9_isEdge 9 1 := ⟨by decide +kernel, Or.inl (ly_in 863 (by decide +kernel) (by decide +kernel)), cw_X9_isEdge.1, cw_X9_isEdge.2.1, cw_X9_isEdge.2.2, cd_X9_isEdge, by decide +kernel, by decide⟩
set_option maxRecDepth 20000 in
theorem cd_X9_has : Cond.code mX9_has.1 mX9_has.2.1 mX9_has.2.2.1 mX9_has.2.2.2 ∈ ly_G := (ly_in 869 rfl rfl)
theorem cw_X9_has : Cond.static mX9_has.1 ∈ ly_G ∧ Cond.initialized mX9_has.1.cls ∈ ly_G := ⟨(ly_in 868 (by decide +kernel) (by decide +kernel)), (ly_in 64 (by decide +kernel) (by decide +kernel))⟩
theorem cs_X9_42 : cs_ok RX9 42 mX9_has 2 := ⟨Or.inl (ly_in 867 (by decide +kernel) (by decide +kernel)), cw_X9_has.1, cw_X9_has.2, cd_X9_has, by decide +kernel, by decide⟩
set_option maxRecDepth 20000 in
theorem cd_X9_setEdge : Cond.code mX9_setEdge.1 mX9_setEdge.2.1 mX9_setEdge.2.2.1 mX9_setEdge.2.2.2 ∈ ly_G := (ly_in 873 rfl rfl)
theorem cw_X9_setEdge : Cond.instanceMethod mX9_setEdge.1 ∈ ly_G ∧ Cond.selects mX9_setEdge.1.cls mX9_setEdge.1 mX9_setEdge.1 ∈ ly_G ∧ Cond.initialized mX9_setEdge.1.cls ∈ ly_G := ⟨(ly_in 871 (by decide +kernel) (by decide +kernel)), (ly_in 872 (by decide +kernel) (by decide +kernel)), (ly_in 64 (by decide +kernel) (by decide +kernel))⟩
theorem cv_L_27 : cv_ok RL 27 mX9_setEdge 9 3 := ⟨by decide +kernel, Or.inl (ly_in 870 (by decide +kernel) (by decide +kernel)), cw_X9_setEdge.1, cw_X9_setEdge.2.1, cw_X9_setEdge.2.2, cd_X9_setEdge, by decide +kernel, by decide⟩
set_option maxRecDepth 20000 in
theorem cd_X9_of : Cond.code mX9_of.1 mX9_of.2.1 mX9_of.2.2.1 mX9_of.2.2.2 ∈ ly_G := (ly_in 877 rfl rfl)
theorem cw_X9_of : Cond.instanceMethod mX9_of.1 ∈ ly_G ∧ Cond.selects mX9_of.1.cls mX9_of.1 mX9_of.1 ∈ ly_G ∧ Cond.initialized mX9_of.1.cls ∈ ly_G := ⟨(ly_in 876 (by decide +kernel) (by decide +kernel)), (ly_in 26 (by decide +kernel) (by decide +kernel)), (ly_in 64 (by decide +kernel) (by decide +kernel))⟩
theorem cv_X9_46 : cv_ok RX9 46 mX9_of 9 2 := ⟨by decide +kernel, Or.inl (ly_in 874 (by decide +kernel) (by decide +kernel)), cw_X9_of.1, cw_X9_of.2.1, cw_X9_of.2.2, cd_X9_of, by decide +kernel, by decide⟩
set_option maxRecDepth 20000 in
theorem cd_X9_edge : Cond.code mX9_edge.1 mX9_edge.2.1 mX9_edge.2.2.1 mX9_edge.2.2.2 ∈ ly_G := (ly_in 881 rfl rfl)
theorem cw_X9_edge : Cond.instanceMethod mX9_edge.1 ∈ ly_G ∧ Cond.selects mX9_edge.1.cls mX9_edge.1 mX9_edge.1 ∈ ly_G ∧ Cond.initialized mX9_edge.1.cls ∈ ly_G := ⟨(ly_in 879 (by decide +kernel) (by decide +kernel)), (ly_in 880 (by decide +kernel) (by decide +kernel)), (ly_in 64 (by decide +kernel) (by decide +kernel))⟩
theorem cv_L_32 : cv_ok RL 32 mX9_edge 9 2 := ⟨by decide +kernel, Or.inl (ly_in 878 (by decide +kernel) (by decide +kernel)), cw_X9_edge.1, cw_X9_edge.2.1, cw_X9_edge.2.2, cd_X9_edge, by decide +kernel, by decide⟩
set_option maxRecDepth 20000 in
theorem cd_X9_clear : Cond.code mX9_clear.1 mX9_clear.2.1 mX9_clear.2.2.1 mX9_clear.2.2.2 ∈ ly_G := (ly_in 885 rfl rfl)
theorem cw_X9_clear : Cond.instanceMethod mX9_clear.1 ∈ ly_G ∧ Cond.selects mX9_clear.1.cls mX9_clear.1 mX9_clear.1 ∈ ly_G ∧ Cond.initialized mX9_clear.1.cls ∈ ly_G := ⟨(ly_in 883 (by decide +kernel) (by decide +kernel)), (ly_in 884 (by decide +kernel) (by decide +kernel)), (ly_in 64 (by decide +kernel) (by decide +kernel))⟩
theorem cv_L_37 : cv_ok RL 37 mX9_clear 9 0 := ⟨by decide +kernel, Or.inl (ly_in 882 (by decide +kernel) (by decide +kernel)), cw_X9_clear.1, cw_X9_clear.2.1, cw_X9_clear.2.2, cd_X9_clear, by decide +kernel, by decide⟩
set_option maxRecDepth 20000 in
theorem cd_X9_type : Cond.code mX9_type.1 mX9_type.2.1 mX9_type.2.2.1 mX9_type.2.2.2 ∈ ly_G := (ly_in 889 rfl rfl)
theorem cw_X9_type : Cond.instanceMethod mX9_type.1 ∈ ly_G ∧ Cond.selects mX9_type.1.cls mX9_type.1 mX9_type.1 ∈ ly_G ∧ Cond.initialized mX9_type.1.cls ∈ ly_G := ⟨(ly_in 887 (by decide +kernel) (by decide +kernel)), (ly_in 888 (by decide +kernel) (by decide +kernel)), (ly_in 64 (by decide +kernel) (by decide +kernel))⟩
theorem cv_L_41 : cv_ok RL 41 mX9_type 9 1 := ⟨by decide +kernel, Or.inl (ly_in 886 (by decide +kernel) (by decide +kernel)), cw_X9_type.1, cw_X9_type.2.1, cw_X9_type.2.2, cd_X9_type, by decide +kernel, by decide⟩
set_option maxRecDepth 20000 in
theorem cd_X9_clearText : Cond.code mX9_clearText.1 mX9_clearText.2.1 mX9_clearText.2.2.1 mX9_clearText.2.2.2 ∈ ly_G := (ly_in 893 rfl rfl)
theorem cw_X9_clearText : Cond.instanceMethod mX9_clearText.1 ∈ ly_G ∧ Cond.selects mX9_clearText.1.cls mX9_clearText.1 mX9_clearText.1 ∈ ly_G ∧ Cond.initialized mX9_clearText.1.cls ∈ ly_G := ⟨(ly_in 891 (by decide +kernel) (by decide +kernel)), (ly_in 892 (by decide +kernel) (by decide +kernel)), (ly_in 64 (by decide +kernel) (by decide +kernel))⟩
theorem cv_L_45 : cv_ok RL 45 mX9_clearText 9 0 := ⟨by decide +kernel, Or.inl (ly_in 890 (by decide +kernel) (by decide +kernel)), cw_X9_clearText.1, cw_X9_clearText.2.1, cw_X9_clearText.2.2, cd_X9_clearText, by decide +kernel, by decide⟩
set_option maxRecDepth 20000 in
theorem cd_X9_fault : Cond.code mX9_fault.1 mX9_fault.2.1 mX9_fault.2.2.1 mX9_fault.2.2.2 ∈ ly_G := (ly_in 897 rfl rfl)
theorem cw_X9_fault : Cond.instanceMethod mX9_fault.1 ∈ ly_G ∧ Cond.selects mX9_fault.1.cls mX9_fault.1 mX9_fault.1 ∈ ly_G ∧ Cond.initialized mX9_fault.1.cls ∈ ly_G := ⟨(ly_in 895 (by decide +kernel) (by decide +kernel)), (ly_in 896 (by decide +kernel) (by decide +kernel)), (ly_in 64 (by decide +kernel) (by decide +kernel))⟩
theorem cv_L_49 : cv_ok RL 49 mX9_fault 9 0 := ⟨by decide +kernel, Or.inl (ly_in 894 (by decide +kernel) (by decide +kernel)), cw_X9_fault.1, cw_X9_fault.2.1, cw_X9_fault.2.2, cd_X9_fault, by decide +kernel, by decide⟩
set_option maxRecDepth 20000 in
theorem cd_X9_blanks : Cond.code mX9_blanks.1 mX9_blanks.2.1 mX9_blanks.2.2.1 mX9_blanks.2.2.2 ∈ ly_G := (ly_in 901 rfl rfl)
theorem cw_X9_blanks : Cond.instanceMethod mX9_blanks.1 ∈ ly_G ∧ Cond.selects mX9_blanks.1.cls mX9_blanks.1 mX9_blanks.1 ∈ ly_G ∧ Cond.initialized mX9_blanks.1.cls ∈ ly_G := ⟨(ly_in 900 (by decide +kernel) (by decide +kernel)), (ly_in 27 (by decide +kernel) (by decide +kernel)), (ly_in 64 (by decide +kernel) (by decide +kernel))⟩
theorem cv_X9_76 : cv_ok RX9 76 mX9_blanks 9 0 := ⟨by decide +kernel, Or.inl (ly_in 898 (by decide +kernel) (by decide +kernel)), cw_X9_blanks.1, cw_X9_blanks.2.1, cw_X9_blanks.2.2, cd_X9_blanks, by decide +kernel, by decide⟩
set_option maxRecDepth 20000 in
theorem cd_X9_next : Cond.code mX9_next.1 mX9_next.2.1 mX9_next.2.2.1 mX9_next.2.2.2 ∈ ly_G := (ly_in 905 rfl rfl)
theorem cw_X9_next : Cond.instanceMethod mX9_next.1 ∈ ly_G ∧ Cond.selects mX9_next.1.cls mX9_next.1 mX9_next.1 ∈ ly_G ∧ Cond.initialized mX9_next.1.cls ∈ ly_G := ⟨(ly_in 904 (by decide +kernel) (by decide +kernel)), (ly_in 28 (by decide +kernel) (by decide +kernel)), (ly_in 64 (by decide +kernel) (by decide +kernel))⟩
theorem cv_X9_79 : cv_ok RX9 79 mX9_next 9 0 := ⟨by decide +kernel, Or.inl (ly_in 902 (by decide +kernel) (by decide +kernel)), cw_X9_next.1, cw_X9_next.2.1, cw_X9_next.2.2, cd_X9_next, by decide +kernel, by decide⟩
set_option maxRecDepth 20000 in
theorem cd_X9_node : Cond.code mX9_node.1 mX9_node.2.1 mX9_node.2.2.1 mX9_node.2.2.2 ∈ ly_G := (ly_in 909 rfl rfl)
theorem cw_X9_node : Cond.instanceMethod mX9_node.1 ∈ ly_G ∧ Cond.selects mX9_node.1.cls mX9_node.1 mX9_node.1 ∈ ly_G ∧ Cond.initialized mX9_node.1.cls ∈ ly_G := ⟨(ly_in 908 (by decide +kernel) (by decide +kernel)), (ly_in 29 (by decide +kernel) (by decide +kernel)), (ly_in 64 (by decide +kernel) (by decide +kernel))⟩
theorem cv_X9_101 : cv_ok RX9 101 mX9_node 9 1 := ⟨by decide +kernel, Or.inl (ly_in 906 (by decide +kernel) (by decide +kernel)), cw_X9_node.1, cw_X9_node.2.1, cw_X9_node.2.2, cd_X9_node, by decide +kernel, by decide⟩
set_option maxRecDepth 20000 in
theorem cd_X9_passes : Cond.code mX9_passes.1 mX9_passes.2.1 mX9_passes.2.2.1 mX9_passes.2.2.2 ∈ ly_G := (ly_in 913 rfl rfl)
theorem cw_X9_passes : Cond.instanceMethod mX9_passes.1 ∈ ly_G ∧ Cond.selects mX9_passes.1.cls mX9_passes.1 mX9_passes.1 ∈ ly_G ∧ Cond.initialized mX9_passes.1.cls ∈ ly_G := ⟨(ly_in 912 (by decide +kernel) (by decide +kernel)), (ly_in 30 (by decide +kernel) (by decide +kernel)), (ly_in 64 (by decide +kernel) (by decide +kernel))⟩
theorem cv_X9_87 : cv_ok RX9 87 mX9_passes 9 0 := ⟨by decide +kernel, Or.inl (ly_in 910 (by decide +kernel) (by decide +kernel)), cw_X9_passes.1, cw_X9_passes.2.1, cw_X9_passes.2.2, cd_X9_passes, by decide +kernel, by decide⟩
set_option maxRecDepth 20000 in
theorem cd_X9_number : Cond.code mX9_number.1 mX9_number.2.1 mX9_number.2.2.1 mX9_number.2.2.2 ∈ ly_G := (ly_in 917 rfl rfl)
theorem cw_X9_number : Cond.instanceMethod mX9_number.1 ∈ ly_G ∧ Cond.selects mX9_number.1.cls mX9_number.1 mX9_number.1 ∈ ly_G ∧ Cond.initialized mX9_number.1.cls ∈ ly_G := ⟨(ly_in 916 (by decide +kernel) (by decide +kernel)), (ly_in 31 (by decide +kernel) (by decide +kernel)), (ly_in 64 (by decide +kernel) (by decide +kernel))⟩
theorem cv_X9_94 : cv_ok RX9 94 mX9_number 9 1 := ⟨by decide +kernel, Or.inl (ly_in 914 (by decide +kernel) (by decide +kernel)), cw_X9_number.1, cw_X9_number.2.1, cw_X9_number.2.2, cd_X9_number, by decide +kernel, by decide⟩
set_option maxRecDepth 20000 in
theorem cd_X9_isDigit : Cond.code mX9_isDigit.1 mX9_isDigit.2.1 mX9_isDigit.2.2.1 mX9_isDigit.2.2.2 ∈ ly_G := (ly_in 921 rfl rfl)
theorem cw_X9_isDigit : Cond.instanceMethod mX9_isDigit.1 ∈ ly_G ∧ Cond.selects mX9_isDigit.1.cls mX9_isDigit.1 mX9_isDigit.1 ∈ ly_G ∧ Cond.initialized mX9_isDigit.1.cls ∈ ly_G := ⟨(ly_in 920 (by decide +kernel) (by decide +kernel)), (ly_in 32 (by decide +kernel) (by decide +kernel)), (ly_in 64 (by decide +kernel) (by decide +kernel))⟩
theorem cv_X9_90 : cv_ok RX9 90 mX9_isDigit 9 0 := ⟨by decide +kernel, Or.inl (ly_in 918 (by decide +kernel) (by decide +kernel)), cw_X9_isDigit.1, cw_X9_isDigit.2.1, cw_X9_isDigit.2.2, cd_X9_isDigit, by decide +kernel, by decide⟩
set_option maxRecDepth 20000 in
theorem cd_X9_sign : Cond.code mX9_sign.1 mX9_sign.2.1 mX9_sign.2.2.1 mX9_sign.2.2.2 ∈ ly_G := (ly_in 925 rfl rfl)
theorem cw_X9_sign : Cond.instanceMethod mX9_sign.1 ∈ ly_G ∧ Cond.selects mX9_sign.1.cls mX9_sign.1 mX9_sign.1 ∈ ly_G ∧ Cond.initialized mX9_sign.1.cls ∈ ly_G := ⟨(ly_in 924 (by decide +kernel) (by decide +kernel)), (ly_in 33 (by decide +kernel) (by decide +kernel)), (ly_in 64 (by decide +kernel) (by decide +kernel))⟩
theorem cv_X9_105 : cv_ok RX9 105 mX9_sign 9 1 := ⟨by decide +kernel, Or.inl (ly_in 922 (by decide +kernel) (by decide +kernel)), cw_X9_sign.1, cw_X9_sign.2.1, cw_X9_sign.2.2, cd_X9_sign, by decide +kernel, by decide⟩
set_option maxRecDepth 20000 in
theorem cd_X9_delay : Cond.code mX9_delay.1 mX9_delay.2.1 mX9_delay.2.2.1 mX9_delay.2.2.2 ∈ ly_G := (ly_in 929 rfl rfl)
theorem cw_X9_delay : Cond.instanceMethod mX9_delay.1 ∈ ly_G ∧ Cond.selects mX9_delay.1.cls mX9_delay.1 mX9_delay.1 ∈ ly_G ∧ Cond.initialized mX9_delay.1.cls ∈ ly_G := ⟨(ly_in 928 (by decide +kernel) (by decide +kernel)), (ly_in 34 (by decide +kernel) (by decide +kernel)), (ly_in 64 (by decide +kernel) (by decide +kernel))⟩
theorem cv_X9_109 : cv_ok RX9 109 mX9_delay 9 0 := ⟨by decide +kernel, Or.inl (ly_in 926 (by decide +kernel) (by decide +kernel)), cw_X9_delay.1, cw_X9_delay.2.1, cw_X9_delay.2.2, cd_X9_delay, by decide +kernel, by decide⟩
set_option maxRecDepth 20000 in
theorem cd_X9_digit : Cond.code mX9_digit.1 mX9_digit.2.1 mX9_digit.2.2.1 mX9_digit.2.2.2 ∈ ly_G := (ly_in 933 rfl rfl)
theorem cw_X9_digit : Cond.instanceMethod mX9_digit.1 ∈ ly_G ∧ Cond.selects mX9_digit.1.cls mX9_digit.1 mX9_digit.1 ∈ ly_G ∧ Cond.initialized mX9_digit.1.cls ∈ ly_G := ⟨(ly_in 932 (by decide +kernel) (by decide +kernel)), (ly_in 35 (by decide +kernel) (by decide +kernel)), (ly_in 64 (by decide +kernel) (by decide +kernel))⟩
theorem cv_X9_112 : cv_ok RX9 112 mX9_digit 9 0 := ⟨by decide +kernel, Or.inl (ly_in 930 (by decide +kernel) (by decide +kernel)), cw_X9_digit.1, cw_X9_digit.2.1, cw_X9_digit.2.2, cd_X9_digit, by decide +kernel, by decide⟩
set_option maxRecDepth 20000 in
theorem cd_X9_load : Cond.code mX9_load.1 mX9_load.2.1 mX9_load.2.2.1 mX9_load.2.2.2 ∈ ly_G := (ly_in 937 rfl rfl)
theorem cw_X9_load : Cond.instanceMethod mX9_load.1 ∈ ly_G ∧ Cond.selects mX9_load.1.cls mX9_load.1 mX9_load.1 ∈ ly_G ∧ Cond.initialized mX9_load.1.cls ∈ ly_G := ⟨(ly_in 935 (by decide +kernel) (by decide +kernel)), (ly_in 936 (by decide +kernel) (by decide +kernel)), (ly_in 64 (by decide +kernel) (by decide +kernel))⟩
theorem cv_L_53 : cv_ok RL 53 mX9_load 9 0 := ⟨by decide +kernel, Or.inl (ly_in 934 (by decide +kernel) (by decide +kernel)), cw_X9_load.1, cw_X9_load.2.1, cw_X9_load.2.2, cd_X9_load, by decide +kernel, by decide⟩
theorem cv_X9_115 : cv_ok RX9 115 mX9_fault 9 0 := ⟨by decide +kernel, Or.inl (ly_in 938 (by decide +kernel) (by decide +kernel)), cw_X9_fault.1, cw_X9_fault.2.1, cw_X9_fault.2.2, cd_X9_fault, by decide +kernel, by decide⟩
set_option maxRecDepth 20000 in
theorem cd_X9_attack : Cond.code mX9_attack.1 mX9_attack.2.1 mX9_attack.2.2.1 mX9_attack.2.2.2 ∈ ly_G := (ly_in 942 rfl rfl)
theorem cw_X9_attack : Cond.instanceMethod mX9_attack.1 ∈ ly_G ∧ Cond.selects mX9_attack.1.cls mX9_attack.1 mX9_attack.1 ∈ ly_G ∧ Cond.initialized mX9_attack.1.cls ∈ ly_G := ⟨(ly_in 940 (by decide +kernel) (by decide +kernel)), (ly_in 941 (by decide +kernel) (by decide +kernel)), (ly_in 64 (by decide +kernel) (by decide +kernel))⟩
theorem cv_L_58 : cv_ok RL 58 mX9_attack 9 2 := ⟨by decide +kernel, Or.inl (ly_in 939 (by decide +kernel) (by decide +kernel)), cw_X9_attack.1, cw_X9_attack.2.1, cw_X9_attack.2.2, cd_X9_attack, by decide +kernel, by decide⟩
set_option maxRecDepth 20000 in
theorem cd_X9_costOf : Cond.code mX9_costOf.1 mX9_costOf.2.1 mX9_costOf.2.2.1 mX9_costOf.2.2.2 ∈ ly_G := (ly_in 946 rfl rfl)
theorem cw_X9_costOf : Cond.instanceMethod mX9_costOf.1 ∈ ly_G ∧ Cond.selects mX9_costOf.1.cls mX9_costOf.1 mX9_costOf.1 ∈ ly_G ∧ Cond.initialized mX9_costOf.1.cls ∈ ly_G := ⟨(ly_in 945 (by decide +kernel) (by decide +kernel)), (ly_in 36 (by decide +kernel) (by decide +kernel)), (ly_in 64 (by decide +kernel) (by decide +kernel))⟩
theorem cv_X9_118 : cv_ok RX9 118 mX9_costOf 9 1 := ⟨by decide +kernel, Or.inl (ly_in 943 (by decide +kernel) (by decide +kernel)), cw_X9_costOf.1, cw_X9_costOf.2.1, cw_X9_costOf.2.2, cd_X9_costOf, by decide +kernel, by decide⟩
set_option maxRecDepth 20000 in
theorem cd_X9_setAttack : Cond.code mX9_setAttack.1 mX9_setAttack.2.1 mX9_setAttack.2.2.1 mX9_setAttack.2.2.2 ∈ ly_G := (ly_in 950 rfl rfl)
theorem cw_X9_setAttack : Cond.instanceMethod mX9_setAttack.1 ∈ ly_G ∧ Cond.selects mX9_setAttack.1.cls mX9_setAttack.1 mX9_setAttack.1 ∈ ly_G ∧ Cond.initialized mX9_setAttack.1.cls ∈ ly_G := ⟨(ly_in 948 (by decide +kernel) (by decide +kernel)), (ly_in 949 (by decide +kernel) (by decide +kernel)), (ly_in 64 (by decide +kernel) (by decide +kernel))⟩
theorem cv_L_62 : cv_ok RL 62 mX9_setAttack 9 1 := ⟨by decide +kernel, Or.inl (ly_in 947 (by decide +kernel) (by decide +kernel)), cw_X9_setAttack.1, cw_X9_setAttack.2.1, cw_X9_setAttack.2.2, cd_X9_setAttack, by decide +kernel, by decide⟩
set_option maxRecDepth 20000 in
theorem cd_X9_isSet : Cond.code mX9_isSet.1 mX9_isSet.2.1 mX9_isSet.2.2.1 mX9_isSet.2.2.2 ∈ ly_G := (ly_in 954 rfl rfl)
theorem cw_X9_isSet : Cond.instanceMethod mX9_isSet.1 ∈ ly_G ∧ Cond.selects mX9_isSet.1.cls mX9_isSet.1 mX9_isSet.1 ∈ ly_G ∧ Cond.initialized mX9_isSet.1.cls ∈ ly_G := ⟨(ly_in 953 (by decide +kernel) (by decide +kernel)), (ly_in 37 (by decide +kernel) (by decide +kernel)), (ly_in 64 (by decide +kernel) (by decide +kernel))⟩
theorem cv_X9_121 : cv_ok RX9 121 mX9_isSet 9 1 := ⟨by decide +kernel, Or.inl (ly_in 951 (by decide +kernel) (by decide +kernel)), cw_X9_isSet.1, cw_X9_isSet.2.1, cw_X9_isSet.2.2, cd_X9_isSet, by decide +kernel, by decide⟩
set_option maxRecDepth 20000 in
theorem cd_X9_distance : Cond.code mX9_distance.1 mX9_distance.2.1 mX9_distance.2.2.1 mX9_distance.2.2.2 ∈ ly_G := (ly_in 958 rfl rfl)
theorem cw_X9_distance : Cond.instanceMethod mX9_distance.1 ∈ ly_G ∧ Cond.selects mX9_distance.1.cls mX9_distance.1 mX9_distance.1 ∈ ly_G ∧ Cond.initialized mX9_distance.1.cls ∈ ly_G := ⟨(ly_in 956 (by decide +kernel) (by decide +kernel)), (ly_in 957 (by decide +kernel) (by decide +kernel)), (ly_in 64 (by decide +kernel) (by decide +kernel))⟩
theorem cv_L_66 : cv_ok RL 66 mX9_distance 9 2 := ⟨by decide +kernel, Or.inl (ly_in 955 (by decide +kernel) (by decide +kernel)), cw_X9_distance.1, cw_X9_distance.2.1, cw_X9_distance.2.2, cd_X9_distance, by decide +kernel, by decide⟩
set_option maxRecDepth 20000 in
theorem cd_X9_far : Cond.code mX9_far.1 mX9_far.2.1 mX9_far.2.2.1 mX9_far.2.2.2 ∈ ly_G := (ly_in 962 rfl rfl)
theorem cw_X9_far : Cond.instanceMethod mX9_far.1 ∈ ly_G ∧ Cond.selects mX9_far.1.cls mX9_far.1 mX9_far.1 ∈ ly_G ∧ Cond.initialized mX9_far.1.cls ∈ ly_G := ⟨(ly_in 961 (by decide +kernel) (by decide +kernel)), (ly_in 38 (by decide +kernel) (by decide +kernel)), (ly_in 64 (by decide +kernel) (by decide +kernel))⟩
theorem cv_X9_134 : cv_ok RX9 134 mX9_far 9 4 := ⟨by decide +kernel, Or.inl (ly_in 959 (by decide +kernel) (by decide +kernel)), cw_X9_far.1, cw_X9_far.2.1, cw_X9_far.2.2, cd_X9_far, by decide +kernel, by decide⟩
set_option maxRecDepth 20000 in
theorem cd_X9_ways : Cond.code mX9_ways.1 mX9_ways.2.1 mX9_ways.2.2.1 mX9_ways.2.2.2 ∈ ly_G := (ly_in 966 rfl rfl)
theorem cw_X9_ways : Cond.instanceMethod mX9_ways.1 ∈ ly_G ∧ Cond.selects mX9_ways.1.cls mX9_ways.1 mX9_ways.1 ∈ ly_G ∧ Cond.initialized mX9_ways.1.cls ∈ ly_G := ⟨(ly_in 965 (by decide +kernel) (by decide +kernel)), (ly_in 39 (by decide +kernel) (by decide +kernel)), (ly_in 64 (by decide +kernel) (by decide +kernel))⟩
theorem cv_X9_130 : cv_ok RX9 130 mX9_ways 9 3 := ⟨by decide +kernel, Or.inl (ly_in 963 (by decide +kernel) (by decide +kernel)), cw_X9_ways.1, cw_X9_ways.2.1, cw_X9_ways.2.2, cd_X9_ways, by decide +kernel, by decide⟩
set_option maxRecDepth 20000 in
theorem cd_X9_lengthOf : Cond.code mX9_lengthOf.1 mX9_lengthOf.2.1 mX9_lengthOf.2.2.1 mX9_lengthOf.2.2.2 ∈ ly_G := (ly_in 970 rfl rfl)
theorem cw_X9_lengthOf : Cond.instanceMethod mX9_lengthOf.1 ∈ ly_G ∧ Cond.selects mX9_lengthOf.1.cls mX9_lengthOf.1 mX9_lengthOf.1 ∈ ly_G ∧ Cond.initialized mX9_lengthOf.1.cls ∈ ly_G := ⟨(ly_in 969 (by decide +kernel) (by decide +kernel)), (ly_in 40 (by decide +kernel) (by decide +kernel)), (ly_in 64 (by decide +kernel) (by decide +kernel))⟩
theorem cv_X9_124 : cv_ok RX9 124 mX9_lengthOf 9 2 := ⟨by decide +kernel, Or.inl (ly_in 967 (by decide +kernel) (by decide +kernel)), cw_X9_lengthOf.1, cw_X9_lengthOf.2.1, cw_X9_lengthOf.2.2, cd_X9_lengthOf, by decide +kernel, by decide⟩
set_option maxRecDepth 20000 in
theorem cd_X9_lessens : Cond.code mX9_lessens.1 mX9_lessens.2.1 mX9_lessens.2.2.1 mX9_lessens.2.2.2 ∈ ly_G := (ly_in 974 rfl rfl)
theorem cw_X9_lessens : Cond.instanceMethod mX9_lessens.1 ∈ ly_G ∧ Cond.selects mX9_lessens.1.cls mX9_lessens.1 mX9_lessens.1 ∈ ly_G ∧ Cond.initialized mX9_lessens.1.cls ∈ ly_G := ⟨(ly_in 973 (by decide +kernel) (by decide +kernel)), (ly_in 41 (by decide +kernel) (by decide +kernel)), (ly_in 64 (by decide +kernel) (by decide +kernel))⟩
theorem cv_X9_127 : cv_ok RX9 127 mX9_lessens 9 2 := ⟨by decide +kernel, Or.inl (ly_in 971 (by decide +kernel) (by decide +kernel)), cw_X9_lessens.1, cw_X9_lessens.2.1, cw_X9_lessens.2.2, cd_X9_lessens, by decide +kernel, by decide⟩
set_option maxRecDepth 20000 in
theorem cd_X9_paths : Cond.code mX9_paths.1 mX9_paths.2.1 mX9_paths.2.2.1 mX9_paths.2.2.2 ∈ ly_G := (ly_in 978 rfl rfl)
theorem cw_X9_paths : Cond.instanceMethod mX9_paths.1 ∈ ly_G ∧ Cond.selects mX9_paths.1.cls mX9_paths.1 mX9_paths.1 ∈ ly_G ∧ Cond.initialized mX9_paths.1.cls ∈ ly_G := ⟨(ly_in 976 (by decide +kernel) (by decide +kernel)), (ly_in 977 (by decide +kernel) (by decide +kernel)), (ly_in 64 (by decide +kernel) (by decide +kernel))⟩
theorem cv_L_74 : cv_ok RL 74 mX9_paths 9 3 := ⟨by decide +kernel, Or.inl (ly_in 975 (by decide +kernel) (by decide +kernel)), cw_X9_paths.1, cw_X9_paths.2.1, cw_X9_paths.2.2, cd_X9_paths, by decide +kernel, by decide⟩
set_option maxRecDepth 20000 in
theorem cd_X9_starts : Cond.code mX9_starts.1 mX9_starts.2.1 mX9_starts.2.2.1 mX9_starts.2.2.2 ∈ ly_G := (ly_in 982 rfl rfl)
theorem cw_X9_starts : Cond.instanceMethod mX9_starts.1 ∈ ly_G ∧ Cond.selects mX9_starts.1.cls mX9_starts.1 mX9_starts.1 ∈ ly_G ∧ Cond.initialized mX9_starts.1.cls ∈ ly_G := ⟨(ly_in 981 (by decide +kernel) (by decide +kernel)), (ly_in 42 (by decide +kernel) (by decide +kernel)), (ly_in 64 (by decide +kernel) (by decide +kernel))⟩
theorem cv_X9_156 : cv_ok RX9 156 mX9_starts 9 1 := ⟨by decide +kernel, Or.inl (ly_in 979 (by decide +kernel) (by decide +kernel)), cw_X9_starts.1, cw_X9_starts.2.1, cw_X9_starts.2.2, cd_X9_starts, by decide +kernel, by decide⟩
set_option maxRecDepth 20000 in
theorem cd_X9_nextPath : Cond.code mX9_nextPath.1 mX9_nextPath.2.1 mX9_nextPath.2.2.1 mX9_nextPath.2.2.2 ∈ ly_G := (ly_in 986 rfl rfl)
theorem cw_X9_nextPath : Cond.instanceMethod mX9_nextPath.1 ∈ ly_G ∧ Cond.selects mX9_nextPath.1.cls mX9_nextPath.1 mX9_nextPath.1 ∈ ly_G ∧ Cond.initialized mX9_nextPath.1.cls ∈ ly_G := ⟨(ly_in 985 (by decide +kernel) (by decide +kernel)), (ly_in 43 (by decide +kernel) (by decide +kernel)), (ly_in 64 (by decide +kernel) (by decide +kernel))⟩
theorem cv_X9_159 : cv_ok RX9 159 mX9_nextPath 9 3 := ⟨by decide +kernel, Or.inl (ly_in 983 (by decide +kernel) (by decide +kernel)), cw_X9_nextPath.1, cw_X9_nextPath.2.1, cw_X9_nextPath.2.2, cd_X9_nextPath, by decide +kernel, by decide⟩
set_option maxRecDepth 20000 in
theorem cd_X9_lastNode : Cond.code mX9_lastNode.1 mX9_lastNode.2.1 mX9_lastNode.2.2.1 mX9_lastNode.2.2.2 ∈ ly_G := (ly_in 990 rfl rfl)
theorem cw_X9_lastNode : Cond.instanceMethod mX9_lastNode.1 ∈ ly_G ∧ Cond.selects mX9_lastNode.1.cls mX9_lastNode.1 mX9_lastNode.1 ∈ ly_G ∧ Cond.initialized mX9_lastNode.1.cls ∈ ly_G := ⟨(ly_in 989 (by decide +kernel) (by decide +kernel)), (ly_in 44 (by decide +kernel) (by decide +kernel)), (ly_in 64 (by decide +kernel) (by decide +kernel))⟩
theorem cv_X9_147 : cv_ok RX9 147 mX9_lastNode 9 1 := ⟨by decide +kernel, Or.inl (ly_in 987 (by decide +kernel) (by decide +kernel)), cw_X9_lastNode.1, cw_X9_lastNode.2.1, cw_X9_lastNode.2.2, cd_X9_lastNode, by decide +kernel, by decide⟩
set_option maxRecDepth 20000 in
theorem cd_X9_back : Cond.code mX9_back.1 mX9_back.2.1 mX9_back.2.2.1 mX9_back.2.2.2 ∈ ly_G := (ly_in 994 rfl rfl)
theorem cw_X9_back : Cond.instanceMethod mX9_back.1 ∈ ly_G ∧ Cond.selects mX9_back.1.cls mX9_back.1 mX9_back.1 ∈ ly_G ∧ Cond.initialized mX9_back.1.cls ∈ ly_G := ⟨(ly_in 993 (by decide +kernel) (by decide +kernel)), (ly_in 45 (by decide +kernel) (by decide +kernel)), (ly_in 64 (by decide +kernel) (by decide +kernel))⟩
theorem cv_X9_150 : cv_ok RX9 150 mX9_back 9 0 := ⟨by decide +kernel, Or.inl (ly_in 991 (by decide +kernel) (by decide +kernel)), cw_X9_back.1, cw_X9_back.2.1, cw_X9_back.2.2, cd_X9_back, by decide +kernel, by decide⟩
set_option maxRecDepth 20000 in
theorem cd_X9_forth : Cond.code mX9_forth.1 mX9_forth.2.1 mX9_forth.2.2.1 mX9_forth.2.2.2 ∈ ly_G := (ly_in 998 rfl rfl)
theorem cw_X9_forth : Cond.instanceMethod mX9_forth.1 ∈ ly_G ∧ Cond.selects mX9_forth.1.cls mX9_forth.1 mX9_forth.1 ∈ ly_G ∧ Cond.initialized mX9_forth.1.cls ∈ ly_G := ⟨(ly_in 997 (by decide +kernel) (by decide +kernel)), (ly_in 46 (by decide +kernel) (by decide +kernel)), (ly_in 64 (by decide +kernel) (by decide +kernel))⟩
theorem cv_X9_153 : cv_ok RX9 153 mX9_forth 9 2 := ⟨by decide +kernel, Or.inl (ly_in 995 (by decide +kernel) (by decide +kernel)), cw_X9_forth.1, cw_X9_forth.2.1, cw_X9_forth.2.2, cd_X9_forth, by decide +kernel, by decide⟩
set_option maxRecDepth 20000 in
theorem cd_X9_pathLength : Cond.code mX9_pathLength.1 mX9_pathLength.2.1 mX9_pathLength.2.2.1 mX9_pathLength.2.2.2 ∈ ly_G := (ly_in 1002 rfl rfl)
theorem cw_X9_pathLength : Cond.instanceMethod mX9_pathLength.1 ∈ ly_G ∧ Cond.selects mX9_pathLength.1.cls mX9_pathLength.1 mX9_pathLength.1 ∈ ly_G ∧ Cond.initialized mX9_pathLength.1.cls ∈ ly_G := ⟨(ly_in 1000 (by decide +kernel) (by decide +kernel)), (ly_in 1001 (by decide +kernel) (by decide +kernel)), (ly_in 64 (by decide +kernel) (by decide +kernel))⟩
theorem cv_L_78 : cv_ok RL 78 mX9_pathLength 9 3 := ⟨by decide +kernel, Or.inl (ly_in 999 (by decide +kernel) (by decide +kernel)), cw_X9_pathLength.1, cw_X9_pathLength.2.1, cw_X9_pathLength.2.2, cd_X9_pathLength, by decide +kernel, by decide⟩
set_option maxRecDepth 20000 in
theorem cd_X9_first : Cond.code mX9_first.1 mX9_first.2.1 mX9_first.2.2.1 mX9_first.2.2.2 ∈ ly_G := (ly_in 1006 rfl rfl)
theorem cw_X9_first : Cond.instanceMethod mX9_first.1 ∈ ly_G ∧ Cond.selects mX9_first.1.cls mX9_first.1 mX9_first.1 ∈ ly_G ∧ Cond.initialized mX9_first.1.cls ∈ ly_G := ⟨(ly_in 1004 (by decide +kernel) (by decide +kernel)), (ly_in 1005 (by decide +kernel) (by decide +kernel)), (ly_in 64 (by decide +kernel) (by decide +kernel))⟩
theorem cv_L_70 : cv_ok RL 70 mX9_first 9 3 := ⟨by decide +kernel, Or.inl (ly_in 1003 (by decide +kernel) (by decide +kernel)), cw_X9_first.1, cw_X9_first.2.1, cw_X9_first.2.2, cd_X9_first, by decide +kernel, by decide⟩
set_option maxRecDepth 20000 in
theorem cd_X9_tight : Cond.code mX9_tight.1 mX9_tight.2.1 mX9_tight.2.2.1 mX9_tight.2.2.2 ∈ ly_G := (ly_in 1010 rfl rfl)
theorem cw_X9_tight : Cond.instanceMethod mX9_tight.1 ∈ ly_G ∧ Cond.selects mX9_tight.1.cls mX9_tight.1 mX9_tight.1 ∈ ly_G ∧ Cond.initialized mX9_tight.1.cls ∈ ly_G := ⟨(ly_in 1008 (by decide +kernel) (by decide +kernel)), (ly_in 1009 (by decide +kernel) (by decide +kernel)), (ly_in 64 (by decide +kernel) (by decide +kernel))⟩
theorem cv_L_82 : cv_ok RL 82 mX9_tight 9 2 := ⟨by decide +kernel, Or.inl (ly_in 1007 (by decide +kernel) (by decide +kernel)), cw_X9_tight.1, cw_X9_tight.2.1, cw_X9_tight.2.2, cd_X9_tight, by decide +kernel, by decide⟩
set_option maxRecDepth 20000 in
theorem cd_X9_interdict : Cond.code mX9_interdict.1 mX9_interdict.2.1 mX9_interdict.2.2.1 mX9_interdict.2.2.2 ∈ ly_G := (ly_in 1014 rfl rfl)
theorem cw_X9_interdict : Cond.instanceMethod mX9_interdict.1 ∈ ly_G ∧ Cond.selects mX9_interdict.1.cls mX9_interdict.1 mX9_interdict.1 ∈ ly_G ∧ Cond.initialized mX9_interdict.1.cls ∈ ly_G := ⟨(ly_in 1012 (by decide +kernel) (by decide +kernel)), (ly_in 1013 (by decide +kernel) (by decide +kernel)), (ly_in 64 (by decide +kernel) (by decide +kernel))⟩
theorem cv_L_86 : cv_ok RL 86 mX9_interdict 9 3 := ⟨by decide +kernel, Or.inl (ly_in 1011 (by decide +kernel) (by decide +kernel)), cw_X9_interdict.1, cw_X9_interdict.2.1, cw_X9_interdict.2.2, cd_X9_interdict, by decide +kernel, by decide⟩
set_option maxRecDepth 20000 in
theorem cd_X9_bestFar : Cond.code mX9_bestFar.1 mX9_bestFar.2.1 mX9_bestFar.2.2.1 mX9_bestFar.2.2.2 ∈ ly_G := (ly_in 1018 rfl rfl)
theorem cw_X9_bestFar : Cond.instanceMethod mX9_bestFar.1 ∈ ly_G ∧ Cond.selects mX9_bestFar.1.cls mX9_bestFar.1 mX9_bestFar.1 ∈ ly_G ∧ Cond.initialized mX9_bestFar.1.cls ∈ ly_G := ⟨(ly_in 1017 (by decide +kernel) (by decide +kernel)), (ly_in 47 (by decide +kernel) (by decide +kernel)), (ly_in 64 (by decide +kernel) (by decide +kernel))⟩
theorem cv_X9_166 : cv_ok RX9 166 mX9_bestFar 9 5 := ⟨by decide +kernel, Or.inl (ly_in 1015 (by decide +kernel) (by decide +kernel)), cw_X9_bestFar.1, cw_X9_bestFar.2.1, cw_X9_bestFar.2.2, cd_X9_bestFar, by decide +kernel, by decide⟩
set_option maxRecDepth 20000 in
theorem cd_X9_greedy : Cond.code mX9_greedy.1 mX9_greedy.2.1 mX9_greedy.2.2.1 mX9_greedy.2.2.2 ∈ ly_G := (ly_in 1022 rfl rfl)
theorem cw_X9_greedy : Cond.instanceMethod mX9_greedy.1 ∈ ly_G ∧ Cond.selects mX9_greedy.1.cls mX9_greedy.1 mX9_greedy.1 ∈ ly_G ∧ Cond.initialized mX9_greedy.1.cls ∈ ly_G := ⟨(ly_in 1020 (by decide +kernel) (by decide +kernel)), (ly_in 1021 (by decide +kernel) (by decide +kernel)), (ly_in 64 (by decide +kernel) (by decide +kernel))⟩
theorem cv_L_90 : cv_ok RL 90 mX9_greedy 9 3 := ⟨by decide +kernel, Or.inl (ly_in 1019 (by decide +kernel) (by decide +kernel)), cw_X9_greedy.1, cw_X9_greedy.2.1, cw_X9_greedy.2.2, cd_X9_greedy, by decide +kernel, by decide⟩
set_option maxRecDepth 20000 in
theorem cd_X9_step : Cond.code mX9_step.1 mX9_step.2.1 mX9_step.2.2.1 mX9_step.2.2.2 ∈ ly_G := (ly_in 1026 rfl rfl)
theorem cw_X9_step : Cond.instanceMethod mX9_step.1 ∈ ly_G ∧ Cond.selects mX9_step.1.cls mX9_step.1 mX9_step.1 ∈ ly_G ∧ Cond.initialized mX9_step.1.cls ∈ ly_G := ⟨(ly_in 1025 (by decide +kernel) (by decide +kernel)), (ly_in 48 (by decide +kernel) (by decide +kernel)), (ly_in 64 (by decide +kernel) (by decide +kernel))⟩
theorem cv_X9_170 : cv_ok RX9 170 mX9_step 9 4 := ⟨by decide +kernel, Or.inl (ly_in 1023 (by decide +kernel) (by decide +kernel)), cw_X9_step.1, cw_X9_step.2.1, cw_X9_step.2.2, cd_X9_step, by decide +kernel, by decide⟩
set_option maxRecDepth 20000 in
theorem cd_X9_budgetFor : Cond.code mX9_budgetFor.1 mX9_budgetFor.2.1 mX9_budgetFor.2.2.1 mX9_budgetFor.2.2.2 ∈ ly_G := (ly_in 1030 rfl rfl)
theorem cw_X9_budgetFor : Cond.instanceMethod mX9_budgetFor.1 ∈ ly_G ∧ Cond.selects mX9_budgetFor.1.cls mX9_budgetFor.1 mX9_budgetFor.1 ∈ ly_G ∧ Cond.initialized mX9_budgetFor.1.cls ∈ ly_G := ⟨(ly_in 1028 (by decide +kernel) (by decide +kernel)), (ly_in 1029 (by decide +kernel) (by decide +kernel)), (ly_in 64 (by decide +kernel) (by decide +kernel))⟩
theorem cv_L_94 : cv_ok RL 94 mX9_budgetFor 9 3 := ⟨by decide +kernel, Or.inl (ly_in 1027 (by decide +kernel) (by decide +kernel)), cw_X9_budgetFor.1, cw_X9_budgetFor.2.1, cw_X9_budgetFor.2.2, cd_X9_budgetFor, by decide +kernel, by decide⟩
set_option maxRecDepth 20000 in
theorem cd_X9_blockade : Cond.code mX9_blockade.1 mX9_blockade.2.1 mX9_blockade.2.2.1 mX9_blockade.2.2.2 ∈ ly_G := (ly_in 1034 rfl rfl)
theorem cw_X9_blockade : Cond.instanceMethod mX9_blockade.1 ∈ ly_G ∧ Cond.selects mX9_blockade.1.cls mX9_blockade.1 mX9_blockade.1 ∈ ly_G ∧ Cond.initialized mX9_blockade.1.cls ∈ ly_G := ⟨(ly_in 1032 (by decide +kernel) (by decide +kernel)), (ly_in 1033 (by decide +kernel) (by decide +kernel)), (ly_in 64 (by decide +kernel) (by decide +kernel))⟩
theorem cv_L_98 : cv_ok RL 98 mX9_blockade 9 2 := ⟨by decide +kernel, Or.inl (ly_in 1031 (by decide +kernel) (by decide +kernel)), cw_X9_blockade.1, cw_X9_blockade.2.1, cw_X9_blockade.2.2, cd_X9_blockade, by decide +kernel, by decide⟩
set_option maxRecDepth 20000 in
theorem cd_X9_respond : Cond.code mX9_respond.1 mX9_respond.2.1 mX9_respond.2.2.1 mX9_respond.2.2.2 ∈ ly_G := (ly_in 1038 rfl rfl)
theorem cw_X9_respond : Cond.instanceMethod mX9_respond.1 ∈ ly_G ∧ Cond.selects mX9_respond.1.cls mX9_respond.1 mX9_respond.1 ∈ ly_G ∧ Cond.initialized mX9_respond.1.cls ∈ ly_G := ⟨(ly_in 1036 (by decide +kernel) (by decide +kernel)), (ly_in 1037 (by decide +kernel) (by decide +kernel)), (ly_in 64 (by decide +kernel) (by decide +kernel))⟩
theorem cv_L_103 : cv_ok RL 103 mX9_respond 9 4 := ⟨by decide +kernel, Or.inl (ly_in 1035 (by decide +kernel) (by decide +kernel)), cw_X9_respond.1, cw_X9_respond.2.1, cw_X9_respond.2.2, cd_X9_respond, by decide +kernel, by decide⟩
set_option maxRecDepth 20000 in
theorem cd_X9_interdictResponse : Cond.code mX9_interdictResponse.1 mX9_interdictResponse.2.1 mX9_interdictResponse.2.2.1 mX9_interdictResponse.2.2.2 ∈ ly_G := (ly_in 1042 rfl rfl)
theorem cw_X9_interdictResponse : Cond.instanceMethod mX9_interdictResponse.1 ∈ ly_G ∧ Cond.selects mX9_interdictResponse.1.cls mX9_interdictResponse.1 mX9_interdictResponse.1 ∈ ly_G ∧ Cond.initialized mX9_interdictResponse.1.cls ∈ ly_G := ⟨(ly_in 1040 (by decide +kernel) (by decide +kernel)), (ly_in 1041 (by decide +kernel) (by decide +kernel)), (ly_in 64 (by decide +kernel) (by decide +kernel))⟩
theorem cv_L_107 : cv_ok RL 107 mX9_interdictResponse 9 4 := ⟨by decide +kernel, Or.inl (ly_in 1039 (by decide +kernel) (by decide +kernel)), cw_X9_interdictResponse.1, cw_X9_interdictResponse.2.1, cw_X9_interdictResponse.2.2, cd_X9_interdictResponse, by decide +kernel, by decide⟩
set_option maxRecDepth 20000 in
theorem cd_X9_fortify : Cond.code mX9_fortify.1 mX9_fortify.2.1 mX9_fortify.2.2.1 mX9_fortify.2.2.2 ∈ ly_G := (ly_in 1046 rfl rfl)
theorem cw_X9_fortify : Cond.instanceMethod mX9_fortify.1 ∈ ly_G ∧ Cond.selects mX9_fortify.1.cls mX9_fortify.1 mX9_fortify.1 ∈ ly_G ∧ Cond.initialized mX9_fortify.1.cls ∈ ly_G := ⟨(ly_in 1044 (by decide +kernel) (by decide +kernel)), (ly_in 1045 (by decide +kernel) (by decide +kernel)), (ly_in 64 (by decide +kernel) (by decide +kernel))⟩
theorem cv_L_111 : cv_ok RL 111 mX9_fortify 9 4 := ⟨by decide +kernel, Or.inl (ly_in 1043 (by decide +kernel) (by decide +kernel)), cw_X9_fortify.1, cw_X9_fortify.2.1, cw_X9_fortify.2.2, cd_X9_fortify, by decide +kernel, by decide⟩
set_option maxRecDepth 20000 in
theorem cd_X9_many : Cond.code mX9_many.1 mX9_many.2.1 mX9_many.2.2.1 mX9_many.2.2.2 ∈ ly_G := (ly_in 1049 rfl rfl)
theorem cw_X9_many : Cond.static mX9_many.1 ∈ ly_G ∧ Cond.initialized mX9_many.1.cls ∈ ly_G := ⟨(ly_in 1048 (by decide +kernel) (by decide +kernel)), (ly_in 64 (by decide +kernel) (by decide +kernel))⟩
theorem cs_X9_173 : cs_ok RX9 173 mX9_many 1 := ⟨Or.inl (ly_in 1047 (by decide +kernel) (by decide +kernel)), cw_X9_many.1, cw_X9_many.2, cd_X9_many, by decide +kernel, by decide⟩
set_option maxRecDepth 20000 in
theorem cd_X9_finding : Cond.code mX9_finding.1 mX9_finding.2.1 mX9_finding.2.2.1 mX9_finding.2.2.2 ∈ ly_G := (ly_in 1053 rfl rfl)
theorem cw_X9_finding : Cond.instanceMethod mX9_finding.1 ∈ ly_G ∧ Cond.selects mX9_finding.1.cls mX9_finding.1 mX9_finding.1 ∈ ly_G ∧ Cond.initialized mX9_finding.1.cls ∈ ly_G := ⟨(ly_in 1051 (by decide +kernel) (by decide +kernel)), (ly_in 1052 (by decide +kernel) (by decide +kernel)), (ly_in 64 (by decide +kernel) (by decide +kernel))⟩
theorem cv_L_115 : cv_ok RL 115 mX9_finding 9 0 := ⟨by decide +kernel, Or.inl (ly_in 1050 (by decide +kernel) (by decide +kernel)), cw_X9_finding.1, cw_X9_finding.2.1, cw_X9_finding.2.2, cd_X9_finding, by decide +kernel, by decide⟩
set_option maxRecDepth 20000 in
theorem cd_X9_worth : Cond.code mX9_worth.1 mX9_worth.2.1 mX9_worth.2.2.1 mX9_worth.2.2.2 ∈ ly_G := (ly_in 1057 rfl rfl)
theorem cw_X9_worth : Cond.instanceMethod mX9_worth.1 ∈ ly_G ∧ Cond.selects mX9_worth.1.cls mX9_worth.1 mX9_worth.1 ∈ ly_G ∧ Cond.initialized mX9_worth.1.cls ∈ ly_G := ⟨(ly_in 1055 (by decide +kernel) (by decide +kernel)), (ly_in 1056 (by decide +kernel) (by decide +kernel)), (ly_in 64 (by decide +kernel) (by decide +kernel))⟩
theorem cv_L_119 : cv_ok RL 119 mX9_worth 9 3 := ⟨by decide +kernel, Or.inl (ly_in 1054 (by decide +kernel) (by decide +kernel)), cw_X9_worth.1, cw_X9_worth.2.1, cw_X9_worth.2.2, cd_X9_worth, by decide +kernel, by decide⟩
set_option maxRecDepth 20000 in
theorem cd_X9_neverHelps : Cond.code mX9_neverHelps.1 mX9_neverHelps.2.1 mX9_neverHelps.2.2.1 mX9_neverHelps.2.2.2 ∈ ly_G := (ly_in 1061 rfl rfl)
theorem cw_X9_neverHelps : Cond.instanceMethod mX9_neverHelps.1 ∈ ly_G ∧ Cond.selects mX9_neverHelps.1.cls mX9_neverHelps.1 mX9_neverHelps.1 ∈ ly_G ∧ Cond.initialized mX9_neverHelps.1.cls ∈ ly_G := ⟨(ly_in 1059 (by decide +kernel) (by decide +kernel)), (ly_in 1060 (by decide +kernel) (by decide +kernel)), (ly_in 64 (by decide +kernel) (by decide +kernel))⟩
theorem cv_L_123 : cv_ok RL 123 mX9_neverHelps 9 3 := ⟨by decide +kernel, Or.inl (ly_in 1058 (by decide +kernel) (by decide +kernel)), cw_X9_neverHelps.1, cw_X9_neverHelps.2.1, cw_X9_neverHelps.2.2, cd_X9_neverHelps, by decide +kernel, by decide⟩
set_option maxRecDepth 20000 in
theorem cd_X9_expected : Cond.code mX9_expected.1 mX9_expected.2.1 mX9_expected.2.2.1 mX9_expected.2.2.2 ∈ ly_G := (ly_in 1065 rfl rfl)
theorem cw_X9_expected : Cond.instanceMethod mX9_expected.1 ∈ ly_G ∧ Cond.selects mX9_expected.1.cls mX9_expected.1 mX9_expected.1 ∈ ly_G ∧ Cond.initialized mX9_expected.1.cls ∈ ly_G := ⟨(ly_in 1063 (by decide +kernel) (by decide +kernel)), (ly_in 1064 (by decide +kernel) (by decide +kernel)), (ly_in 64 (by decide +kernel) (by decide +kernel))⟩
theorem cv_L_128 : cv_ok RL 128 mX9_expected 9 4 := ⟨by decide +kernel, Or.inl (ly_in 1062 (by decide +kernel) (by decide +kernel)), cw_X9_expected.1, cw_X9_expected.2.1, cw_X9_expected.2.2, cd_X9_expected, by decide +kernel, by decide⟩
set_option maxRecDepth 20000 in
theorem cd_X9_isAsked : Cond.code mX9_isAsked.1 mX9_isAsked.2.1 mX9_isAsked.2.2.1 mX9_isAsked.2.2.2 ∈ ly_G := (ly_in 1069 rfl rfl)
theorem cw_X9_isAsked : Cond.instanceMethod mX9_isAsked.1 ∈ ly_G ∧ Cond.selects mX9_isAsked.1.cls mX9_isAsked.1 mX9_isAsked.1 ∈ ly_G ∧ Cond.initialized mX9_isAsked.1.cls ∈ ly_G := ⟨(ly_in 1068 (by decide +kernel) (by decide +kernel)), (ly_in 49 (by decide +kernel) (by decide +kernel)), (ly_in 64 (by decide +kernel) (by decide +kernel))⟩
theorem cv_X9_180 : cv_ok RX9 180 mX9_isAsked 9 4 := ⟨by decide +kernel, Or.inl (ly_in 1066 (by decide +kernel) (by decide +kernel)), cw_X9_isAsked.1, cw_X9_isAsked.2.1, cw_X9_isAsked.2.2, cd_X9_isAsked, by decide +kernel, by decide⟩
set_option maxRecDepth 20000 in
theorem cd_X9_sum : Cond.code mX9_sum.1 mX9_sum.2.1 mX9_sum.2.2.1 mX9_sum.2.2.2 ∈ ly_G := (ly_in 1073 rfl rfl)
theorem cw_X9_sum : Cond.instanceMethod mX9_sum.1 ∈ ly_G ∧ Cond.selects mX9_sum.1.cls mX9_sum.1 mX9_sum.1 ∈ ly_G ∧ Cond.initialized mX9_sum.1.cls ∈ ly_G := ⟨(ly_in 1072 (by decide +kernel) (by decide +kernel)), (ly_in 50 (by decide +kernel) (by decide +kernel)), (ly_in 64 (by decide +kernel) (by decide +kernel))⟩
theorem cv_X9_184 : cv_ok RX9 184 mX9_sum 9 5 := ⟨by decide +kernel, Or.inl (ly_in 1070 (by decide +kernel) (by decide +kernel)), cw_X9_sum.1, cw_X9_sum.2.1, cw_X9_sum.2.2, cd_X9_sum, by decide +kernel, by decide⟩
set_option maxRecDepth 20000 in
theorem cd_X9_power : Cond.code mX9_power.1 mX9_power.2.1 mX9_power.2.2.1 mX9_power.2.2.2 ∈ ly_G := (ly_in 1076 rfl rfl)
theorem cw_X9_power : Cond.static mX9_power.1 ∈ ly_G ∧ Cond.initialized mX9_power.1.cls ∈ ly_G := ⟨(ly_in 1075 (by decide +kernel) (by decide +kernel)), (ly_in 64 (by decide +kernel) (by decide +kernel))⟩
theorem cs_X9_176 : cs_ok RX9 176 mX9_power 2 := ⟨Or.inl (ly_in 1074 (by decide +kernel) (by decide +kernel)), cw_X9_power.1, cw_X9_power.2, cd_X9_power, by decide +kernel, by decide⟩
set_option maxRecDepth 20000 in
theorem cd_X9_lost : Cond.code mX9_lost.1 mX9_lost.2.1 mX9_lost.2.2.1 mX9_lost.2.2.2 ∈ ly_G := (ly_in 1081 rfl rfl)
theorem cw_X9_lost : Cond.instanceMethod mX9_lost.1 ∈ ly_G ∧ Cond.selects mX9_lost.1.cls mX9_lost.1 mX9_lost.1 ∈ ly_G ∧ Cond.initialized mX9_lost.1.cls ∈ ly_G := ⟨(ly_in 1079 (by decide +kernel) (by decide +kernel)), (ly_in 1080 (by decide +kernel) (by decide +kernel)), (ly_in 64 (by decide +kernel) (by decide +kernel))⟩
theorem cv_L_132 : cv_ok RL 132 mX9_lost 9 4 := ⟨by decide +kernel, Or.inl (ly_in 1078 (by decide +kernel) (by decide +kernel)), cw_X9_lost.1, cw_X9_lost.2.1, cw_X9_lost.2.2, cd_X9_lost, by decide +kernel, by decide⟩
set_option maxRecDepth 20000 in
theorem cd_X9_count : Cond.code mX9_count.1 mX9_count.2.1 mX9_count.2.2.1 mX9_count.2.2.2 ∈ ly_G := (ly_in 1085 rfl rfl)
theorem cw_X9_count : Cond.instanceMethod mX9_count.1 ∈ ly_G ∧ Cond.selects mX9_count.1.cls mX9_count.1 mX9_count.1 ∈ ly_G ∧ Cond.initialized mX9_count.1.cls ∈ ly_G := ⟨(ly_in 1083 (by decide +kernel) (by decide +kernel)), (ly_in 1084 (by decide +kernel) (by decide +kernel)), (ly_in 64 (by decide +kernel) (by decide +kernel))⟩
theorem cv_L_140 : cv_ok RL 140 mX9_count 9 1 := ⟨by decide +kernel, Or.inl (ly_in 1082 (by decide +kernel) (by decide +kernel)), cw_X9_count.1, cw_X9_count.2.1, cw_X9_count.2.2, cd_X9_count, by decide +kernel, by decide⟩
set_option maxRecDepth 20000 in
theorem cd_X9_lengths : Cond.code mX9_lengths.1 mX9_lengths.2.1 mX9_lengths.2.2.1 mX9_lengths.2.2.2 ∈ ly_G := (ly_in 1089 rfl rfl)
theorem cw_X9_lengths : Cond.instanceMethod mX9_lengths.1 ∈ ly_G ∧ Cond.selects mX9_lengths.1.cls mX9_lengths.1 mX9_lengths.1 ∈ ly_G ∧ Cond.initialized mX9_lengths.1.cls ∈ ly_G := ⟨(ly_in 1088 (by decide +kernel) (by decide +kernel)), (ly_in 51 (by decide +kernel) (by decide +kernel)), (ly_in 64 (by decide +kernel) (by decide +kernel))⟩
theorem cv_X9_190 : cv_ok RX9 190 mX9_lengths 9 0 := ⟨by decide +kernel, Or.inl (ly_in 1086 (by decide +kernel) (by decide +kernel)), cw_X9_lengths.1, cw_X9_lengths.2.1, cw_X9_lengths.2.2, cd_X9_lengths, by decide +kernel, by decide⟩
set_option maxRecDepth 20000 in
theorem cd_X9_reachable : Cond.code mX9_reachable.1 mX9_reachable.2.1 mX9_reachable.2.2.1 mX9_reachable.2.2.2 ∈ ly_G := (ly_in 1093 rfl rfl)
theorem cw_X9_reachable : Cond.instanceMethod mX9_reachable.1 ∈ ly_G ∧ Cond.selects mX9_reachable.1.cls mX9_reachable.1 mX9_reachable.1 ∈ ly_G ∧ Cond.initialized mX9_reachable.1.cls ∈ ly_G := ⟨(ly_in 1092 (by decide +kernel) (by decide +kernel)), (ly_in 52 (by decide +kernel) (by decide +kernel)), (ly_in 64 (by decide +kernel) (by decide +kernel))⟩
theorem cv_X9_192 : cv_ok RX9 192 mX9_reachable 9 0 := ⟨by decide +kernel, Or.inl (ly_in 1090 (by decide +kernel) (by decide +kernel)), cw_X9_reachable.1, cw_X9_reachable.2.1, cw_X9_reachable.2.2, cd_X9_reachable, by decide +kernel, by decide⟩
set_option maxRecDepth 20000 in
theorem cd_X9_digest : Cond.code mX9_digest.1 mX9_digest.2.1 mX9_digest.2.2.1 mX9_digest.2.2.2 ∈ ly_G := (ly_in 1097 rfl rfl)
theorem cw_X9_digest : Cond.instanceMethod mX9_digest.1 ∈ ly_G ∧ Cond.selects mX9_digest.1.cls mX9_digest.1 mX9_digest.1 ∈ ly_G ∧ Cond.initialized mX9_digest.1.cls ∈ ly_G := ⟨(ly_in 1095 (by decide +kernel) (by decide +kernel)), (ly_in 1096 (by decide +kernel) (by decide +kernel)), (ly_in 64 (by decide +kernel) (by decide +kernel))⟩
theorem cv_L_145 : cv_ok RL 145 mX9_digest 9 0 := ⟨by decide +kernel, Or.inl (ly_in 1094 (by decide +kernel) (by decide +kernel)), cw_X9_digest.1, cw_X9_digest.2.1, cw_X9_digest.2.2, cd_X9_digest, by decide +kernel, by decide⟩
theorem cv_X9_203 : cv_ok RX9 203 mX9_count 9 1 := ⟨by decide +kernel, Or.inl (ly_in 1099 (by decide +kernel) (by decide +kernel)), cw_X9_count.1, cw_X9_count.2.1, cw_X9_count.2.2, cd_X9_count, by decide +kernel, by decide⟩
set_option maxRecDepth 20000 in
theorem cd_X9_mixes : Cond.code mX9_mixes.1 mX9_mixes.2.1 mX9_mixes.2.2.1 mX9_mixes.2.2.2 ∈ ly_G := (ly_in 1103 rfl rfl)
theorem cw_X9_mixes : Cond.instanceMethod mX9_mixes.1 ∈ ly_G ∧ Cond.selects mX9_mixes.1.cls mX9_mixes.1 mX9_mixes.1 ∈ ly_G ∧ Cond.initialized mX9_mixes.1.cls ∈ ly_G := ⟨(ly_in 1102 (by decide +kernel) (by decide +kernel)), (ly_in 53 (by decide +kernel) (by decide +kernel)), (ly_in 64 (by decide +kernel) (by decide +kernel))⟩
theorem cv_X9_206 : cv_ok RX9 206 mX9_mixes 9 1 := ⟨by decide +kernel, Or.inl (ly_in 1100 (by decide +kernel) (by decide +kernel)), cw_X9_mixes.1, cw_X9_mixes.2.1, cw_X9_mixes.2.2, cd_X9_mixes, by decide +kernel, by decide⟩
theorem cv_X9_209 : cv_ok RX9 209 mX9_edge 9 2 := ⟨by decide +kernel, Or.inl (ly_in 1105 (by decide +kernel) (by decide +kernel)), cw_X9_edge.1, cw_X9_edge.2.1, cw_X9_edge.2.2, cd_X9_edge, by decide +kernel, by decide⟩
theorem cv_X9_212 : cv_ok RX9 212 mX9_distance 9 2 := ⟨by decide +kernel, Or.inl (ly_in 1106 (by decide +kernel) (by decide +kernel)), cw_X9_distance.1, cw_X9_distance.2.1, cw_X9_distance.2.2, cd_X9_distance, by decide +kernel, by decide⟩
end
section
/-! decode rows -/
theorem dX0_init_0 : decode cX0_init 0 = .ok (.aload_n 0, 1) := by decide +kernel
theorem dX0_init_1 : decode cX0_init 1 = .ok (.invokespecial 3, 3) := by decide +kernel
theorem dX0_init_4 : decode cX0_init 4 = .ok (.aload_n 0, 1) := by decide +kernel
theorem dX0_init_5 : decode cX0_init 5 = .ok (.iconst 0, 1) := by decide +kernel
theorem dX0_init_6 : decode cX0_init 6 = .ok (.putfield 9, 3) := by decide +kernel
theorem dX0_init_9 : decode cX0_init 9 = .ok (.aload_n 0, 1) := by decide +kernel
theorem dX0_init_10 : decode cX0_init 10 = .ok (.iconst 0, 1) := by decide +kernel
theorem dX0_init_11 : decode cX0_init 11 = .ok (.putfield 15, 3) := by decide +kernel
theorem dX0_init_14 : decode cX0_init 14 = .ok (.aload_n 0, 1) := by decide +kernel
theorem dX0_init_15 : decode cX0_init 15 = .ok (.iconst 0, 1) := by decide +kernel
theorem dX0_init_16 : decode cX0_init 16 = .ok (.putfield 18, 3) := by decide +kernel
theorem dX0_init_19 : decode cX0_init 19 = .ok (.aload_n 0, 1) := by decide +kernel
theorem dX0_init_20 : decode cX0_init 20 = .ok (.iconst 0, 1) := by decide +kernel
theorem dX0_init_21 : decode cX0_init 21 = .ok (.putfield 21, 3) := by decide +kernel
theorem dX0_init_24 : decode cX0_init 24 = .ok (.aload_n 0, 1) := by decide +kernel
theorem dX0_init_25 : decode cX0_init 25 = .ok (.iconst 0, 1) := by decide +kernel
theorem dX0_init_26 : decode cX0_init 26 = .ok (.putfield 24, 3) := by decide +kernel
theorem dX0_init_29 : decode cX0_init 29 = .ok (.aload_n 0, 1) := by decide +kernel
theorem dX0_init_30 : decode cX0_init 30 = .ok (.iconst 0, 1) := by decide +kernel
theorem dX0_init_31 : decode cX0_init 31 = .ok (.putfield 27, 3) := by decide +kernel
theorem dX0_init_34 : decode cX0_init 34 = .ok (.aload_n 0, 1) := by decide +kernel
theorem dX0_init_35 : decode cX0_init 35 = .ok (.iconst 0, 1) := by decide +kernel
theorem dX0_init_36 : decode cX0_init 36 = .ok (.putfield 31, 3) := by decide +kernel
theorem dX0_init_39 : decode cX0_init 39 = .ok (.aload_n 0, 1) := by decide +kernel
theorem dX0_init_40 : decode cX0_init 40 = .ok (.iconst 0, 1) := by decide +kernel
theorem dX0_init_41 : decode cX0_init 41 = .ok (.putfield 34, 3) := by decide +kernel
theorem dX0_init_44 : decode cX0_init 44 = .ok (.aload_n 0, 1) := by decide +kernel
theorem dX0_init_45 : decode cX0_init 45 = .ok (.iconst 0, 1) := by decide +kernel
theorem dX0_init_46 : decode cX0_init 46 = .ok (.putfield 37, 3) := by decide +kernel
theorem dX0_init_49 : decode cX0_init 49 = .ok (.aload_n 0, 1) := by decide +kernel
theorem dX0_init_50 : decode cX0_init 50 = .ok (.iconst 0, 1) := by decide +kernel
theorem dX0_init_51 : decode cX0_init 51 = .ok (.putfield 40, 3) := by decide +kernel
theorem dX0_init_54 : decode cX0_init 54 = .ok (.aload_n 0, 1) := by decide +kernel
theorem dX0_init_55 : decode cX0_init 55 = .ok (.aload_n 1, 1) := by decide +kernel
theorem dX0_init_56 : decode cX0_init 56 = .ok (.putfield 43, 3) := by decide +kernel
theorem dX0_init_59 : decode cX0_init 59 = .ok (.aload_n 0, 1) := by decide +kernel
theorem dX0_init_60 : decode cX0_init 60 = .ok (.aload_n 2, 1) := by decide +kernel
theorem dX0_init_61 : decode cX0_init 61 = .ok (.putfield 47, 3) := by decide +kernel
theorem dX0_init_64 : decode cX0_init 64 = .ok (.return_, 1) := by decide +kernel
theorem dX0_seekBest_0 : decode cX0_seekBest 0 = .ok (.aload_n 0, 1) := by decide +kernel
theorem dX0_seekBest_1 : decode cX0_seekBest 1 = .ok (.iload_n 1, 1) := by decide +kernel
theorem dX0_seekBest_2 : decode cX0_seekBest 2 = .ok (.putfield 9, 3) := by decide +kernel
theorem dX0_seekBest_5 : decode cX0_seekBest 5 = .ok (.aload_n 0, 1) := by decide +kernel
theorem dX0_seekBest_6 : decode cX0_seekBest 6 = .ok (.iload_n 2, 1) := by decide +kernel
theorem dX0_seekBest_7 : decode cX0_seekBest 7 = .ok (.putfield 15, 3) := by decide +kernel
theorem dX0_seekBest_10 : decode cX0_seekBest 10 = .ok (.aload_n 0, 1) := by decide +kernel
theorem dX0_seekBest_11 : decode cX0_seekBest 11 = .ok (.iload_n 3, 1) := by decide +kernel
theorem dX0_seekBest_12 : decode cX0_seekBest 12 = .ok (.putfield 18, 3) := by decide +kernel
theorem dX0_seekBest_15 : decode cX0_seekBest 15 = .ok (.aload_n 0, 1) := by decide +kernel
theorem dX0_seekBest_16 : decode cX0_seekBest 16 = .ok (.iload 4, 2) := by decide +kernel
theorem dX0_seekBest_18 : decode cX0_seekBest 18 = .ok (.putfield 21, 3) := by decide +kernel
theorem dX0_seekBest_21 : decode cX0_seekBest 21 = .ok (.aload_n 0, 1) := by decide +kernel
theorem dX0_seekBest_22 : decode cX0_seekBest 22 = .ok (.iload 5, 2) := by decide +kernel
theorem dX0_seekBest_24 : decode cX0_seekBest 24 = .ok (.putfield 24, 3) := by decide +kernel
theorem dX0_seekBest_27 : decode cX0_seekBest 27 = .ok (.aload_n 0, 1) := by decide +kernel
theorem dX0_seekBest_28 : decode cX0_seekBest 28 = .ok (.iconst 0, 1) := by decide +kernel
theorem dX0_seekBest_29 : decode cX0_seekBest 29 = .ok (.putfield 27, 3) := by decide +kernel
theorem dX0_seekBest_32 : decode cX0_seekBest 32 = .ok (.aload_n 0, 1) := by decide +kernel
theorem dX0_seekBest_33 : decode cX0_seekBest 33 = .ok (.iconst (-1), 1) := by decide +kernel
theorem dX0_seekBest_34 : decode cX0_seekBest 34 = .ok (.putfield 31, 3) := by decide +kernel
theorem dX0_seekBest_37 : decode cX0_seekBest 37 = .ok (.aload_n 0, 1) := by decide +kernel
theorem dX0_seekBest_38 : decode cX0_seekBest 38 = .ok (.iconst 0, 1) := by decide +kernel
theorem dX0_seekBest_39 : decode cX0_seekBest 39 = .ok (.iconst 0, 1) := by decide +kernel
theorem dX0_seekBest_40 : decode cX0_seekBest 40 = .ok (.iload 6, 2) := by decide +kernel
theorem dX0_seekBest_42 : decode cX0_seekBest 42 = .ok (.iconst 0, 1) := by decide +kernel
theorem dX0_seekBest_43 : decode cX0_seekBest 43 = .ok (.invokevirtual 51, 3) := by decide +kernel
theorem dX0_seekBest_46 : decode cX0_seekBest 46 = .ok (.return_, 1) := by decide +kernel
theorem dX0_seekHelpful_0 : decode cX0_seekHelpful 0 = .ok (.aload_n 0, 1) := by decide +kernel
theorem dX0_seekHelpful_1 : decode cX0_seekHelpful 1 = .ok (.iload_n 1, 1) := by decide +kernel
theorem dX0_seekHelpful_2 : decode cX0_seekHelpful 2 = .ok (.putfield 9, 3) := by decide +kernel
theorem dX0_seekHelpful_5 : decode cX0_seekHelpful 5 = .ok (.aload_n 0, 1) := by decide +kernel
theorem dX0_seekHelpful_6 : decode cX0_seekHelpful 6 = .ok (.iload_n 2, 1) := by decide +kernel
theorem dX0_seekHelpful_7 : decode cX0_seekHelpful 7 = .ok (.putfield 15, 3) := by decide +kernel
theorem dX0_seekHelpful_10 : decode cX0_seekHelpful 10 = .ok (.aload_n 0, 1) := by decide +kernel
theorem dX0_seekHelpful_11 : decode cX0_seekHelpful 11 = .ok (.iload_n 3, 1) := by decide +kernel
theorem dX0_seekHelpful_12 : decode cX0_seekHelpful 12 = .ok (.putfield 18, 3) := by decide +kernel
theorem dX0_seekHelpful_15 : decode cX0_seekHelpful 15 = .ok (.aload_n 0, 1) := by decide +kernel
theorem dX0_seekHelpful_16 : decode cX0_seekHelpful 16 = .ok (.iconst 0, 1) := by decide +kernel
theorem dX0_seekHelpful_17 : decode cX0_seekHelpful 17 = .ok (.putfield 21, 3) := by decide +kernel
theorem dX0_seekHelpful_20 : decode cX0_seekHelpful 20 = .ok (.aload_n 0, 1) := by decide +kernel
theorem dX0_seekHelpful_21 : decode cX0_seekHelpful 21 = .ok (.sipush 9999, 3) := by decide +kernel
theorem dX0_seekHelpful_24 : decode cX0_seekHelpful 24 = .ok (.putfield 24, 3) := by decide +kernel
theorem dX0_seekHelpful_27 : decode cX0_seekHelpful 27 = .ok (.aload_n 0, 1) := by decide +kernel
theorem dX0_seekHelpful_28 : decode cX0_seekHelpful 28 = .ok (.iconst 1, 1) := by decide +kernel
theorem dX0_seekHelpful_29 : decode cX0_seekHelpful 29 = .ok (.putfield 27, 3) := by decide +kernel
theorem dX0_seekHelpful_32 : decode cX0_seekHelpful 32 = .ok (.aload_n 0, 1) := by decide +kernel
theorem dX0_seekHelpful_33 : decode cX0_seekHelpful 33 = .ok (.iconst 0, 1) := by decide +kernel
theorem dX0_seekHelpful_34 : decode cX0_seekHelpful 34 = .ok (.putfield 40, 3) := by decide +kernel
theorem dX0_seekHelpful_37 : decode cX0_seekHelpful 37 = .ok (.aload_n 0, 1) := by decide +kernel
theorem dX0_seekHelpful_38 : decode cX0_seekHelpful 38 = .ok (.iconst 0, 1) := by decide +kernel
theorem dX0_seekHelpful_39 : decode cX0_seekHelpful 39 = .ok (.iconst 0, 1) := by decide +kernel
theorem dX0_seekHelpful_40 : decode cX0_seekHelpful 40 = .ok (.iconst 0, 1) := by decide +kernel
theorem dX0_seekHelpful_41 : decode cX0_seekHelpful 41 = .ok (.iconst 0, 1) := by decide +kernel
theorem dX0_seekHelpful_42 : decode cX0_seekHelpful 42 = .ok (.invokevirtual 51, 3) := by decide +kernel
theorem dX0_seekHelpful_45 : decode cX0_seekHelpful 45 = .ok (.return_, 1) := by decide +kernel
theorem dX0_grow_0 : decode cX0_grow 0 = .ok (.aload_n 0, 1) := by decide +kernel
theorem dX0_grow_1 : decode cX0_grow 1 = .ok (.getfield 47, 3) := by decide +kernel
theorem dX0_grow_4 : decode cX0_grow 4 = .ok (.aload_n 0, 1) := by decide +kernel
theorem dX0_grow_5 : decode cX0_grow 5 = .ok (.getfield 9, 3) := by decide +kernel
theorem dX0_grow_8 : decode cX0_grow 8 = .ok (.iload_n 1, 1) := by decide +kernel
theorem dX0_grow_9 : decode cX0_grow 9 = .ok (.aload_n 0, 1) := by decide +kernel
theorem dX0_grow_10 : decode cX0_grow 10 = .ok (.getfield 21, 3) := by decide +kernel
theorem dX0_grow_13 : decode cX0_grow 13 = .ok (.invokevirtual 55, 3) := by decide +kernel
theorem dX0_grow_16 : decode cX0_grow 16 = .ok (.aload_n 0, 1) := by decide +kernel
theorem dX0_grow_17 : decode cX0_grow 17 = .ok (.getfield 47, 3) := by decide +kernel
theorem dX0_grow_20 : decode cX0_grow 20 = .ok (.aload_n 0, 1) := by decide +kernel
theorem dX0_grow_21 : decode cX0_grow 21 = .ok (.getfield 15, 3) := by decide +kernel
theorem dX0_grow_24 : decode cX0_grow 24 = .ok (.invokevirtual 61, 3) := by decide +kernel
theorem dX0_grow_27 : decode cX0_grow 27 = .ok (.istore 5, 2) := by decide +kernel
theorem dX0_grow_29 : decode cX0_grow 29 = .ok (.aload_n 0, 1) := by decide +kernel
theorem dX0_grow_30 : decode cX0_grow 30 = .ok (.getfield 47, 3) := by decide +kernel
theorem dX0_grow_33 : decode cX0_grow 33 = .ok (.aload_n 0, 1) := by decide +kernel
theorem dX0_grow_34 : decode cX0_grow 34 = .ok (.getfield 15, 3) := by decide +kernel
theorem dX0_grow_37 : decode cX0_grow 37 = .ok (.invokevirtual 65, 3) := by decide +kernel
theorem dX0_grow_40 : decode cX0_grow 40 = .ok (.iload_n 1, 1) := by decide +kernel
theorem dX0_grow_41 : decode cX0_grow 41 = .ok (.iconst (-1), 1) := by decide +kernel
theorem dX0_grow_42 : decode cX0_grow 42 = .ok (.ixor, 1) := by decide +kernel
theorem dX0_grow_43 : decode cX0_grow 43 = .ok (.iand, 1) := by decide +kernel
theorem dX0_grow_44 : decode cX0_grow 44 = .ok (.iload_n 3, 1) := by decide +kernel
theorem dX0_grow_45 : decode cX0_grow 45 = .ok (.iconst (-1), 1) := by decide +kernel
theorem dX0_grow_46 : decode cX0_grow 46 = .ok (.ixor, 1) := by decide +kernel
theorem dX0_grow_47 : decode cX0_grow 47 = .ok (.iand, 1) := by decide +kernel
theorem dX0_grow_48 : decode cX0_grow 48 = .ok (.istore 6, 2) := by decide +kernel
theorem dX0_grow_50 : decode cX0_grow 50 = .ok (.aload_n 0, 1) := by decide +kernel
theorem dX0_grow_51 : decode cX0_grow 51 = .ok (.getfield 27, 3) := by decide +kernel
theorem dX0_grow_54 : decode cX0_grow 54 = .ok (.ifCond .eq 13, 3) := by decide +kernel
theorem dX0_grow_57 : decode cX0_grow 57 = .ok (.aload_n 0, 1) := by decide +kernel
theorem dX0_grow_58 : decode cX0_grow 58 = .ok (.iload_n 1, 1) := by decide +kernel
theorem dX0_grow_59 : decode cX0_grow 59 = .ok (.iload 5, 2) := by decide +kernel
theorem dX0_grow_61 : decode cX0_grow 61 = .ok (.invokevirtual 68, 3) := by decide +kernel
theorem dX0_grow_64 : decode cX0_grow 64 = .ok (.goto 11, 3) := by decide +kernel
theorem dX0_grow_67 : decode cX0_grow 67 = .ok (.aload_n 0, 1) := by decide +kernel
theorem dX0_grow_68 : decode cX0_grow 68 = .ok (.iload_n 1, 1) := by decide +kernel
theorem dX0_grow_69 : decode cX0_grow 69 = .ok (.iload_n 2, 1) := by decide +kernel
theorem dX0_grow_70 : decode cX0_grow 70 = .ok (.iload 5, 2) := by decide +kernel
theorem dX0_grow_72 : decode cX0_grow 72 = .ok (.invokevirtual 72, 3) := by decide +kernel
theorem dX0_grow_75 : decode cX0_grow 75 = .ok (.iload 5, 2) := by decide +kernel
theorem dX0_grow_77 : decode cX0_grow 77 = .ok (.aload_n 0, 1) := by decide +kernel
theorem dX0_grow_78 : decode cX0_grow 78 = .ok (.getfield 24, 3) := by decide +kernel
theorem dX0_grow_81 : decode cX0_grow 81 = .ok (.if_icmp .ge 10, 3) := by decide +kernel
theorem dX0_grow_84 : decode cX0_grow 84 = .ok (.iload 4, 2) := by decide +kernel
theorem dX0_grow_86 : decode cX0_grow 86 = .ok (.bipush 16, 2) := by decide +kernel
theorem dX0_grow_88 : decode cX0_grow 88 = .ok (.if_icmp .lt 4, 3) := by decide +kernel
theorem dX0_grow_91 : decode cX0_grow 91 = .ok (.return_, 1) := by decide +kernel
theorem dX0_grow_92 : decode cX0_grow 92 = .ok (.iload_n 3, 1) := by decide +kernel
theorem dX0_grow_93 : decode cX0_grow 93 = .ok (.istore 7, 2) := by decide +kernel
theorem dX0_grow_95 : decode cX0_grow 95 = .ok (.iconst 0, 1) := by decide +kernel
theorem dX0_grow_96 : decode cX0_grow 96 = .ok (.istore 8, 2) := by decide +kernel
theorem dX0_grow_98 : decode cX0_grow 98 = .ok (.iload 8, 2) := by decide +kernel
theorem dX0_grow_100 : decode cX0_grow 100 = .ok (.aload_n 0, 1) := by decide +kernel
theorem dX0_grow_101 : decode cX0_grow 101 = .ok (.getfield 43, 3) := by decide +kernel
theorem dX0_grow_104 : decode cX0_grow 104 = .ok (.getfield 75, 3) := by decide +kernel
theorem dX0_grow_107 : decode cX0_grow 107 = .ok (.if_icmp .ge 68, 3) := by decide +kernel
theorem dX0_grow_110 : decode cX0_grow 110 = .ok (.iload 6, 2) := by decide +kernel
theorem dX0_grow_112 : decode cX0_grow 112 = .ok (.iload 8, 2) := by decide +kernel
theorem dX0_grow_114 : decode cX0_grow 114 = .ok (.ishr, 1) := by decide +kernel
theorem dX0_grow_115 : decode cX0_grow 115 = .ok (.iconst 1, 1) := by decide +kernel
theorem dX0_grow_116 : decode cX0_grow 116 = .ok (.iand, 1) := by decide +kernel
theorem dX0_grow_117 : decode cX0_grow 117 = .ok (.ifCond .eq 52, 3) := by decide +kernel
theorem dX0_grow_120 : decode cX0_grow 120 = .ok (.iload_n 2, 1) := by decide +kernel
theorem dX0_grow_121 : decode cX0_grow 121 = .ok (.aload_n 0, 1) := by decide +kernel
theorem dX0_grow_122 : decode cX0_grow 122 = .ok (.getfield 43, 3) := by decide +kernel
theorem dX0_grow_125 : decode cX0_grow 125 = .ok (.iload 8, 2) := by decide +kernel
theorem dX0_grow_127 : decode cX0_grow 127 = .ok (.invokevirtual 80, 3) := by decide +kernel
theorem dX0_grow_130 : decode cX0_grow 130 = .ok (.iadd, 1) := by decide +kernel
theorem dX0_grow_131 : decode cX0_grow 131 = .ok (.istore 9, 2) := by decide +kernel
theorem dX0_grow_133 : decode cX0_grow 133 = .ok (.iload 9, 2) := by decide +kernel
theorem dX0_grow_135 : decode cX0_grow 135 = .ok (.aload_n 0, 1) := by decide +kernel
theorem dX0_grow_136 : decode cX0_grow 136 = .ok (.getfield 18, 3) := by decide +kernel
theorem dX0_grow_139 : decode cX0_grow 139 = .ok (.if_icmp .gt 21, 3) := by decide +kernel
theorem dX0_grow_142 : decode cX0_grow 142 = .ok (.aload_n 0, 1) := by decide +kernel
theorem dX0_grow_143 : decode cX0_grow 143 = .ok (.iload_n 1, 1) := by decide +kernel
theorem dX0_grow_144 : decode cX0_grow 144 = .ok (.iconst 1, 1) := by decide +kernel
theorem dX0_grow_145 : decode cX0_grow 145 = .ok (.iload 8, 2) := by decide +kernel
theorem dX0_grow_147 : decode cX0_grow 147 = .ok (.ishl, 1) := by decide +kernel
theorem dX0_grow_148 : decode cX0_grow 148 = .ok (.ior, 1) := by decide +kernel
theorem dX0_grow_149 : decode cX0_grow 149 = .ok (.iload 9, 2) := by decide +kernel
theorem dX0_grow_151 : decode cX0_grow 151 = .ok (.iload 7, 2) := by decide +kernel
theorem dX0_grow_153 : decode cX0_grow 153 = .ok (.iload 4, 2) := by decide +kernel
theorem dX0_grow_155 : decode cX0_grow 155 = .ok (.iconst 1, 1) := by decide +kernel
theorem dX0_grow_156 : decode cX0_grow 156 = .ok (.iadd, 1) := by decide +kernel
theorem dX0_grow_157 : decode cX0_grow 157 = .ok (.invokevirtual 51, 3) := by decide +kernel
theorem dX0_grow_160 : decode cX0_grow 160 = .ok (.iload 7, 2) := by decide +kernel
theorem dX0_grow_162 : decode cX0_grow 162 = .ok (.iconst 1, 1) := by decide +kernel
theorem dX0_grow_163 : decode cX0_grow 163 = .ok (.iload 8, 2) := by decide +kernel
theorem dX0_grow_165 : decode cX0_grow 165 = .ok (.ishl, 1) := by decide +kernel
theorem dX0_grow_166 : decode cX0_grow 166 = .ok (.ior, 1) := by decide +kernel
theorem dX0_grow_167 : decode cX0_grow 167 = .ok (.istore 7, 2) := by decide +kernel
theorem dX0_grow_169 : decode cX0_grow 169 = .ok (.iinc 8 1, 3) := by decide +kernel
theorem dX0_grow_172 : decode cX0_grow 172 = .ok (.goto (-74), 3) := by decide +kernel
theorem dX0_grow_175 : decode cX0_grow 175 = .ok (.return_, 1) := by decide +kernel
theorem dX0_weigh_0 : decode cX0_weigh 0 = .ok (.iload_n 3, 1) := by decide +kernel
theorem dX0_weigh_1 : decode cX0_weigh 1 = .ok (.aload_n 0, 1) := by decide +kernel
theorem dX0_weigh_2 : decode cX0_weigh 2 = .ok (.getfield 24, 3) := by decide +kernel
theorem dX0_weigh_5 : decode cX0_weigh 5 = .ok (.invokestatic 83, 3) := by decide +kernel
theorem dX0_weigh_8 : decode cX0_weigh 8 = .ok (.istore 4, 2) := by decide +kernel
theorem dX0_weigh_10 : decode cX0_weigh 10 = .ok (.iload 4, 2) := by decide +kernel
theorem dX0_weigh_12 : decode cX0_weigh 12 = .ok (.aload_n 0, 1) := by decide +kernel
theorem dX0_weigh_13 : decode cX0_weigh 13 = .ok (.getfield 31, 3) := by decide +kernel
theorem dX0_weigh_16 : decode cX0_weigh 16 = .ok (.if_icmp .gt 21, 3) := by decide +kernel
theorem dX0_weigh_19 : decode cX0_weigh 19 = .ok (.iload 4, 2) := by decide +kernel
theorem dX0_weigh_21 : decode cX0_weigh 21 = .ok (.aload_n 0, 1) := by decide +kernel
theorem dX0_weigh_22 : decode cX0_weigh 22 = .ok (.getfield 31, 3) := by decide +kernel
theorem dX0_weigh_25 : decode cX0_weigh 25 = .ok (.if_icmp .ne 28, 3) := by decide +kernel
theorem dX0_weigh_28 : decode cX0_weigh 28 = .ok (.aload_n 0, 1) := by decide +kernel
theorem dX0_weigh_29 : decode cX0_weigh 29 = .ok (.iload_n 1, 1) := by decide +kernel
theorem dX0_weigh_30 : decode cX0_weigh 30 = .ok (.iload_n 2, 1) := by decide +kernel
theorem dX0_weigh_31 : decode cX0_weigh 31 = .ok (.invokevirtual 89, 3) := by decide +kernel
theorem dX0_weigh_34 : decode cX0_weigh 34 = .ok (.ifCond .eq 19, 3) := by decide +kernel
theorem dX0_weigh_37 : decode cX0_weigh 37 = .ok (.aload_n 0, 1) := by decide +kernel
theorem dX0_weigh_38 : decode cX0_weigh 38 = .ok (.iload 4, 2) := by decide +kernel
theorem dX0_weigh_40 : decode cX0_weigh 40 = .ok (.putfield 31, 3) := by decide +kernel
theorem dX0_weigh_43 : decode cX0_weigh 43 = .ok (.aload_n 0, 1) := by decide +kernel
theorem dX0_weigh_44 : decode cX0_weigh 44 = .ok (.iload_n 2, 1) := by decide +kernel
theorem dX0_weigh_45 : decode cX0_weigh 45 = .ok (.putfield 34, 3) := by decide +kernel
theorem dX0_weigh_48 : decode cX0_weigh 48 = .ok (.aload_n 0, 1) := by decide +kernel
theorem dX0_weigh_49 : decode cX0_weigh 49 = .ok (.iload_n 1, 1) := by decide +kernel
theorem dX0_weigh_50 : decode cX0_weigh 50 = .ok (.putfield 37, 3) := by decide +kernel
theorem dX0_weigh_53 : decode cX0_weigh 53 = .ok (.return_, 1) := by decide +kernel
theorem dX0_isCheaper_0 : decode cX0_isCheaper 0 = .ok (.iload_n 2, 1) := by decide +kernel
theorem dX0_isCheaper_1 : decode cX0_isCheaper 1 = .ok (.aload_n 0, 1) := by decide +kernel
theorem dX0_isCheaper_2 : decode cX0_isCheaper 2 = .ok (.getfield 34, 3) := by decide +kernel
theorem dX0_isCheaper_5 : decode cX0_isCheaper 5 = .ok (.if_icmp .lt 19, 3) := by decide +kernel
theorem dX0_isCheaper_8 : decode cX0_isCheaper 8 = .ok (.iload_n 2, 1) := by decide +kernel
theorem dX0_isCheaper_9 : decode cX0_isCheaper 9 = .ok (.aload_n 0, 1) := by decide +kernel
theorem dX0_isCheaper_10 : decode cX0_isCheaper 10 = .ok (.getfield 34, 3) := by decide +kernel
theorem dX0_isCheaper_13 : decode cX0_isCheaper 13 = .ok (.if_icmp .ne 15, 3) := by decide +kernel
theorem dX0_isCheaper_16 : decode cX0_isCheaper 16 = .ok (.iload_n 1, 1) := by decide +kernel
theorem dX0_isCheaper_17 : decode cX0_isCheaper 17 = .ok (.aload_n 0, 1) := by decide +kernel
theorem dX0_isCheaper_18 : decode cX0_isCheaper 18 = .ok (.getfield 37, 3) := by decide +kernel
theorem dX0_isCheaper_21 : decode cX0_isCheaper 21 = .ok (.if_icmp .ge 7, 3) := by decide +kernel
theorem dX0_isCheaper_24 : decode cX0_isCheaper 24 = .ok (.iconst 1, 1) := by decide +kernel
theorem dX0_isCheaper_25 : decode cX0_isCheaper 25 = .ok (.goto 4, 3) := by decide +kernel
theorem dX0_isCheaper_28 : decode cX0_isCheaper 28 = .ok (.iconst 0, 1) := by decide +kernel
theorem dX0_isCheaper_29 : decode cX0_isCheaper 29 = .ok (.ireturn, 1) := by decide +kernel
theorem dX0_markHelpful_0 : decode cX0_markHelpful 0 = .ok (.iload_n 1, 1) := by decide +kernel
theorem dX0_markHelpful_1 : decode cX0_markHelpful 1 = .ok (.aload_n 0, 1) := by decide +kernel
theorem dX0_markHelpful_2 : decode cX0_markHelpful 2 = .ok (.getfield 40, 3) := by decide +kernel
theorem dX0_markHelpful_5 : decode cX0_markHelpful 5 = .ok (.iconst (-1), 1) := by decide +kernel
theorem dX0_markHelpful_6 : decode cX0_markHelpful 6 = .ok (.ixor, 1) := by decide +kernel
theorem dX0_markHelpful_7 : decode cX0_markHelpful 7 = .ok (.iand, 1) := by decide +kernel
theorem dX0_markHelpful_8 : decode cX0_markHelpful 8 = .ok (.istore_n 3, 1) := by decide +kernel
theorem dX0_markHelpful_9 : decode cX0_markHelpful 9 = .ok (.iconst 0, 1) := by decide +kernel
theorem dX0_markHelpful_10 : decode cX0_markHelpful 10 = .ok (.istore 4, 2) := by decide +kernel
theorem dX0_markHelpful_12 : decode cX0_markHelpful 12 = .ok (.iload 4, 2) := by decide +kernel
theorem dX0_markHelpful_14 : decode cX0_markHelpful 14 = .ok (.aload_n 0, 1) := by decide +kernel
theorem dX0_markHelpful_15 : decode cX0_markHelpful 15 = .ok (.getfield 43, 3) := by decide +kernel
theorem dX0_markHelpful_18 : decode cX0_markHelpful 18 = .ok (.getfield 75, 3) := by decide +kernel
theorem dX0_markHelpful_21 : decode cX0_markHelpful 21 = .ok (.if_icmp .ge 66, 3) := by decide +kernel
theorem dX0_markHelpful_24 : decode cX0_markHelpful 24 = .ok (.iconst 1, 1) := by decide +kernel
theorem dX0_markHelpful_25 : decode cX0_markHelpful 25 = .ok (.iload 4, 2) := by decide +kernel
theorem dX0_markHelpful_27 : decode cX0_markHelpful 27 = .ok (.ishl, 1) := by decide +kernel
theorem dX0_markHelpful_28 : decode cX0_markHelpful 28 = .ok (.istore 5, 2) := by decide +kernel
theorem dX0_markHelpful_30 : decode cX0_markHelpful 30 = .ok (.iload_n 3, 1) := by decide +kernel
theorem dX0_markHelpful_31 : decode cX0_markHelpful 31 = .ok (.iload 5, 2) := by decide +kernel
theorem dX0_markHelpful_33 : decode cX0_markHelpful 33 = .ok (.iand, 1) := by decide +kernel
theorem dX0_markHelpful_34 : decode cX0_markHelpful 34 = .ok (.ifCond .eq 47, 3) := by decide +kernel
theorem dX0_markHelpful_37 : decode cX0_markHelpful 37 = .ok (.aload_n 0, 1) := by decide +kernel
theorem dX0_markHelpful_38 : decode cX0_markHelpful 38 = .ok (.getfield 47, 3) := by decide +kernel
theorem dX0_markHelpful_41 : decode cX0_markHelpful 41 = .ok (.aload_n 0, 1) := by decide +kernel
theorem dX0_markHelpful_42 : decode cX0_markHelpful 42 = .ok (.getfield 9, 3) := by decide +kernel
theorem dX0_markHelpful_45 : decode cX0_markHelpful 45 = .ok (.iload_n 1, 1) := by decide +kernel
theorem dX0_markHelpful_46 : decode cX0_markHelpful 46 = .ok (.iload 5, 2) := by decide +kernel
theorem dX0_markHelpful_48 : decode cX0_markHelpful 48 = .ok (.iconst (-1), 1) := by decide +kernel
theorem dX0_markHelpful_49 : decode cX0_markHelpful 49 = .ok (.ixor, 1) := by decide +kernel
theorem dX0_markHelpful_50 : decode cX0_markHelpful 50 = .ok (.iand, 1) := by decide +kernel
theorem dX0_markHelpful_51 : decode cX0_markHelpful 51 = .ok (.iconst 0, 1) := by decide +kernel
theorem dX0_markHelpful_52 : decode cX0_markHelpful 52 = .ok (.invokevirtual 55, 3) := by decide +kernel
theorem dX0_markHelpful_55 : decode cX0_markHelpful 55 = .ok (.aload_n 0, 1) := by decide +kernel
theorem dX0_markHelpful_56 : decode cX0_markHelpful 56 = .ok (.getfield 47, 3) := by decide +kernel
theorem dX0_markHelpful_59 : decode cX0_markHelpful 59 = .ok (.aload_n 0, 1) := by decide +kernel
theorem dX0_markHelpful_60 : decode cX0_markHelpful 60 = .ok (.getfield 15, 3) := by decide +kernel
theorem dX0_markHelpful_63 : decode cX0_markHelpful 63 = .ok (.invokevirtual 61, 3) := by decide +kernel
theorem dX0_markHelpful_66 : decode cX0_markHelpful 66 = .ok (.iload_n 2, 1) := by decide +kernel
theorem dX0_markHelpful_67 : decode cX0_markHelpful 67 = .ok (.if_icmp .ge 14, 3) := by decide +kernel
theorem dX0_markHelpful_70 : decode cX0_markHelpful 70 = .ok (.aload_n 0, 1) := by decide +kernel
theorem dX0_markHelpful_71 : decode cX0_markHelpful 71 = .ok (.dup, 1) := by decide +kernel
theorem dX0_markHelpful_72 : decode cX0_markHelpful 72 = .ok (.getfield 40, 3) := by decide +kernel
theorem dX0_markHelpful_75 : decode cX0_markHelpful 75 = .ok (.iload 5, 2) := by decide +kernel
theorem dX0_markHelpful_77 : decode cX0_markHelpful 77 = .ok (.ior, 1) := by decide +kernel
theorem dX0_markHelpful_78 : decode cX0_markHelpful 78 = .ok (.putfield 40, 3) := by decide +kernel
theorem dX0_markHelpful_81 : decode cX0_markHelpful 81 = .ok (.iinc 4 1, 3) := by decide +kernel
theorem dX0_markHelpful_84 : decode cX0_markHelpful 84 = .ok (.goto (-72), 3) := by decide +kernel
theorem dX0_markHelpful_87 : decode cX0_markHelpful 87 = .ok (.return_, 1) := by decide +kernel
theorem dX1_init_0 : decode cX1_init 0 = .ok (.aload_n 0, 1) := by decide +kernel
theorem dX1_init_1 : decode cX1_init 1 = .ok (.invokespecial 3, 3) := by decide +kernel
theorem dX1_init_4 : decode cX1_init 4 = .ok (.aload_n 0, 1) := by decide +kernel
theorem dX1_init_5 : decode cX1_init 5 = .ok (.iconst 0, 1) := by decide +kernel
theorem dX1_init_6 : decode cX1_init 6 = .ok (.putfield 9, 3) := by decide +kernel
theorem dX1_init_9 : decode cX1_init 9 = .ok (.aload_n 0, 1) := by decide +kernel
theorem dX1_init_10 : decode cX1_init 10 = .ok (.iconst 0, 1) := by decide +kernel
theorem dX1_init_11 : decode cX1_init 11 = .ok (.putfield 15, 3) := by decide +kernel
theorem dX1_init_14 : decode cX1_init 14 = .ok (.aload_n 0, 1) := by decide +kernel
theorem dX1_init_15 : decode cX1_init 15 = .ok (.iconst 0, 1) := by decide +kernel
theorem dX1_init_16 : decode cX1_init 16 = .ok (.putfield 18, 3) := by decide +kernel
theorem dX1_init_19 : decode cX1_init 19 = .ok (.aload_n 0, 1) := by decide +kernel
theorem dX1_init_20 : decode cX1_init 20 = .ok (.iconst 0, 1) := by decide +kernel
theorem dX1_init_21 : decode cX1_init 21 = .ok (.putfield 21, 3) := by decide +kernel
theorem dX1_init_24 : decode cX1_init 24 = .ok (.aload_n 0, 1) := by decide +kernel
theorem dX1_init_25 : decode cX1_init 25 = .ok (.iconst 0, 1) := by decide +kernel
theorem dX1_init_26 : decode cX1_init 26 = .ok (.putfield 24, 3) := by decide +kernel
theorem dX1_init_29 : decode cX1_init 29 = .ok (.aload_n 0, 1) := by decide +kernel
theorem dX1_init_30 : decode cX1_init 30 = .ok (.iconst 0, 1) := by decide +kernel
theorem dX1_init_31 : decode cX1_init 31 = .ok (.putfield 27, 3) := by decide +kernel
theorem dX1_init_34 : decode cX1_init 34 = .ok (.aload_n 0, 1) := by decide +kernel
theorem dX1_init_35 : decode cX1_init 35 = .ok (.aload_n 1, 1) := by decide +kernel
theorem dX1_init_36 : decode cX1_init 36 = .ok (.putfield 30, 3) := by decide +kernel
theorem dX1_init_39 : decode cX1_init 39 = .ok (.aload_n 0, 1) := by decide +kernel
theorem dX1_init_40 : decode cX1_init 40 = .ok (.aload_n 2, 1) := by decide +kernel
theorem dX1_init_41 : decode cX1_init 41 = .ok (.putfield 34, 3) := by decide +kernel
theorem dX1_init_44 : decode cX1_init 44 = .ok (.return_, 1) := by decide +kernel
theorem dX1_seek_0 : decode cX1_seek 0 = .ok (.aload_n 0, 1) := by decide +kernel
theorem dX1_seek_1 : decode cX1_seek 1 = .ok (.iload_n 1, 1) := by decide +kernel
theorem dX1_seek_2 : decode cX1_seek 2 = .ok (.putfield 9, 3) := by decide +kernel
theorem dX1_seek_5 : decode cX1_seek 5 = .ok (.aload_n 0, 1) := by decide +kernel
theorem dX1_seek_6 : decode cX1_seek 6 = .ok (.iload_n 2, 1) := by decide +kernel
theorem dX1_seek_7 : decode cX1_seek 7 = .ok (.putfield 15, 3) := by decide +kernel
theorem dX1_seek_10 : decode cX1_seek 10 = .ok (.aload_n 0, 1) := by decide +kernel
theorem dX1_seek_11 : decode cX1_seek 11 = .ok (.iload_n 3, 1) := by decide +kernel
theorem dX1_seek_12 : decode cX1_seek 12 = .ok (.putfield 18, 3) := by decide +kernel
theorem dX1_seek_15 : decode cX1_seek 15 = .ok (.aload_n 0, 1) := by decide +kernel
theorem dX1_seek_16 : decode cX1_seek 16 = .ok (.iload 4, 2) := by decide +kernel
theorem dX1_seek_18 : decode cX1_seek 18 = .ok (.putfield 21, 3) := by decide +kernel
theorem dX1_seek_21 : decode cX1_seek 21 = .ok (.aload_n 0, 1) := by decide +kernel
theorem dX1_seek_22 : decode cX1_seek 22 = .ok (.iconst (-1), 1) := by decide +kernel
theorem dX1_seek_23 : decode cX1_seek 23 = .ok (.putfield 27, 3) := by decide +kernel
theorem dX1_seek_26 : decode cX1_seek 26 = .ok (.aload_n 0, 1) := by decide +kernel
theorem dX1_seek_27 : decode cX1_seek 27 = .ok (.iconst 0, 1) := by decide +kernel
theorem dX1_seek_28 : decode cX1_seek 28 = .ok (.iconst 0, 1) := by decide +kernel
theorem dX1_seek_29 : decode cX1_seek 29 = .ok (.invokevirtual 38, 3) := by decide +kernel
theorem dX1_seek_32 : decode cX1_seek 32 = .ok (.aload_n 0, 1) := by decide +kernel
theorem dX1_seek_33 : decode cX1_seek 33 = .ok (.getfield 24, 3) := by decide +kernel
theorem dX1_seek_36 : decode cX1_seek 36 = .ok (.ireturn, 1) := by decide +kernel
theorem dX1_hold_0 : decode cX1_hold 0 = .ok (.aload_n 0, 1) := by decide +kernel
theorem dX1_hold_1 : decode cX1_hold 1 = .ok (.getfield 34, 3) := by decide +kernel
theorem dX1_hold_4 : decode cX1_hold 4 = .ok (.aload_n 0, 1) := by decide +kernel
theorem dX1_hold_5 : decode cX1_hold 5 = .ok (.getfield 9, 3) := by decide +kernel
theorem dX1_hold_8 : decode cX1_hold 8 = .ok (.aload_n 0, 1) := by decide +kernel
theorem dX1_hold_9 : decode cX1_hold 9 = .ok (.getfield 15, 3) := by decide +kernel
theorem dX1_hold_12 : decode cX1_hold 12 = .ok (.aload_n 0, 1) := by decide +kernel
theorem dX1_hold_13 : decode cX1_hold 13 = .ok (.getfield 18, 3) := by decide +kernel
theorem dX1_hold_16 : decode cX1_hold 16 = .ok (.iconst 0, 1) := by decide +kernel
theorem dX1_hold_17 : decode cX1_hold 17 = .ok (.sipush 9999, 3) := by decide +kernel
theorem dX1_hold_20 : decode cX1_hold 20 = .ok (.iload_n 1, 1) := by decide +kernel
theorem dX1_hold_21 : decode cX1_hold 21 = .ok (.invokevirtual 42, 3) := by decide +kernel
theorem dX1_hold_24 : decode cX1_hold 24 = .ok (.aload_n 0, 1) := by decide +kernel
theorem dX1_hold_25 : decode cX1_hold 25 = .ok (.getfield 34, 3) := by decide +kernel
theorem dX1_hold_28 : decode cX1_hold 28 = .ok (.getfield 48, 3) := by decide +kernel
theorem dX1_hold_31 : decode cX1_hold 31 = .ok (.istore_n 3, 1) := by decide +kernel
theorem dX1_hold_32 : decode cX1_hold 32 = .ok (.aload_n 0, 1) := by decide +kernel
theorem dX1_hold_33 : decode cX1_hold 33 = .ok (.getfield 27, 3) := by decide +kernel
theorem dX1_hold_36 : decode cX1_hold 36 = .ok (.iconst (-1), 1) := by decide +kernel
theorem dX1_hold_37 : decode cX1_hold 37 = .ok (.if_icmp .eq 19, 3) := by decide +kernel
theorem dX1_hold_40 : decode cX1_hold 40 = .ok (.aload_n 0, 1) := by decide +kernel
theorem dX1_hold_41 : decode cX1_hold 41 = .ok (.iload_n 1, 1) := by decide +kernel
theorem dX1_hold_42 : decode cX1_hold 42 = .ok (.iload_n 2, 1) := by decide +kernel
theorem dX1_hold_43 : decode cX1_hold 43 = .ok (.aload_n 0, 1) := by decide +kernel
theorem dX1_hold_44 : decode cX1_hold 44 = .ok (.getfield 34, 3) := by decide +kernel
theorem dX1_hold_47 : decode cX1_hold 47 = .ok (.getfield 49, 3) := by decide +kernel
theorem dX1_hold_50 : decode cX1_hold 50 = .ok (.invokevirtual 50, 3) := by decide +kernel
theorem dX1_hold_53 : decode cX1_hold 53 = .ok (.ifCond .eq 19, 3) := by decide +kernel
theorem dX1_hold_56 : decode cX1_hold 56 = .ok (.aload_n 0, 1) := by decide +kernel
theorem dX1_hold_57 : decode cX1_hold 57 = .ok (.iload_n 1, 1) := by decide +kernel
theorem dX1_hold_58 : decode cX1_hold 58 = .ok (.putfield 27, 3) := by decide +kernel
theorem dX1_hold_61 : decode cX1_hold 61 = .ok (.aload_n 0, 1) := by decide +kernel
theorem dX1_hold_62 : decode cX1_hold 62 = .ok (.aload_n 0, 1) := by decide +kernel
theorem dX1_hold_63 : decode cX1_hold 63 = .ok (.getfield 34, 3) := by decide +kernel
theorem dX1_hold_66 : decode cX1_hold 66 = .ok (.getfield 49, 3) := by decide +kernel
theorem dX1_hold_69 : decode cX1_hold 69 = .ok (.putfield 24, 3) := by decide +kernel
theorem dX1_hold_72 : decode cX1_hold 72 = .ok (.iload_n 2, 1) := by decide +kernel
theorem dX1_hold_73 : decode cX1_hold 73 = .ok (.aload_n 0, 1) := by decide +kernel
theorem dX1_hold_74 : decode cX1_hold 74 = .ok (.getfield 21, 3) := by decide +kernel
theorem dX1_hold_77 : decode cX1_hold 77 = .ok (.if_icmp .ge 8, 3) := by decide +kernel
theorem dX1_hold_80 : decode cX1_hold 80 = .ok (.iload_n 2, 1) := by decide +kernel
theorem dX1_hold_81 : decode cX1_hold 81 = .ok (.iconst 2, 1) := by decide +kernel
theorem dX1_hold_82 : decode cX1_hold 82 = .ok (.if_icmp .lt 4, 3) := by decide +kernel
theorem dX1_hold_85 : decode cX1_hold 85 = .ok (.return_, 1) := by decide +kernel
theorem dX1_hold_86 : decode cX1_hold 86 = .ok (.iconst 0, 1) := by decide +kernel
theorem dX1_hold_87 : decode cX1_hold 87 = .ok (.istore 4, 2) := by decide +kernel
theorem dX1_hold_89 : decode cX1_hold 89 = .ok (.iload 4, 2) := by decide +kernel
theorem dX1_hold_91 : decode cX1_hold 91 = .ok (.aload_n 0, 1) := by decide +kernel
theorem dX1_hold_92 : decode cX1_hold 92 = .ok (.getfield 30, 3) := by decide +kernel
theorem dX1_hold_95 : decode cX1_hold 95 = .ok (.getfield 54, 3) := by decide +kernel
theorem dX1_hold_98 : decode cX1_hold 98 = .ok (.if_icmp .ge 31, 3) := by decide +kernel
theorem dX1_hold_101 : decode cX1_hold 101 = .ok (.iload_n 3, 1) := by decide +kernel
theorem dX1_hold_102 : decode cX1_hold 102 = .ok (.iload 4, 2) := by decide +kernel
theorem dX1_hold_104 : decode cX1_hold 104 = .ok (.ishr, 1) := by decide +kernel
theorem dX1_hold_105 : decode cX1_hold 105 = .ok (.iconst 1, 1) := by decide +kernel
theorem dX1_hold_106 : decode cX1_hold 106 = .ok (.iand, 1) := by decide +kernel
theorem dX1_hold_107 : decode cX1_hold 107 = .ok (.ifCond .eq 16, 3) := by decide +kernel
theorem dX1_hold_110 : decode cX1_hold 110 = .ok (.aload_n 0, 1) := by decide +kernel
theorem dX1_hold_111 : decode cX1_hold 111 = .ok (.iload_n 1, 1) := by decide +kernel
theorem dX1_hold_112 : decode cX1_hold 112 = .ok (.iconst 1, 1) := by decide +kernel
theorem dX1_hold_113 : decode cX1_hold 113 = .ok (.iload 4, 2) := by decide +kernel
theorem dX1_hold_115 : decode cX1_hold 115 = .ok (.ishl, 1) := by decide +kernel
theorem dX1_hold_116 : decode cX1_hold 116 = .ok (.ior, 1) := by decide +kernel
theorem dX1_hold_117 : decode cX1_hold 117 = .ok (.iload_n 2, 1) := by decide +kernel
theorem dX1_hold_118 : decode cX1_hold 118 = .ok (.iconst 1, 1) := by decide +kernel
theorem dX1_hold_119 : decode cX1_hold 119 = .ok (.iadd, 1) := by decide +kernel
theorem dX1_hold_120 : decode cX1_hold 120 = .ok (.invokevirtual 38, 3) := by decide +kernel
theorem dX1_hold_123 : decode cX1_hold 123 = .ok (.iinc 4 1, 3) := by decide +kernel
theorem dX1_hold_126 : decode cX1_hold 126 = .ok (.goto (-37), 3) := by decide +kernel
theorem dX1_hold_129 : decode cX1_hold 129 = .ok (.return_, 1) := by decide +kernel
theorem dX1_isBetter_0 : decode cX1_isBetter 0 = .ok (.iload_n 3, 1) := by decide +kernel
theorem dX1_isBetter_1 : decode cX1_isBetter 1 = .ok (.aload_n 0, 1) := by decide +kernel
theorem dX1_isBetter_2 : decode cX1_isBetter 2 = .ok (.getfield 24, 3) := by decide +kernel
theorem dX1_isBetter_5 : decode cX1_isBetter 5 = .ok (.if_icmp .eq 17, 3) := by decide +kernel
theorem dX1_isBetter_8 : decode cX1_isBetter 8 = .ok (.iload_n 3, 1) := by decide +kernel
theorem dX1_isBetter_9 : decode cX1_isBetter 9 = .ok (.aload_n 0, 1) := by decide +kernel
theorem dX1_isBetter_10 : decode cX1_isBetter 10 = .ok (.getfield 24, 3) := by decide +kernel
theorem dX1_isBetter_13 : decode cX1_isBetter 13 = .ok (.if_icmp .ge 7, 3) := by decide +kernel
theorem dX1_isBetter_16 : decode cX1_isBetter 16 = .ok (.iconst 1, 1) := by decide +kernel
theorem dX1_isBetter_17 : decode cX1_isBetter 17 = .ok (.goto 4, 3) := by decide +kernel
theorem dX1_isBetter_20 : decode cX1_isBetter 20 = .ok (.iconst 0, 1) := by decide +kernel
theorem dX1_isBetter_21 : decode cX1_isBetter 21 = .ok (.ireturn, 1) := by decide +kernel
theorem dX1_isBetter_22 : decode cX1_isBetter 22 = .ok (.aload_n 0, 1) := by decide +kernel
theorem dX1_isBetter_23 : decode cX1_isBetter 23 = .ok (.getfield 27, 3) := by decide +kernel
theorem dX1_isBetter_26 : decode cX1_isBetter 26 = .ok (.invokestatic 59, 3) := by decide +kernel
theorem dX1_isBetter_29 : decode cX1_isBetter 29 = .ok (.istore 4, 2) := by decide +kernel
theorem dX1_isBetter_31 : decode cX1_isBetter 31 = .ok (.iload_n 2, 1) := by decide +kernel
theorem dX1_isBetter_32 : decode cX1_isBetter 32 = .ok (.iload 4, 2) := by decide +kernel
theorem dX1_isBetter_34 : decode cX1_isBetter 34 = .ok (.if_icmp .lt 17, 3) := by decide +kernel
theorem dX1_isBetter_37 : decode cX1_isBetter 37 = .ok (.iload_n 2, 1) := by decide +kernel
theorem dX1_isBetter_38 : decode cX1_isBetter 38 = .ok (.iload 4, 2) := by decide +kernel
theorem dX1_isBetter_40 : decode cX1_isBetter 40 = .ok (.if_icmp .ne 15, 3) := by decide +kernel
theorem dX1_isBetter_43 : decode cX1_isBetter 43 = .ok (.iload_n 1, 1) := by decide +kernel
theorem dX1_isBetter_44 : decode cX1_isBetter 44 = .ok (.aload_n 0, 1) := by decide +kernel
theorem dX1_isBetter_45 : decode cX1_isBetter 45 = .ok (.getfield 27, 3) := by decide +kernel
theorem dX1_isBetter_48 : decode cX1_isBetter 48 = .ok (.if_icmp .ge 7, 3) := by decide +kernel
theorem dX1_isBetter_51 : decode cX1_isBetter 51 = .ok (.iconst 1, 1) := by decide +kernel
theorem dX1_isBetter_52 : decode cX1_isBetter 52 = .ok (.goto 4, 3) := by decide +kernel
theorem dX1_isBetter_55 : decode cX1_isBetter 55 = .ok (.iconst 0, 1) := by decide +kernel
theorem dX1_isBetter_56 : decode cX1_isBetter 56 = .ok (.ireturn, 1) := by decide +kernel
theorem dX2_init_0 : decode cX2_init 0 = .ok (.aload_n 0, 1) := by decide +kernel
theorem dX2_init_1 : decode cX2_init 1 = .ok (.invokespecial 3, 3) := by decide +kernel
theorem dX2_init_4 : decode cX2_init 4 = .ok (.aload_n 0, 1) := by decide +kernel
theorem dX2_init_5 : decode cX2_init 5 = .ok (.bipush 16, 2) := by decide +kernel
theorem dX2_init_7 : decode cX2_init 7 = .ok (.newarray .int, 2) := by decide +kernel
theorem dX2_init_9 : decode cX2_init 9 = .ok (.putfield 9, 3) := by decide +kernel
theorem dX2_init_12 : decode cX2_init 12 = .ok (.aload_n 0, 1) := by decide +kernel
theorem dX2_init_13 : decode cX2_init 13 = .ok (.iconst 0, 1) := by decide +kernel
theorem dX2_init_14 : decode cX2_init 14 = .ok (.putfield 15, 3) := by decide +kernel
theorem dX2_init_17 : decode cX2_init 17 = .ok (.aload_n 0, 1) := by decide +kernel
theorem dX2_init_18 : decode cX2_init 18 = .ok (.iconst 0, 1) := by decide +kernel
theorem dX2_init_19 : decode cX2_init 19 = .ok (.putfield 19, 3) := by decide +kernel
theorem dX2_init_22 : decode cX2_init 22 = .ok (.return_, 1) := by decide +kernel
theorem dX2_pack_0 : decode cX2_pack 0 = .ok (.iload_n 0, 1) := by decide +kernel
theorem dX2_pack_1 : decode cX2_pack 1 = .ok (.iload_n 1, 1) := by decide +kernel
theorem dX2_pack_2 : decode cX2_pack 2 = .ok (.iconst 3, 1) := by decide +kernel
theorem dX2_pack_3 : decode cX2_pack 3 = .ok (.ishl, 1) := by decide +kernel
theorem dX2_pack_4 : decode cX2_pack 4 = .ok (.ior, 1) := by decide +kernel
theorem dX2_pack_5 : decode cX2_pack 5 = .ok (.iload_n 2, 1) := by decide +kernel
theorem dX2_pack_6 : decode cX2_pack 6 = .ok (.bipush 6, 2) := by decide +kernel
theorem dX2_pack_8 : decode cX2_pack 8 = .ok (.ishl, 1) := by decide +kernel
theorem dX2_pack_9 : decode cX2_pack 9 = .ok (.ior, 1) := by decide +kernel
theorem dX2_pack_10 : decode cX2_pack 10 = .ok (.iload_n 3, 1) := by decide +kernel
theorem dX2_pack_11 : decode cX2_pack 11 = .ok (.bipush 13, 2) := by decide +kernel
theorem dX2_pack_13 : decode cX2_pack 13 = .ok (.ishl, 1) := by decide +kernel
theorem dX2_pack_14 : decode cX2_pack 14 = .ok (.ior, 1) := by decide +kernel
theorem dX2_pack_15 : decode cX2_pack 15 = .ok (.iload 4, 2) := by decide +kernel
theorem dX2_pack_17 : decode cX2_pack 17 = .ok (.bipush 20, 2) := by decide +kernel
theorem dX2_pack_19 : decode cX2_pack 19 = .ok (.ishl, 1) := by decide +kernel
theorem dX2_pack_20 : decode cX2_pack 20 = .ok (.ior, 1) := by decide +kernel
theorem dX2_pack_21 : decode cX2_pack 21 = .ok (.ireturn, 1) := by decide +kernel
theorem dX2_isValue_0 : decode cX2_isValue 0 = .ok (.iload_n 0, 1) := by decide +kernel
theorem dX2_isValue_1 : decode cX2_isValue 1 = .ok (.tableswitch 77 2 4 #[27, 43, 60], 27) := by decide +kernel
theorem dX2_isValue_28 : decode cX2_isValue 28 = .ok (.iload_n 1, 1) := by decide +kernel
theorem dX2_isValue_29 : decode cX2_isValue 29 = .ok (.ifCond .lt 13, 3) := by decide +kernel
theorem dX2_isValue_32 : decode cX2_isValue 32 = .ok (.iload_n 1, 1) := by decide +kernel
theorem dX2_isValue_33 : decode cX2_isValue 33 = .ok (.bipush 99, 2) := by decide +kernel
theorem dX2_isValue_35 : decode cX2_isValue 35 = .ok (.if_icmp .gt 7, 3) := by decide +kernel
theorem dX2_isValue_38 : decode cX2_isValue 38 = .ok (.iconst 1, 1) := by decide +kernel
theorem dX2_isValue_39 : decode cX2_isValue 39 = .ok (.goto 4, 3) := by decide +kernel
theorem dX2_isValue_42 : decode cX2_isValue 42 = .ok (.iconst 0, 1) := by decide +kernel
theorem dX2_isValue_43 : decode cX2_isValue 43 = .ok (.ireturn, 1) := by decide +kernel
theorem dX2_isValue_44 : decode cX2_isValue 44 = .ok (.iload_n 1, 1) := by decide +kernel
theorem dX2_isValue_45 : decode cX2_isValue 45 = .ok (.iconst 1, 1) := by decide +kernel
theorem dX2_isValue_46 : decode cX2_isValue 46 = .ok (.if_icmp .lt 13, 3) := by decide +kernel
theorem dX2_isValue_49 : decode cX2_isValue 49 = .ok (.iload_n 1, 1) := by decide +kernel
theorem dX2_isValue_50 : decode cX2_isValue 50 = .ok (.bipush 100, 2) := by decide +kernel
theorem dX2_isValue_52 : decode cX2_isValue 52 = .ok (.if_icmp .gt 7, 3) := by decide +kernel
theorem dX2_isValue_55 : decode cX2_isValue 55 = .ok (.iconst 1, 1) := by decide +kernel
theorem dX2_isValue_56 : decode cX2_isValue 56 = .ok (.goto 4, 3) := by decide +kernel
theorem dX2_isValue_59 : decode cX2_isValue 59 = .ok (.iconst 0, 1) := by decide +kernel
theorem dX2_isValue_60 : decode cX2_isValue 60 = .ok (.ireturn, 1) := by decide +kernel
theorem dX2_isValue_61 : decode cX2_isValue 61 = .ok (.iload_n 1, 1) := by decide +kernel
theorem dX2_isValue_62 : decode cX2_isValue 62 = .ok (.iconst 1, 1) := by decide +kernel
theorem dX2_isValue_63 : decode cX2_isValue 63 = .ok (.if_icmp .lt 13, 3) := by decide +kernel
theorem dX2_isValue_66 : decode cX2_isValue 66 = .ok (.iload_n 1, 1) := by decide +kernel
theorem dX2_isValue_67 : decode cX2_isValue 67 = .ok (.bipush 9, 2) := by decide +kernel
theorem dX2_isValue_69 : decode cX2_isValue 69 = .ok (.if_icmp .gt 7, 3) := by decide +kernel
theorem dX2_isValue_72 : decode cX2_isValue 72 = .ok (.iconst 1, 1) := by decide +kernel
theorem dX2_isValue_73 : decode cX2_isValue 73 = .ok (.goto 4, 3) := by decide +kernel
theorem dX2_isValue_76 : decode cX2_isValue 76 = .ok (.iconst 0, 1) := by decide +kernel
theorem dX2_isValue_77 : decode cX2_isValue 77 = .ok (.ireturn, 1) := by decide +kernel
theorem dX2_isValue_78 : decode cX2_isValue 78 = .ok (.iconst 0, 1) := by decide +kernel
theorem dX2_isValue_79 : decode cX2_isValue 79 = .ok (.ireturn, 1) := by decide +kernel
theorem dX2_has_0 : decode cX2_has 0 = .ok (.iload_n 1, 1) := by decide +kernel
theorem dX2_has_1 : decode cX2_has 1 = .ok (.ifCond .lt 15, 3) := by decide +kernel
theorem dX2_has_4 : decode cX2_has 4 = .ok (.iload_n 1, 1) := by decide +kernel
theorem dX2_has_5 : decode cX2_has 5 = .ok (.aload_n 0, 1) := by decide +kernel
theorem dX2_has_6 : decode cX2_has 6 = .ok (.getfield 15, 3) := by decide +kernel
theorem dX2_has_9 : decode cX2_has 9 = .ok (.if_icmp .ge 7, 3) := by decide +kernel
theorem dX2_has_12 : decode cX2_has 12 = .ok (.iconst 1, 1) := by decide +kernel
theorem dX2_has_13 : decode cX2_has 13 = .ok (.goto 4, 3) := by decide +kernel
theorem dX2_has_16 : decode cX2_has 16 = .ok (.iconst 0, 1) := by decide +kernel
theorem dX2_has_17 : decode cX2_has 17 = .ok (.ireturn, 1) := by decide +kernel
theorem dX2_all_0 : decode cX2_all 0 = .ok (.iconst 1, 1) := by decide +kernel
theorem dX2_all_1 : decode cX2_all 1 = .ok (.aload_n 0, 1) := by decide +kernel
theorem dX2_all_2 : decode cX2_all 2 = .ok (.getfield 15, 3) := by decide +kernel
theorem dX2_all_5 : decode cX2_all 5 = .ok (.ishl, 1) := by decide +kernel
theorem dX2_all_6 : decode cX2_all 6 = .ok (.iconst 1, 1) := by decide +kernel
theorem dX2_all_7 : decode cX2_all 7 = .ok (.isub, 1) := by decide +kernel
theorem dX2_all_8 : decode cX2_all 8 = .ok (.ireturn, 1) := by decide +kernel
theorem dX2_hasAll_0 : decode cX2_hasAll 0 = .ok (.iload_n 1, 1) := by decide +kernel
theorem dX2_hasAll_1 : decode cX2_hasAll 1 = .ok (.aload_n 0, 1) := by decide +kernel
theorem dX2_hasAll_2 : decode cX2_hasAll 2 = .ok (.invokevirtual 22, 3) := by decide +kernel
theorem dX2_hasAll_5 : decode cX2_hasAll 5 = .ok (.iconst (-1), 1) := by decide +kernel
theorem dX2_hasAll_6 : decode cX2_hasAll 6 = .ok (.ixor, 1) := by decide +kernel
theorem dX2_hasAll_7 : decode cX2_hasAll 7 = .ok (.iand, 1) := by decide +kernel
theorem dX2_hasAll_8 : decode cX2_hasAll 8 = .ok (.ifCond .ne 7, 3) := by decide +kernel
theorem dX2_hasAll_11 : decode cX2_hasAll 11 = .ok (.iconst 1, 1) := by decide +kernel
theorem dX2_hasAll_12 : decode cX2_hasAll 12 = .ok (.goto 4, 3) := by decide +kernel
theorem dX2_hasAll_15 : decode cX2_hasAll 15 = .ok (.iconst 0, 1) := by decide +kernel
theorem dX2_hasAll_16 : decode cX2_hasAll 16 = .ok (.ireturn, 1) := by decide +kernel
theorem dX2_part_0 : decode cX2_part 0 = .ok (.aload_n 0, 1) := by decide +kernel
theorem dX2_part_1 : decode cX2_part 1 = .ok (.iload_n 1, 1) := by decide +kernel
theorem dX2_part_2 : decode cX2_part 2 = .ok (.invokevirtual 26, 3) := by decide +kernel
theorem dX2_part_5 : decode cX2_part 5 = .ok (.ifCond .eq 12, 3) := by decide +kernel
theorem dX2_part_8 : decode cX2_part 8 = .ok (.iload_n 2, 1) := by decide +kernel
theorem dX2_part_9 : decode cX2_part 9 = .ok (.ifCond .lt 8, 3) := by decide +kernel
theorem dX2_part_12 : decode cX2_part 12 = .ok (.iload_n 2, 1) := by decide +kernel
theorem dX2_part_13 : decode cX2_part 13 = .ok (.iconst 4, 1) := by decide +kernel
theorem dX2_part_14 : decode cX2_part 14 = .ok (.if_icmp .le 5, 3) := by decide +kernel
theorem dX2_part_17 : decode cX2_part 17 = .ok (.iconst 0, 1) := by decide +kernel
theorem dX2_part_18 : decode cX2_part 18 = .ok (.ireturn, 1) := by decide +kernel
theorem dX2_part_19 : decode cX2_part 19 = .ok (.aload_n 0, 1) := by decide +kernel
theorem dX2_part_20 : decode cX2_part 20 = .ok (.getfield 9, 3) := by decide +kernel
theorem dX2_part_23 : decode cX2_part 23 = .ok (.iload_n 1, 1) := by decide +kernel
theorem dX2_part_24 : decode cX2_part 24 = .ok (.iaload, 1) := by decide +kernel
theorem dX2_part_25 : decode cX2_part 25 = .ok (.getstatic 30, 3) := by decide +kernel
theorem dX2_part_28 : decode cX2_part 28 = .ok (.iload_n 2, 1) := by decide +kernel
theorem dX2_part_29 : decode cX2_part 29 = .ok (.iaload, 1) := by decide +kernel
theorem dX2_part_30 : decode cX2_part 30 = .ok (.ishr, 1) := by decide +kernel
theorem dX2_part_31 : decode cX2_part 31 = .ok (.getstatic 33, 3) := by decide +kernel
theorem dX2_part_34 : decode cX2_part 34 = .ok (.iload_n 2, 1) := by decide +kernel
theorem dX2_part_35 : decode cX2_part 35 = .ok (.iaload, 1) := by decide +kernel
theorem dX2_part_36 : decode cX2_part 36 = .ok (.iand, 1) := by decide +kernel
theorem dX2_part_37 : decode cX2_part 37 = .ok (.ireturn, 1) := by decide +kernel
theorem dX2_setPart_0 : decode cX2_setPart 0 = .ok (.aload_n 0, 1) := by decide +kernel
theorem dX2_setPart_1 : decode cX2_setPart 1 = .ok (.iload_n 1, 1) := by decide +kernel
theorem dX2_setPart_2 : decode cX2_setPart 2 = .ok (.invokevirtual 26, 3) := by decide +kernel
theorem dX2_setPart_5 : decode cX2_setPart 5 = .ok (.ifCond .eq 45, 3) := by decide +kernel
theorem dX2_setPart_8 : decode cX2_setPart 8 = .ok (.iload_n 2, 1) := by decide +kernel
theorem dX2_setPart_9 : decode cX2_setPart 9 = .ok (.iload_n 3, 1) := by decide +kernel
theorem dX2_setPart_10 : decode cX2_setPart 10 = .ok (.invokestatic 36, 3) := by decide +kernel
theorem dX2_setPart_13 : decode cX2_setPart 13 = .ok (.ifCond .eq 37, 3) := by decide +kernel
theorem dX2_setPart_16 : decode cX2_setPart 16 = .ok (.aload_n 0, 1) := by decide +kernel
theorem dX2_setPart_17 : decode cX2_setPart 17 = .ok (.getfield 9, 3) := by decide +kernel
theorem dX2_setPart_20 : decode cX2_setPart 20 = .ok (.iload_n 1, 1) := by decide +kernel
theorem dX2_setPart_21 : decode cX2_setPart 21 = .ok (.aload_n 0, 1) := by decide +kernel
theorem dX2_setPart_22 : decode cX2_setPart 22 = .ok (.getfield 9, 3) := by decide +kernel
theorem dX2_setPart_25 : decode cX2_setPart 25 = .ok (.iload_n 1, 1) := by decide +kernel
theorem dX2_setPart_26 : decode cX2_setPart 26 = .ok (.iaload, 1) := by decide +kernel
theorem dX2_setPart_27 : decode cX2_setPart 27 = .ok (.getstatic 33, 3) := by decide +kernel
theorem dX2_setPart_30 : decode cX2_setPart 30 = .ok (.iload_n 2, 1) := by decide +kernel
theorem dX2_setPart_31 : decode cX2_setPart 31 = .ok (.iaload, 1) := by decide +kernel
theorem dX2_setPart_32 : decode cX2_setPart 32 = .ok (.getstatic 30, 3) := by decide +kernel
theorem dX2_setPart_35 : decode cX2_setPart 35 = .ok (.iload_n 2, 1) := by decide +kernel
theorem dX2_setPart_36 : decode cX2_setPart 36 = .ok (.iaload, 1) := by decide +kernel
theorem dX2_setPart_37 : decode cX2_setPart 37 = .ok (.ishl, 1) := by decide +kernel
theorem dX2_setPart_38 : decode cX2_setPart 38 = .ok (.iconst (-1), 1) := by decide +kernel
theorem dX2_setPart_39 : decode cX2_setPart 39 = .ok (.ixor, 1) := by decide +kernel
theorem dX2_setPart_40 : decode cX2_setPart 40 = .ok (.iand, 1) := by decide +kernel
theorem dX2_setPart_41 : decode cX2_setPart 41 = .ok (.iload_n 3, 1) := by decide +kernel
theorem dX2_setPart_42 : decode cX2_setPart 42 = .ok (.getstatic 30, 3) := by decide +kernel
theorem dX2_setPart_45 : decode cX2_setPart 45 = .ok (.iload_n 2, 1) := by decide +kernel
theorem dX2_setPart_46 : decode cX2_setPart 46 = .ok (.iaload, 1) := by decide +kernel
theorem dX2_setPart_47 : decode cX2_setPart 47 = .ok (.ishl, 1) := by decide +kernel
theorem dX2_setPart_48 : decode cX2_setPart 48 = .ok (.ior, 1) := by decide +kernel
theorem dX2_setPart_49 : decode cX2_setPart 49 = .ok (.iastore, 1) := by decide +kernel
theorem dX2_setPart_50 : decode cX2_setPart 50 = .ok (.return_, 1) := by decide +kernel
theorem dX2_from_0 : decode cX2_from 0 = .ok (.aload_n 0, 1) := by decide +kernel
theorem dX2_from_1 : decode cX2_from 1 = .ok (.iload_n 1, 1) := by decide +kernel
theorem dX2_from_2 : decode cX2_from 2 = .ok (.invokevirtual 26, 3) := by decide +kernel
theorem dX2_from_5 : decode cX2_from 5 = .ok (.ifCond .eq 15, 3) := by decide +kernel
theorem dX2_from_8 : decode cX2_from 8 = .ok (.aload_n 0, 1) := by decide +kernel
theorem dX2_from_9 : decode cX2_from 9 = .ok (.getfield 9, 3) := by decide +kernel
theorem dX2_from_12 : decode cX2_from 12 = .ok (.iload_n 1, 1) := by decide +kernel
theorem dX2_from_13 : decode cX2_from 13 = .ok (.iaload, 1) := by decide +kernel
theorem dX2_from_14 : decode cX2_from 14 = .ok (.bipush 7, 2) := by decide +kernel
theorem dX2_from_16 : decode cX2_from 16 = .ok (.iand, 1) := by decide +kernel
theorem dX2_from_17 : decode cX2_from 17 = .ok (.goto 4, 3) := by decide +kernel
theorem dX2_from_20 : decode cX2_from 20 = .ok (.iconst 0, 1) := by decide +kernel
theorem dX2_from_21 : decode cX2_from 21 = .ok (.ireturn, 1) := by decide +kernel
theorem dX2_to_0 : decode cX2_to 0 = .ok (.aload_n 0, 1) := by decide +kernel
theorem dX2_to_1 : decode cX2_to 1 = .ok (.iload_n 1, 1) := by decide +kernel
theorem dX2_to_2 : decode cX2_to 2 = .ok (.invokevirtual 26, 3) := by decide +kernel
theorem dX2_to_5 : decode cX2_to 5 = .ok (.ifCond .eq 17, 3) := by decide +kernel
theorem dX2_to_8 : decode cX2_to 8 = .ok (.aload_n 0, 1) := by decide +kernel
theorem dX2_to_9 : decode cX2_to 9 = .ok (.getfield 9, 3) := by decide +kernel
theorem dX2_to_12 : decode cX2_to 12 = .ok (.iload_n 1, 1) := by decide +kernel
theorem dX2_to_13 : decode cX2_to 13 = .ok (.iaload, 1) := by decide +kernel
theorem dX2_to_14 : decode cX2_to 14 = .ok (.iconst 3, 1) := by decide +kernel
theorem dX2_to_15 : decode cX2_to 15 = .ok (.ishr, 1) := by decide +kernel
theorem dX2_to_16 : decode cX2_to 16 = .ok (.bipush 7, 2) := by decide +kernel
theorem dX2_to_18 : decode cX2_to 18 = .ok (.iand, 1) := by decide +kernel
theorem dX2_to_19 : decode cX2_to 19 = .ok (.goto 4, 3) := by decide +kernel
theorem dX2_to_22 : decode cX2_to 22 = .ok (.iconst 0, 1) := by decide +kernel
theorem dX2_to_23 : decode cX2_to 23 = .ok (.ireturn, 1) := by decide +kernel
theorem dX2_cost_0 : decode cX2_cost 0 = .ok (.aload_n 0, 1) := by decide +kernel
theorem dX2_cost_1 : decode cX2_cost 1 = .ok (.iload_n 1, 1) := by decide +kernel
theorem dX2_cost_2 : decode cX2_cost 2 = .ok (.invokevirtual 26, 3) := by decide +kernel
theorem dX2_cost_5 : decode cX2_cost 5 = .ok (.ifCond .eq 18, 3) := by decide +kernel
theorem dX2_cost_8 : decode cX2_cost 8 = .ok (.aload_n 0, 1) := by decide +kernel
theorem dX2_cost_9 : decode cX2_cost 9 = .ok (.getfield 9, 3) := by decide +kernel
theorem dX2_cost_12 : decode cX2_cost 12 = .ok (.iload_n 1, 1) := by decide +kernel
theorem dX2_cost_13 : decode cX2_cost 13 = .ok (.iaload, 1) := by decide +kernel
theorem dX2_cost_14 : decode cX2_cost 14 = .ok (.bipush 20, 2) := by decide +kernel
theorem dX2_cost_16 : decode cX2_cost 16 = .ok (.ishr, 1) := by decide +kernel
theorem dX2_cost_17 : decode cX2_cost 17 = .ok (.bipush 15, 2) := by decide +kernel
theorem dX2_cost_19 : decode cX2_cost 19 = .ok (.iand, 1) := by decide +kernel
theorem dX2_cost_20 : decode cX2_cost 20 = .ok (.goto 4, 3) := by decide +kernel
theorem dX2_cost_23 : decode cX2_cost 23 = .ok (.iconst 0, 1) := by decide +kernel
theorem dX2_cost_24 : decode cX2_cost 24 = .ok (.ireturn, 1) := by decide +kernel
theorem dX2_plainLength_0 : decode cX2_plainLength 0 = .ok (.aload_n 0, 1) := by decide +kernel
theorem dX2_plainLength_1 : decode cX2_plainLength 1 = .ok (.iload_n 1, 1) := by decide +kernel
theorem dX2_plainLength_2 : decode cX2_plainLength 2 = .ok (.invokevirtual 26, 3) := by decide +kernel
theorem dX2_plainLength_5 : decode cX2_plainLength 5 = .ok (.ifCond .eq 18, 3) := by decide +kernel
theorem dX2_plainLength_8 : decode cX2_plainLength 8 = .ok (.aload_n 0, 1) := by decide +kernel
theorem dX2_plainLength_9 : decode cX2_plainLength 9 = .ok (.getfield 9, 3) := by decide +kernel
theorem dX2_plainLength_12 : decode cX2_plainLength 12 = .ok (.iload_n 1, 1) := by decide +kernel
theorem dX2_plainLength_13 : decode cX2_plainLength 13 = .ok (.iaload, 1) := by decide +kernel
theorem dX2_plainLength_14 : decode cX2_plainLength 14 = .ok (.bipush 6, 2) := by decide +kernel
theorem dX2_plainLength_16 : decode cX2_plainLength 16 = .ok (.ishr, 1) := by decide +kernel
theorem dX2_plainLength_17 : decode cX2_plainLength 17 = .ok (.bipush 127, 2) := by decide +kernel
theorem dX2_plainLength_19 : decode cX2_plainLength 19 = .ok (.iand, 1) := by decide +kernel
theorem dX2_plainLength_20 : decode cX2_plainLength 20 = .ok (.goto 4, 3) := by decide +kernel
theorem dX2_plainLength_23 : decode cX2_plainLength 23 = .ok (.iconst 0, 1) := by decide +kernel
theorem dX2_plainLength_24 : decode cX2_plainLength 24 = .ok (.ireturn, 1) := by decide +kernel
theorem dX2_fillLengths_0 : decode cX2_fillLengths 0 = .ok (.iconst 0, 1) := by decide +kernel
theorem dX2_fillLengths_1 : decode cX2_fillLengths 1 = .ok (.istore_n 3, 1) := by decide +kernel
theorem dX2_fillLengths_2 : decode cX2_fillLengths 2 = .ok (.iload_n 3, 1) := by decide +kernel
theorem dX2_fillLengths_3 : decode cX2_fillLengths 3 = .ok (.aload_n 0, 1) := by decide +kernel
theorem dX2_fillLengths_4 : decode cX2_fillLengths 4 = .ok (.getfield 15, 3) := by decide +kernel
theorem dX2_fillLengths_7 : decode cX2_fillLengths 7 = .ok (.if_icmp .ge 72, 3) := by decide +kernel
theorem dX2_fillLengths_10 : decode cX2_fillLengths 10 = .ok (.iload_n 3, 1) := by decide +kernel
theorem dX2_fillLengths_11 : decode cX2_fillLengths 11 = .ok (.aload_n 2, 1) := by decide +kernel
theorem dX2_fillLengths_12 : decode cX2_fillLengths 12 = .ok (.arraylength, 1) := by decide +kernel
theorem dX2_fillLengths_13 : decode cX2_fillLengths 13 = .ok (.if_icmp .ge 66, 3) := by decide +kernel
theorem dX2_fillLengths_16 : decode cX2_fillLengths 16 = .ok (.aload_n 0, 1) := by decide +kernel
theorem dX2_fillLengths_17 : decode cX2_fillLengths 17 = .ok (.getfield 9, 3) := by decide +kernel
theorem dX2_fillLengths_20 : decode cX2_fillLengths 20 = .ok (.iload_n 3, 1) := by decide +kernel
theorem dX2_fillLengths_21 : decode cX2_fillLengths 21 = .ok (.iaload, 1) := by decide +kernel
theorem dX2_fillLengths_22 : decode cX2_fillLengths 22 = .ok (.istore 4, 2) := by decide +kernel
theorem dX2_fillLengths_24 : decode cX2_fillLengths 24 = .ok (.iload_n 1, 1) := by decide +kernel
theorem dX2_fillLengths_25 : decode cX2_fillLengths 25 = .ok (.iload_n 3, 1) := by decide +kernel
theorem dX2_fillLengths_26 : decode cX2_fillLengths 26 = .ok (.ishr, 1) := by decide +kernel
theorem dX2_fillLengths_27 : decode cX2_fillLengths 27 = .ok (.iconst 1, 1) := by decide +kernel
theorem dX2_fillLengths_28 : decode cX2_fillLengths 28 = .ok (.iand, 1) := by decide +kernel
theorem dX2_fillLengths_29 : decode cX2_fillLengths 29 = .ok (.ifCond .eq 14, 3) := by decide +kernel
theorem dX2_fillLengths_32 : decode cX2_fillLengths 32 = .ok (.iload 4, 2) := by decide +kernel
theorem dX2_fillLengths_34 : decode cX2_fillLengths 34 = .ok (.bipush 13, 2) := by decide +kernel
theorem dX2_fillLengths_36 : decode cX2_fillLengths 36 = .ok (.ishr, 1) := by decide +kernel
theorem dX2_fillLengths_37 : decode cX2_fillLengths 37 = .ok (.bipush 127, 2) := by decide +kernel
theorem dX2_fillLengths_39 : decode cX2_fillLengths 39 = .ok (.iand, 1) := by decide +kernel
theorem dX2_fillLengths_40 : decode cX2_fillLengths 40 = .ok (.goto 4, 3) := by decide +kernel
theorem dX2_fillLengths_43 : decode cX2_fillLengths 43 = .ok (.iconst 0, 1) := by decide +kernel
theorem dX2_fillLengths_44 : decode cX2_fillLengths 44 = .ok (.istore 5, 2) := by decide +kernel
theorem dX2_fillLengths_46 : decode cX2_fillLengths 46 = .ok (.aload_n 2, 1) := by decide +kernel
theorem dX2_fillLengths_47 : decode cX2_fillLengths 47 = .ok (.iload_n 3, 1) := by decide +kernel
theorem dX2_fillLengths_48 : decode cX2_fillLengths 48 = .ok (.iload 5, 2) := by decide +kernel
theorem dX2_fillLengths_50 : decode cX2_fillLengths 50 = .ok (.bipush 100, 2) := by decide +kernel
theorem dX2_fillLengths_52 : decode cX2_fillLengths 52 = .ok (.if_icmp .ne 9, 3) := by decide +kernel
theorem dX2_fillLengths_55 : decode cX2_fillLengths 55 = .ok (.sipush 9999, 3) := by decide +kernel
theorem dX2_fillLengths_58 : decode cX2_fillLengths 58 = .ok (.goto 14, 3) := by decide +kernel
theorem dX2_fillLengths_61 : decode cX2_fillLengths 61 = .ok (.iload 4, 2) := by decide +kernel
theorem dX2_fillLengths_63 : decode cX2_fillLengths 63 = .ok (.bipush 6, 2) := by decide +kernel
theorem dX2_fillLengths_65 : decode cX2_fillLengths 65 = .ok (.ishr, 1) := by decide +kernel
theorem dX2_fillLengths_66 : decode cX2_fillLengths 66 = .ok (.bipush 127, 2) := by decide +kernel
theorem dX2_fillLengths_68 : decode cX2_fillLengths 68 = .ok (.iand, 1) := by decide +kernel
theorem dX2_fillLengths_69 : decode cX2_fillLengths 69 = .ok (.iload 5, 2) := by decide +kernel
theorem dX2_fillLengths_71 : decode cX2_fillLengths 71 = .ok (.iadd, 1) := by decide +kernel
theorem dX2_fillLengths_72 : decode cX2_fillLengths 72 = .ok (.iastore, 1) := by decide +kernel
theorem dX2_fillLengths_73 : decode cX2_fillLengths 73 = .ok (.iinc 3 1, 3) := by decide +kernel
theorem dX2_fillLengths_76 : decode cX2_fillLengths 76 = .ok (.goto (-74), 3) := by decide +kernel
theorem dX2_fillLengths_79 : decode cX2_fillLengths 79 = .ok (.return_, 1) := by decide +kernel
theorem dX2_append_0 : decode cX2_append 0 = .ok (.aload_n 0, 1) := by decide +kernel
theorem dX2_append_1 : decode cX2_append 1 = .ok (.getfield 15, 3) := by decide +kernel
theorem dX2_append_4 : decode cX2_append 4 = .ok (.bipush 16, 2) := by decide +kernel
theorem dX2_append_6 : decode cX2_append 6 = .ok (.if_icmp .ge 23, 3) := by decide +kernel
theorem dX2_append_9 : decode cX2_append 9 = .ok (.aload_n 0, 1) := by decide +kernel
theorem dX2_append_10 : decode cX2_append 10 = .ok (.getfield 9, 3) := by decide +kernel
theorem dX2_append_13 : decode cX2_append 13 = .ok (.aload_n 0, 1) := by decide +kernel
theorem dX2_append_14 : decode cX2_append 14 = .ok (.getfield 15, 3) := by decide +kernel
theorem dX2_append_17 : decode cX2_append 17 = .ok (.iload_n 1, 1) := by decide +kernel
theorem dX2_append_18 : decode cX2_append 18 = .ok (.iastore, 1) := by decide +kernel
theorem dX2_append_19 : decode cX2_append 19 = .ok (.aload_n 0, 1) := by decide +kernel
theorem dX2_append_20 : decode cX2_append 20 = .ok (.dup, 1) := by decide +kernel
theorem dX2_append_21 : decode cX2_append 21 = .ok (.getfield 15, 3) := by decide +kernel
theorem dX2_append_24 : decode cX2_append 24 = .ok (.iconst 1, 1) := by decide +kernel
theorem dX2_append_25 : decode cX2_append 25 = .ok (.iadd, 1) := by decide +kernel
theorem dX2_append_26 : decode cX2_append 26 = .ok (.putfield 15, 3) := by decide +kernel
theorem dX2_append_29 : decode cX2_append 29 = .ok (.return_, 1) := by decide +kernel
theorem dX2_delete_0 : decode cX2_delete 0 = .ok (.aload_n 0, 1) := by decide +kernel
theorem dX2_delete_1 : decode cX2_delete 1 = .ok (.iload_n 1, 1) := by decide +kernel
theorem dX2_delete_2 : decode cX2_delete 2 = .ok (.invokevirtual 26, 3) := by decide +kernel
theorem dX2_delete_5 : decode cX2_delete 5 = .ok (.ifCond .ne 4, 3) := by decide +kernel
theorem dX2_delete_8 : decode cX2_delete 8 = .ok (.return_, 1) := by decide +kernel
theorem dX2_delete_9 : decode cX2_delete 9 = .ok (.iload_n 1, 1) := by decide +kernel
theorem dX2_delete_10 : decode cX2_delete 10 = .ok (.istore_n 2, 1) := by decide +kernel
theorem dX2_delete_11 : decode cX2_delete 11 = .ok (.iload_n 2, 1) := by decide +kernel
theorem dX2_delete_12 : decode cX2_delete 12 = .ok (.iconst 1, 1) := by decide +kernel
theorem dX2_delete_13 : decode cX2_delete 13 = .ok (.iadd, 1) := by decide +kernel
theorem dX2_delete_14 : decode cX2_delete 14 = .ok (.aload_n 0, 1) := by decide +kernel
theorem dX2_delete_15 : decode cX2_delete 15 = .ok (.getfield 15, 3) := by decide +kernel
theorem dX2_delete_18 : decode cX2_delete 18 = .ok (.if_icmp .ge 23, 3) := by decide +kernel
theorem dX2_delete_21 : decode cX2_delete 21 = .ok (.aload_n 0, 1) := by decide +kernel
theorem dX2_delete_22 : decode cX2_delete 22 = .ok (.getfield 9, 3) := by decide +kernel
theorem dX2_delete_25 : decode cX2_delete 25 = .ok (.iload_n 2, 1) := by decide +kernel
theorem dX2_delete_26 : decode cX2_delete 26 = .ok (.aload_n 0, 1) := by decide +kernel
theorem dX2_delete_27 : decode cX2_delete 27 = .ok (.getfield 9, 3) := by decide +kernel
theorem dX2_delete_30 : decode cX2_delete 30 = .ok (.iload_n 2, 1) := by decide +kernel
theorem dX2_delete_31 : decode cX2_delete 31 = .ok (.iconst 1, 1) := by decide +kernel
theorem dX2_delete_32 : decode cX2_delete 32 = .ok (.iadd, 1) := by decide +kernel
theorem dX2_delete_33 : decode cX2_delete 33 = .ok (.iaload, 1) := by decide +kernel
theorem dX2_delete_34 : decode cX2_delete 34 = .ok (.iastore, 1) := by decide +kernel
theorem dX2_delete_35 : decode cX2_delete 35 = .ok (.iinc 2 1, 3) := by decide +kernel
theorem dX2_delete_38 : decode cX2_delete 38 = .ok (.goto (-27), 3) := by decide +kernel
theorem dX2_delete_41 : decode cX2_delete 41 = .ok (.aload_n 0, 1) := by decide +kernel
theorem dX2_delete_42 : decode cX2_delete 42 = .ok (.dup, 1) := by decide +kernel
theorem dX2_delete_43 : decode cX2_delete 43 = .ok (.getfield 15, 3) := by decide +kernel
theorem dX2_delete_46 : decode cX2_delete 46 = .ok (.iconst 1, 1) := by decide +kernel
theorem dX2_delete_47 : decode cX2_delete 47 = .ok (.isub, 1) := by decide +kernel
theorem dX2_delete_48 : decode cX2_delete 48 = .ok (.putfield 15, 3) := by decide +kernel
theorem dX2_delete_51 : decode cX2_delete 51 = .ok (.aload_n 0, 1) := by decide +kernel
theorem dX2_delete_52 : decode cX2_delete 52 = .ok (.getfield 19, 3) := by decide +kernel
theorem dX2_delete_55 : decode cX2_delete 55 = .ok (.iconst 1, 1) := by decide +kernel
theorem dX2_delete_56 : decode cX2_delete 56 = .ok (.iload_n 1, 1) := by decide +kernel
theorem dX2_delete_57 : decode cX2_delete 57 = .ok (.ishl, 1) := by decide +kernel
theorem dX2_delete_58 : decode cX2_delete 58 = .ok (.iconst 1, 1) := by decide +kernel
theorem dX2_delete_59 : decode cX2_delete 59 = .ok (.isub, 1) := by decide +kernel
theorem dX2_delete_60 : decode cX2_delete 60 = .ok (.iand, 1) := by decide +kernel
theorem dX2_delete_61 : decode cX2_delete 61 = .ok (.istore_n 2, 1) := by decide +kernel
theorem dX2_delete_62 : decode cX2_delete 62 = .ok (.aload_n 0, 1) := by decide +kernel
theorem dX2_delete_63 : decode cX2_delete 63 = .ok (.iload_n 2, 1) := by decide +kernel
theorem dX2_delete_64 : decode cX2_delete 64 = .ok (.aload_n 0, 1) := by decide +kernel
theorem dX2_delete_65 : decode cX2_delete 65 = .ok (.getfield 19, 3) := by decide +kernel
theorem dX2_delete_68 : decode cX2_delete 68 = .ok (.iload_n 1, 1) := by decide +kernel
theorem dX2_delete_69 : decode cX2_delete 69 = .ok (.iconst 1, 1) := by decide +kernel
theorem dX2_delete_70 : decode cX2_delete 70 = .ok (.iadd, 1) := by decide +kernel
theorem dX2_delete_71 : decode cX2_delete 71 = .ok (.ishr, 1) := by decide +kernel
theorem dX2_delete_72 : decode cX2_delete 72 = .ok (.iload_n 1, 1) := by decide +kernel
theorem dX2_delete_73 : decode cX2_delete 73 = .ok (.ishl, 1) := by decide +kernel
theorem dX2_delete_74 : decode cX2_delete 74 = .ok (.ior, 1) := by decide +kernel
theorem dX2_delete_75 : decode cX2_delete 75 = .ok (.putfield 19, 3) := by decide +kernel
theorem dX2_delete_78 : decode cX2_delete 78 = .ok (.return_, 1) := by decide +kernel
theorem dX2_empty_0 : decode cX2_empty 0 = .ok (.aload_n 0, 1) := by decide +kernel
theorem dX2_empty_1 : decode cX2_empty 1 = .ok (.iconst 0, 1) := by decide +kernel
theorem dX2_empty_2 : decode cX2_empty 2 = .ok (.putfield 15, 3) := by decide +kernel
theorem dX2_empty_5 : decode cX2_empty 5 = .ok (.aload_n 0, 1) := by decide +kernel
theorem dX2_empty_6 : decode cX2_empty 6 = .ok (.iconst 0, 1) := by decide +kernel
theorem dX2_empty_7 : decode cX2_empty 7 = .ok (.putfield 19, 3) := by decide +kernel
theorem dX2_empty_10 : decode cX2_empty 10 = .ok (.return_, 1) := by decide +kernel
theorem dX2_costOfSet_0 : decode cX2_costOfSet 0 = .ok (.iconst 0, 1) := by decide +kernel
theorem dX2_costOfSet_1 : decode cX2_costOfSet 1 = .ok (.istore_n 2, 1) := by decide +kernel
theorem dX2_costOfSet_2 : decode cX2_costOfSet 2 = .ok (.iconst 0, 1) := by decide +kernel
theorem dX2_costOfSet_3 : decode cX2_costOfSet 3 = .ok (.istore_n 3, 1) := by decide +kernel
theorem dX2_costOfSet_4 : decode cX2_costOfSet 4 = .ok (.iload_n 3, 1) := by decide +kernel
theorem dX2_costOfSet_5 : decode cX2_costOfSet 5 = .ok (.aload_n 0, 1) := by decide +kernel
theorem dX2_costOfSet_6 : decode cX2_costOfSet 6 = .ok (.getfield 15, 3) := by decide +kernel
theorem dX2_costOfSet_9 : decode cX2_costOfSet 9 = .ok (.if_icmp .ge 25, 3) := by decide +kernel
theorem dX2_costOfSet_12 : decode cX2_costOfSet 12 = .ok (.iload_n 1, 1) := by decide +kernel
theorem dX2_costOfSet_13 : decode cX2_costOfSet 13 = .ok (.iload_n 3, 1) := by decide +kernel
theorem dX2_costOfSet_14 : decode cX2_costOfSet 14 = .ok (.ishr, 1) := by decide +kernel
theorem dX2_costOfSet_15 : decode cX2_costOfSet 15 = .ok (.iconst 1, 1) := by decide +kernel
theorem dX2_costOfSet_16 : decode cX2_costOfSet 16 = .ok (.iand, 1) := by decide +kernel
theorem dX2_costOfSet_17 : decode cX2_costOfSet 17 = .ok (.ifCond .eq 11, 3) := by decide +kernel
theorem dX2_costOfSet_20 : decode cX2_costOfSet 20 = .ok (.iload_n 2, 1) := by decide +kernel
theorem dX2_costOfSet_21 : decode cX2_costOfSet 21 = .ok (.aload_n 0, 1) := by decide +kernel
theorem dX2_costOfSet_22 : decode cX2_costOfSet 22 = .ok (.iload_n 3, 1) := by decide +kernel
theorem dX2_costOfSet_23 : decode cX2_costOfSet 23 = .ok (.invokevirtual 40, 3) := by decide +kernel
theorem dX2_costOfSet_26 : decode cX2_costOfSet 26 = .ok (.iadd, 1) := by decide +kernel
theorem dX2_costOfSet_27 : decode cX2_costOfSet 27 = .ok (.istore_n 2, 1) := by decide +kernel
theorem dX2_costOfSet_28 : decode cX2_costOfSet 28 = .ok (.iinc 3 1, 3) := by decide +kernel
theorem dX2_costOfSet_31 : decode cX2_costOfSet 31 = .ok (.goto (-27), 3) := by decide +kernel
theorem dX2_costOfSet_34 : decode cX2_costOfSet 34 = .ok (.iload_n 2, 1) := by decide +kernel
theorem dX2_costOfSet_35 : decode cX2_costOfSet 35 = .ok (.ireturn, 1) := by decide +kernel
theorem dX2_sumOfLengths_0 : decode cX2_sumOfLengths 0 = .ok (.iconst 0, 1) := by decide +kernel
theorem dX2_sumOfLengths_1 : decode cX2_sumOfLengths 1 = .ok (.istore_n 1, 1) := by decide +kernel
theorem dX2_sumOfLengths_2 : decode cX2_sumOfLengths 2 = .ok (.iconst 0, 1) := by decide +kernel
theorem dX2_sumOfLengths_3 : decode cX2_sumOfLengths 3 = .ok (.istore_n 2, 1) := by decide +kernel
theorem dX2_sumOfLengths_4 : decode cX2_sumOfLengths 4 = .ok (.iload_n 2, 1) := by decide +kernel
theorem dX2_sumOfLengths_5 : decode cX2_sumOfLengths 5 = .ok (.aload_n 0, 1) := by decide +kernel
theorem dX2_sumOfLengths_6 : decode cX2_sumOfLengths 6 = .ok (.getfield 15, 3) := by decide +kernel
theorem dX2_sumOfLengths_9 : decode cX2_sumOfLengths 9 = .ok (.if_icmp .ge 17, 3) := by decide +kernel
theorem dX2_sumOfLengths_12 : decode cX2_sumOfLengths 12 = .ok (.iload_n 1, 1) := by decide +kernel
theorem dX2_sumOfLengths_13 : decode cX2_sumOfLengths 13 = .ok (.aload_n 0, 1) := by decide +kernel
theorem dX2_sumOfLengths_14 : decode cX2_sumOfLengths 14 = .ok (.iload_n 2, 1) := by decide +kernel
theorem dX2_sumOfLengths_15 : decode cX2_sumOfLengths 15 = .ok (.invokevirtual 44, 3) := by decide +kernel
theorem dX2_sumOfLengths_18 : decode cX2_sumOfLengths 18 = .ok (.iadd, 1) := by decide +kernel
theorem dX2_sumOfLengths_19 : decode cX2_sumOfLengths 19 = .ok (.istore_n 1, 1) := by decide +kernel
theorem dX2_sumOfLengths_20 : decode cX2_sumOfLengths 20 = .ok (.iinc 2 1, 3) := by decide +kernel
theorem dX2_sumOfLengths_23 : decode cX2_sumOfLengths 23 = .ok (.goto (-19), 3) := by decide +kernel
theorem dX2_sumOfLengths_26 : decode cX2_sumOfLengths 26 = .ok (.iload_n 1, 1) := by decide +kernel
theorem dX2_sumOfLengths_27 : decode cX2_sumOfLengths 27 = .ok (.ireturn, 1) := by decide +kernel
theorem dX2_costOfBorder_0 : decode cX2_costOfBorder 0 = .ok (.iconst 0, 1) := by decide +kernel
theorem dX2_costOfBorder_1 : decode cX2_costOfBorder 1 = .ok (.istore_n 2, 1) := by decide +kernel
theorem dX2_costOfBorder_2 : decode cX2_costOfBorder 2 = .ok (.iconst 0, 1) := by decide +kernel
theorem dX2_costOfBorder_3 : decode cX2_costOfBorder 3 = .ok (.istore_n 3, 1) := by decide +kernel
theorem dX2_costOfBorder_4 : decode cX2_costOfBorder 4 = .ok (.iload_n 3, 1) := by decide +kernel
theorem dX2_costOfBorder_5 : decode cX2_costOfBorder 5 = .ok (.aload_n 0, 1) := by decide +kernel
theorem dX2_costOfBorder_6 : decode cX2_costOfBorder 6 = .ok (.getfield 15, 3) := by decide +kernel
theorem dX2_costOfBorder_9 : decode cX2_costOfBorder 9 = .ok (.if_icmp .ge 54, 3) := by decide +kernel
theorem dX2_costOfBorder_12 : decode cX2_costOfBorder 12 = .ok (.iload_n 1, 1) := by decide +kernel
theorem dX2_costOfBorder_13 : decode cX2_costOfBorder 13 = .ok (.aload_n 0, 1) := by decide +kernel
theorem dX2_costOfBorder_14 : decode cX2_costOfBorder 14 = .ok (.iload_n 3, 1) := by decide +kernel
theorem dX2_costOfBorder_15 : decode cX2_costOfBorder 15 = .ok (.invokevirtual 47, 3) := by decide +kernel
theorem dX2_costOfBorder_18 : decode cX2_costOfBorder 18 = .ok (.ishr, 1) := by decide +kernel
theorem dX2_costOfBorder_19 : decode cX2_costOfBorder 19 = .ok (.iconst 1, 1) := by decide +kernel
theorem dX2_costOfBorder_20 : decode cX2_costOfBorder 20 = .ok (.iand, 1) := by decide +kernel
theorem dX2_costOfBorder_21 : decode cX2_costOfBorder 21 = .ok (.ifCond .eq 36, 3) := by decide +kernel
theorem dX2_costOfBorder_24 : decode cX2_costOfBorder 24 = .ok (.iload_n 1, 1) := by decide +kernel
theorem dX2_costOfBorder_25 : decode cX2_costOfBorder 25 = .ok (.aload_n 0, 1) := by decide +kernel
theorem dX2_costOfBorder_26 : decode cX2_costOfBorder 26 = .ok (.iload_n 3, 1) := by decide +kernel
theorem dX2_costOfBorder_27 : decode cX2_costOfBorder 27 = .ok (.invokevirtual 50, 3) := by decide +kernel
theorem dX2_costOfBorder_30 : decode cX2_costOfBorder 30 = .ok (.ishr, 1) := by decide +kernel
theorem dX2_costOfBorder_31 : decode cX2_costOfBorder 31 = .ok (.iconst 1, 1) := by decide +kernel
theorem dX2_costOfBorder_32 : decode cX2_costOfBorder 32 = .ok (.iand, 1) := by decide +kernel
theorem dX2_costOfBorder_33 : decode cX2_costOfBorder 33 = .ok (.ifCond .ne 24, 3) := by decide +kernel
theorem dX2_costOfBorder_36 : decode cX2_costOfBorder 36 = .ok (.aload_n 0, 1) := by decide +kernel
theorem dX2_costOfBorder_37 : decode cX2_costOfBorder 37 = .ok (.iload_n 3, 1) := by decide +kernel
theorem dX2_costOfBorder_38 : decode cX2_costOfBorder 38 = .ok (.iconst 3, 1) := by decide +kernel
theorem dX2_costOfBorder_39 : decode cX2_costOfBorder 39 = .ok (.invokevirtual 53, 3) := by decide +kernel
theorem dX2_costOfBorder_42 : decode cX2_costOfBorder 42 = .ok (.bipush 100, 2) := by decide +kernel
theorem dX2_costOfBorder_44 : decode cX2_costOfBorder 44 = .ok (.if_icmp .eq 5, 3) := by decide +kernel
theorem dX2_costOfBorder_47 : decode cX2_costOfBorder 47 = .ok (.iconst (-1), 1) := by decide +kernel
theorem dX2_costOfBorder_48 : decode cX2_costOfBorder 48 = .ok (.ireturn, 1) := by decide +kernel
theorem dX2_costOfBorder_49 : decode cX2_costOfBorder 49 = .ok (.iload_n 2, 1) := by decide +kernel
theorem dX2_costOfBorder_50 : decode cX2_costOfBorder 50 = .ok (.aload_n 0, 1) := by decide +kernel
theorem dX2_costOfBorder_51 : decode cX2_costOfBorder 51 = .ok (.iload_n 3, 1) := by decide +kernel
theorem dX2_costOfBorder_52 : decode cX2_costOfBorder 52 = .ok (.invokevirtual 40, 3) := by decide +kernel
theorem dX2_costOfBorder_55 : decode cX2_costOfBorder 55 = .ok (.iadd, 1) := by decide +kernel
theorem dX2_costOfBorder_56 : decode cX2_costOfBorder 56 = .ok (.istore_n 2, 1) := by decide +kernel
theorem dX2_costOfBorder_57 : decode cX2_costOfBorder 57 = .ok (.iinc 3 1, 3) := by decide +kernel
theorem dX2_costOfBorder_60 : decode cX2_costOfBorder 60 = .ok (.goto (-56), 3) := by decide +kernel
theorem dX2_costOfBorder_63 : decode cX2_costOfBorder 63 = .ok (.iload_n 2, 1) := by decide +kernel
theorem dX2_costOfBorder_64 : decode cX2_costOfBorder 64 = .ok (.ireturn, 1) := by decide +kernel
theorem dX2_copyTo_0 : decode cX2_copyTo 0 = .ok (.iload_n 2, 1) := by decide +kernel
theorem dX2_copyTo_1 : decode cX2_copyTo 1 = .ok (.ifCond .lt 46, 3) := by decide +kernel
theorem dX2_copyTo_4 : decode cX2_copyTo 4 = .ok (.iload_n 2, 1) := by decide +kernel
theorem dX2_copyTo_5 : decode cX2_copyTo 5 = .ok (.aload_n 1, 1) := by decide +kernel
theorem dX2_copyTo_6 : decode cX2_copyTo 6 = .ok (.arraylength, 1) := by decide +kernel
theorem dX2_copyTo_7 : decode cX2_copyTo 7 = .ok (.bipush 18, 2) := by decide +kernel
theorem dX2_copyTo_9 : decode cX2_copyTo 9 = .ok (.isub, 1) := by decide +kernel
theorem dX2_copyTo_10 : decode cX2_copyTo 10 = .ok (.if_icmp .gt 37, 3) := by decide +kernel
theorem dX2_copyTo_13 : decode cX2_copyTo 13 = .ok (.aload_n 0, 1) := by decide +kernel
theorem dX2_copyTo_14 : decode cX2_copyTo 14 = .ok (.getfield 9, 3) := by decide +kernel
theorem dX2_copyTo_17 : decode cX2_copyTo 17 = .ok (.iconst 0, 1) := by decide +kernel
theorem dX2_copyTo_18 : decode cX2_copyTo 18 = .ok (.aload_n 1, 1) := by decide +kernel
theorem dX2_copyTo_19 : decode cX2_copyTo 19 = .ok (.iload_n 2, 1) := by decide +kernel
theorem dX2_copyTo_20 : decode cX2_copyTo 20 = .ok (.bipush 16, 2) := by decide +kernel
theorem dX2_copyTo_22 : decode cX2_copyTo 22 = .ok (.invokestatic 57, 3) := by decide +kernel
theorem dX2_copyTo_25 : decode cX2_copyTo 25 = .ok (.aload_n 1, 1) := by decide +kernel
theorem dX2_copyTo_26 : decode cX2_copyTo 26 = .ok (.iload_n 2, 1) := by decide +kernel
theorem dX2_copyTo_27 : decode cX2_copyTo 27 = .ok (.bipush 16, 2) := by decide +kernel
theorem dX2_copyTo_29 : decode cX2_copyTo 29 = .ok (.iadd, 1) := by decide +kernel
theorem dX2_copyTo_30 : decode cX2_copyTo 30 = .ok (.aload_n 0, 1) := by decide +kernel
theorem dX2_copyTo_31 : decode cX2_copyTo 31 = .ok (.getfield 15, 3) := by decide +kernel
theorem dX2_copyTo_34 : decode cX2_copyTo 34 = .ok (.iastore, 1) := by decide +kernel
theorem dX2_copyTo_35 : decode cX2_copyTo 35 = .ok (.aload_n 1, 1) := by decide +kernel
theorem dX2_copyTo_36 : decode cX2_copyTo 36 = .ok (.iload_n 2, 1) := by decide +kernel
theorem dX2_copyTo_37 : decode cX2_copyTo 37 = .ok (.bipush 16, 2) := by decide +kernel
theorem dX2_copyTo_39 : decode cX2_copyTo 39 = .ok (.iadd, 1) := by decide +kernel
theorem dX2_copyTo_40 : decode cX2_copyTo 40 = .ok (.iconst 1, 1) := by decide +kernel
theorem dX2_copyTo_41 : decode cX2_copyTo 41 = .ok (.iadd, 1) := by decide +kernel
theorem dX2_copyTo_42 : decode cX2_copyTo 42 = .ok (.aload_n 0, 1) := by decide +kernel
theorem dX2_copyTo_43 : decode cX2_copyTo 43 = .ok (.getfield 19, 3) := by decide +kernel
theorem dX2_copyTo_46 : decode cX2_copyTo 46 = .ok (.iastore, 1) := by decide +kernel
theorem dX2_copyTo_47 : decode cX2_copyTo 47 = .ok (.return_, 1) := by decide +kernel
end
section
/-! decode rows -/
theorem dX2_copyFrom_0 : decode cX2_copyFrom 0 = .ok (.iload_n 2, 1) := by decide +kernel
theorem dX2_copyFrom_1 : decode cX2_copyFrom 1 = .ok (.ifCond .lt 46, 3) := by decide +kernel
theorem dX2_copyFrom_4 : decode cX2_copyFrom 4 = .ok (.iload_n 2, 1) := by decide +kernel
theorem dX2_copyFrom_5 : decode cX2_copyFrom 5 = .ok (.aload_n 1, 1) := by decide +kernel
theorem dX2_copyFrom_6 : decode cX2_copyFrom 6 = .ok (.arraylength, 1) := by decide +kernel
theorem dX2_copyFrom_7 : decode cX2_copyFrom 7 = .ok (.bipush 18, 2) := by decide +kernel
theorem dX2_copyFrom_9 : decode cX2_copyFrom 9 = .ok (.isub, 1) := by decide +kernel
theorem dX2_copyFrom_10 : decode cX2_copyFrom 10 = .ok (.if_icmp .gt 37, 3) := by decide +kernel
theorem dX2_copyFrom_13 : decode cX2_copyFrom 13 = .ok (.aload_n 1, 1) := by decide +kernel
theorem dX2_copyFrom_14 : decode cX2_copyFrom 14 = .ok (.iload_n 2, 1) := by decide +kernel
theorem dX2_copyFrom_15 : decode cX2_copyFrom 15 = .ok (.aload_n 0, 1) := by decide +kernel
theorem dX2_copyFrom_16 : decode cX2_copyFrom 16 = .ok (.getfield 9, 3) := by decide +kernel
theorem dX2_copyFrom_19 : decode cX2_copyFrom 19 = .ok (.iconst 0, 1) := by decide +kernel
theorem dX2_copyFrom_20 : decode cX2_copyFrom 20 = .ok (.bipush 16, 2) := by decide +kernel
theorem dX2_copyFrom_22 : decode cX2_copyFrom 22 = .ok (.invokestatic 57, 3) := by decide +kernel
theorem dX2_copyFrom_25 : decode cX2_copyFrom 25 = .ok (.aload_n 0, 1) := by decide +kernel
theorem dX2_copyFrom_26 : decode cX2_copyFrom 26 = .ok (.aload_n 1, 1) := by decide +kernel
theorem dX2_copyFrom_27 : decode cX2_copyFrom 27 = .ok (.iload_n 2, 1) := by decide +kernel
theorem dX2_copyFrom_28 : decode cX2_copyFrom 28 = .ok (.bipush 16, 2) := by decide +kernel
theorem dX2_copyFrom_30 : decode cX2_copyFrom 30 = .ok (.iadd, 1) := by decide +kernel
theorem dX2_copyFrom_31 : decode cX2_copyFrom 31 = .ok (.iaload, 1) := by decide +kernel
theorem dX2_copyFrom_32 : decode cX2_copyFrom 32 = .ok (.putfield 15, 3) := by decide +kernel
theorem dX2_copyFrom_35 : decode cX2_copyFrom 35 = .ok (.aload_n 0, 1) := by decide +kernel
theorem dX2_copyFrom_36 : decode cX2_copyFrom 36 = .ok (.aload_n 1, 1) := by decide +kernel
theorem dX2_copyFrom_37 : decode cX2_copyFrom 37 = .ok (.iload_n 2, 1) := by decide +kernel
theorem dX2_copyFrom_38 : decode cX2_copyFrom 38 = .ok (.bipush 16, 2) := by decide +kernel
theorem dX2_copyFrom_40 : decode cX2_copyFrom 40 = .ok (.iadd, 1) := by decide +kernel
theorem dX2_copyFrom_41 : decode cX2_copyFrom 41 = .ok (.iconst 1, 1) := by decide +kernel
theorem dX2_copyFrom_42 : decode cX2_copyFrom 42 = .ok (.iadd, 1) := by decide +kernel
theorem dX2_copyFrom_43 : decode cX2_copyFrom 43 = .ok (.iaload, 1) := by decide +kernel
theorem dX2_copyFrom_44 : decode cX2_copyFrom 44 = .ok (.putfield 19, 3) := by decide +kernel
theorem dX2_copyFrom_47 : decode cX2_copyFrom 47 = .ok (.return_, 1) := by decide +kernel
theorem dX3_init_0 : decode cX3_init 0 = .ok (.aload_n 0, 1) := by decide +kernel
theorem dX3_init_1 : decode cX3_init 1 = .ok (.invokespecial 3, 3) := by decide +kernel
theorem dX3_init_4 : decode cX3_init 4 = .ok (.aload_n 0, 1) := by decide +kernel
theorem dX3_init_5 : decode cX3_init 5 = .ok (.iconst 0, 1) := by decide +kernel
theorem dX3_init_6 : decode cX3_init 6 = .ok (.putfield 9, 3) := by decide +kernel
theorem dX3_init_9 : decode cX3_init 9 = .ok (.aload_n 0, 1) := by decide +kernel
theorem dX3_init_10 : decode cX3_init 10 = .ok (.aload_n 1, 1) := by decide +kernel
theorem dX3_init_11 : decode cX3_init 11 = .ok (.putfield 15, 3) := by decide +kernel
theorem dX3_init_14 : decode cX3_init 14 = .ok (.aload_n 0, 1) := by decide +kernel
theorem dX3_init_15 : decode cX3_init 15 = .ok (.aload_n 2, 1) := by decide +kernel
theorem dX3_init_16 : decode cX3_init 16 = .ok (.putfield 19, 3) := by decide +kernel
theorem dX3_init_19 : decode cX3_init 19 = .ok (.return_, 1) := by decide +kernel
theorem dX3_seek_0 : decode cX3_seek 0 = .ok (.aload_n 0, 1) := by decide +kernel
theorem dX3_seek_1 : decode cX3_seek 1 = .ok (.iconst 0, 1) := by decide +kernel
theorem dX3_seek_2 : decode cX3_seek 2 = .ok (.putfield 9, 3) := by decide +kernel
theorem dX3_seek_5 : decode cX3_seek 5 = .ok (.iload_n 3, 1) := by decide +kernel
theorem dX3_seek_6 : decode cX3_seek 6 = .ok (.istore 4, 2) := by decide +kernel
theorem dX3_seek_8 : decode cX3_seek 8 = .ok (.aload_n 0, 1) := by decide +kernel
theorem dX3_seek_9 : decode cX3_seek 9 = .ok (.getfield 19, 3) := by decide +kernel
theorem dX3_seek_12 : decode cX3_seek 12 = .ok (.iload_n 1, 1) := by decide +kernel
theorem dX3_seek_13 : decode cX3_seek 13 = .ok (.iload_n 2, 1) := by decide +kernel
theorem dX3_seek_14 : decode cX3_seek 14 = .ok (.iconst 0, 1) := by decide +kernel
theorem dX3_seek_15 : decode cX3_seek 15 = .ok (.iconst 0, 1) := by decide +kernel
theorem dX3_seek_16 : decode cX3_seek 16 = .ok (.invokevirtual 23, 3) := by decide +kernel
theorem dX3_seek_19 : decode cX3_seek 19 = .ok (.istore 5, 2) := by decide +kernel
theorem dX3_seek_21 : decode cX3_seek 21 = .ok (.iconst 0, 1) := by decide +kernel
theorem dX3_seek_22 : decode cX3_seek 22 = .ok (.istore 6, 2) := by decide +kernel
theorem dX3_seek_24 : decode cX3_seek 24 = .ok (.iload 6, 2) := by decide +kernel
theorem dX3_seek_26 : decode cX3_seek 26 = .ok (.bipush 16, 2) := by decide +kernel
theorem dX3_seek_28 : decode cX3_seek 28 = .ok (.if_icmp .ge 173, 3) := by decide +kernel
theorem dX3_seek_31 : decode cX3_seek 31 = .ok (.iconst (-1), 1) := by decide +kernel
theorem dX3_seek_32 : decode cX3_seek 32 = .ok (.istore 7, 2) := by decide +kernel
theorem dX3_seek_34 : decode cX3_seek 34 = .ok (.iload 5, 2) := by decide +kernel
theorem dX3_seek_36 : decode cX3_seek 36 = .ok (.istore 8, 2) := by decide +kernel
theorem dX3_seek_38 : decode cX3_seek 38 = .ok (.iconst 0, 1) := by decide +kernel
theorem dX3_seek_39 : decode cX3_seek 39 = .ok (.istore 9, 2) := by decide +kernel
theorem dX3_seek_41 : decode cX3_seek 41 = .ok (.iload 9, 2) := by decide +kernel
theorem dX3_seek_43 : decode cX3_seek 43 = .ok (.aload_n 0, 1) := by decide +kernel
theorem dX3_seek_44 : decode cX3_seek 44 = .ok (.getfield 15, 3) := by decide +kernel
theorem dX3_seek_47 : decode cX3_seek 47 = .ok (.getfield 29, 3) := by decide +kernel
theorem dX3_seek_50 : decode cX3_seek 50 = .ok (.if_icmp .ge 105, 3) := by decide +kernel
theorem dX3_seek_53 : decode cX3_seek 53 = .ok (.aload_n 0, 1) := by decide +kernel
theorem dX3_seek_54 : decode cX3_seek 54 = .ok (.getfield 9, 3) := by decide +kernel
theorem dX3_seek_57 : decode cX3_seek 57 = .ok (.iload 9, 2) := by decide +kernel
theorem dX3_seek_59 : decode cX3_seek 59 = .ok (.ishr, 1) := by decide +kernel
theorem dX3_seek_60 : decode cX3_seek 60 = .ok (.iconst 1, 1) := by decide +kernel
theorem dX3_seek_61 : decode cX3_seek 61 = .ok (.iand, 1) := by decide +kernel
theorem dX3_seek_62 : decode cX3_seek 62 = .ok (.ifCond .ne 87, 3) := by decide +kernel
theorem dX3_seek_65 : decode cX3_seek 65 = .ok (.aload_n 0, 1) := by decide +kernel
theorem dX3_seek_66 : decode cX3_seek 66 = .ok (.getfield 15, 3) := by decide +kernel
theorem dX3_seek_69 : decode cX3_seek 69 = .ok (.iload 9, 2) := by decide +kernel
theorem dX3_seek_71 : decode cX3_seek 71 = .ok (.invokevirtual 34, 3) := by decide +kernel
theorem dX3_seek_74 : decode cX3_seek 74 = .ok (.iload 4, 2) := by decide +kernel
theorem dX3_seek_76 : decode cX3_seek 76 = .ok (.if_icmp .gt 73, 3) := by decide +kernel
theorem dX3_seek_79 : decode cX3_seek 79 = .ok (.aload_n 0, 1) := by decide +kernel
theorem dX3_seek_80 : decode cX3_seek 80 = .ok (.getfield 19, 3) := by decide +kernel
theorem dX3_seek_83 : decode cX3_seek 83 = .ok (.iload_n 1, 1) := by decide +kernel
theorem dX3_seek_84 : decode cX3_seek 84 = .ok (.iload_n 2, 1) := by decide +kernel
theorem dX3_seek_85 : decode cX3_seek 85 = .ok (.aload_n 0, 1) := by decide +kernel
theorem dX3_seek_86 : decode cX3_seek 86 = .ok (.getfield 9, 3) := by decide +kernel
theorem dX3_seek_89 : decode cX3_seek 89 = .ok (.iconst 1, 1) := by decide +kernel
theorem dX3_seek_90 : decode cX3_seek 90 = .ok (.iload 9, 2) := by decide +kernel
theorem dX3_seek_92 : decode cX3_seek 92 = .ok (.ishl, 1) := by decide +kernel
theorem dX3_seek_93 : decode cX3_seek 93 = .ok (.ior, 1) := by decide +kernel
theorem dX3_seek_94 : decode cX3_seek 94 = .ok (.iconst 0, 1) := by decide +kernel
theorem dX3_seek_95 : decode cX3_seek 95 = .ok (.invokevirtual 23, 3) := by decide +kernel
theorem dX3_seek_98 : decode cX3_seek 98 = .ok (.istore 10, 2) := by decide +kernel
theorem dX3_seek_100 : decode cX3_seek 100 = .ok (.iload 10, 2) := by decide +kernel
theorem dX3_seek_102 : decode cX3_seek 102 = .ok (.iload 8, 2) := by decide +kernel
theorem dX3_seek_104 : decode cX3_seek 104 = .ok (.if_icmp .gt 37, 3) := by decide +kernel
theorem dX3_seek_107 : decode cX3_seek 107 = .ok (.iload 7, 2) := by decide +kernel
theorem dX3_seek_109 : decode cX3_seek 109 = .ok (.iconst (-1), 1) := by decide +kernel
theorem dX3_seek_110 : decode cX3_seek 110 = .ok (.if_icmp .eq 39, 3) := by decide +kernel
theorem dX3_seek_113 : decode cX3_seek 113 = .ok (.iload 10, 2) := by decide +kernel
theorem dX3_seek_115 : decode cX3_seek 115 = .ok (.iload 8, 2) := by decide +kernel
theorem dX3_seek_117 : decode cX3_seek 117 = .ok (.if_icmp .ne 32, 3) := by decide +kernel
theorem dX3_seek_120 : decode cX3_seek 120 = .ok (.aload_n 0, 1) := by decide +kernel
theorem dX3_seek_121 : decode cX3_seek 121 = .ok (.getfield 15, 3) := by decide +kernel
theorem dX3_seek_124 : decode cX3_seek 124 = .ok (.iload 9, 2) := by decide +kernel
theorem dX3_seek_126 : decode cX3_seek 126 = .ok (.invokevirtual 34, 3) := by decide +kernel
theorem dX3_seek_129 : decode cX3_seek 129 = .ok (.aload_n 0, 1) := by decide +kernel
theorem dX3_seek_130 : decode cX3_seek 130 = .ok (.getfield 15, 3) := by decide +kernel
theorem dX3_seek_133 : decode cX3_seek 133 = .ok (.iload 7, 2) := by decide +kernel
theorem dX3_seek_135 : decode cX3_seek 135 = .ok (.invokevirtual 34, 3) := by decide +kernel
theorem dX3_seek_138 : decode cX3_seek 138 = .ok (.if_icmp .ge 11, 3) := by decide +kernel
theorem dX3_seek_141 : decode cX3_seek 141 = .ok (.iload 9, 2) := by decide +kernel
theorem dX3_seek_143 : decode cX3_seek 143 = .ok (.istore 7, 2) := by decide +kernel
theorem dX3_seek_145 : decode cX3_seek 145 = .ok (.iload 10, 2) := by decide +kernel
theorem dX3_seek_147 : decode cX3_seek 147 = .ok (.istore 8, 2) := by decide +kernel
theorem dX3_seek_149 : decode cX3_seek 149 = .ok (.iinc 9 1, 3) := by decide +kernel
theorem dX3_seek_152 : decode cX3_seek 152 = .ok (.goto (-111), 3) := by decide +kernel
theorem dX3_seek_155 : decode cX3_seek 155 = .ok (.iload 7, 2) := by decide +kernel
theorem dX3_seek_157 : decode cX3_seek 157 = .ok (.iconst (-1), 1) := by decide +kernel
theorem dX3_seek_158 : decode cX3_seek 158 = .ok (.if_icmp .ne 6, 3) := by decide +kernel
theorem dX3_seek_161 : decode cX3_seek 161 = .ok (.goto 40, 3) := by decide +kernel
theorem dX3_seek_164 : decode cX3_seek 164 = .ok (.aload_n 0, 1) := by decide +kernel
theorem dX3_seek_165 : decode cX3_seek 165 = .ok (.dup, 1) := by decide +kernel
theorem dX3_seek_166 : decode cX3_seek 166 = .ok (.getfield 9, 3) := by decide +kernel
theorem dX3_seek_169 : decode cX3_seek 169 = .ok (.iconst 1, 1) := by decide +kernel
theorem dX3_seek_170 : decode cX3_seek 170 = .ok (.iload 7, 2) := by decide +kernel
theorem dX3_seek_172 : decode cX3_seek 172 = .ok (.ishl, 1) := by decide +kernel
theorem dX3_seek_173 : decode cX3_seek 173 = .ok (.ior, 1) := by decide +kernel
theorem dX3_seek_174 : decode cX3_seek 174 = .ok (.putfield 9, 3) := by decide +kernel
theorem dX3_seek_177 : decode cX3_seek 177 = .ok (.iload 4, 2) := by decide +kernel
theorem dX3_seek_179 : decode cX3_seek 179 = .ok (.aload_n 0, 1) := by decide +kernel
theorem dX3_seek_180 : decode cX3_seek 180 = .ok (.getfield 15, 3) := by decide +kernel
theorem dX3_seek_183 : decode cX3_seek 183 = .ok (.iload 7, 2) := by decide +kernel
theorem dX3_seek_185 : decode cX3_seek 185 = .ok (.invokevirtual 34, 3) := by decide +kernel
theorem dX3_seek_188 : decode cX3_seek 188 = .ok (.isub, 1) := by decide +kernel
theorem dX3_seek_189 : decode cX3_seek 189 = .ok (.istore 4, 2) := by decide +kernel
theorem dX3_seek_191 : decode cX3_seek 191 = .ok (.iload 8, 2) := by decide +kernel
theorem dX3_seek_193 : decode cX3_seek 193 = .ok (.istore 5, 2) := by decide +kernel
theorem dX3_seek_195 : decode cX3_seek 195 = .ok (.iinc 6 1, 3) := by decide +kernel
theorem dX3_seek_198 : decode cX3_seek 198 = .ok (.goto (-174), 3) := by decide +kernel
theorem dX3_seek_201 : decode cX3_seek 201 = .ok (.iload 5, 2) := by decide +kernel
theorem dX3_seek_203 : decode cX3_seek 203 = .ok (.ireturn, 1) := by decide +kernel
theorem dX4_init_0 : decode cX4_init 0 = .ok (.aload_n 0, 1) := by decide +kernel
theorem dX4_init_1 : decode cX4_init 1 = .ok (.invokespecial 3, 3) := by decide +kernel
theorem dX4_init_4 : decode cX4_init 4 = .ok (.aload_n 0, 1) := by decide +kernel
theorem dX4_init_5 : decode cX4_init 5 = .ok (.sipush 216, 3) := by decide +kernel
theorem dX4_init_8 : decode cX4_init 8 = .ok (.newarray .int, 2) := by decide +kernel
theorem dX4_init_10 : decode cX4_init 10 = .ok (.putfield 11, 3) := by decide +kernel
theorem dX4_init_13 : decode cX4_init 13 = .ok (.aload_n 0, 1) := by decide +kernel
theorem dX4_init_14 : decode cX4_init 14 = .ok (.iconst 0, 1) := by decide +kernel
theorem dX4_init_15 : decode cX4_init 15 = .ok (.putfield 17, 3) := by decide +kernel
theorem dX4_init_18 : decode cX4_init 18 = .ok (.aload_n 0, 1) := by decide +kernel
theorem dX4_init_19 : decode cX4_init 19 = .ok (.iconst 0, 1) := by decide +kernel
theorem dX4_init_20 : decode cX4_init 20 = .ok (.putfield 21, 3) := by decide +kernel
theorem dX4_init_23 : decode cX4_init 23 = .ok (.return_, 1) := by decide +kernel
theorem dX4_keep_0 : decode cX4_keep 0 = .ok (.aload_n 0, 1) := by decide +kernel
theorem dX4_keep_1 : decode cX4_keep 1 = .ok (.getfield 21, 3) := by decide +kernel
theorem dX4_keep_4 : decode cX4_keep 4 = .ok (.bipush 12, 2) := by decide +kernel
theorem dX4_keep_6 : decode cX4_keep 6 = .ok (.if_icmp .ne 26, 3) := by decide +kernel
theorem dX4_keep_9 : decode cX4_keep 9 = .ok (.aload_n 0, 1) := by decide +kernel
theorem dX4_keep_10 : decode cX4_keep 10 = .ok (.aload_n 0, 1) := by decide +kernel
theorem dX4_keep_11 : decode cX4_keep 11 = .ok (.getfield 17, 3) := by decide +kernel
theorem dX4_keep_14 : decode cX4_keep 14 = .ok (.iconst 1, 1) := by decide +kernel
theorem dX4_keep_15 : decode cX4_keep 15 = .ok (.iadd, 1) := by decide +kernel
theorem dX4_keep_16 : decode cX4_keep 16 = .ok (.bipush 12, 2) := by decide +kernel
theorem dX4_keep_18 : decode cX4_keep 18 = .ok (.irem, 1) := by decide +kernel
theorem dX4_keep_19 : decode cX4_keep 19 = .ok (.putfield 17, 3) := by decide +kernel
theorem dX4_keep_22 : decode cX4_keep 22 = .ok (.aload_n 0, 1) := by decide +kernel
theorem dX4_keep_23 : decode cX4_keep 23 = .ok (.dup, 1) := by decide +kernel
theorem dX4_keep_24 : decode cX4_keep 24 = .ok (.getfield 21, 3) := by decide +kernel
theorem dX4_keep_27 : decode cX4_keep 27 = .ok (.iconst 1, 1) := by decide +kernel
theorem dX4_keep_28 : decode cX4_keep 28 = .ok (.isub, 1) := by decide +kernel
theorem dX4_keep_29 : decode cX4_keep 29 = .ok (.putfield 21, 3) := by decide +kernel
theorem dX4_keep_32 : decode cX4_keep 32 = .ok (.aload_n 1, 1) := by decide +kernel
theorem dX4_keep_33 : decode cX4_keep 33 = .ok (.aload_n 0, 1) := by decide +kernel
theorem dX4_keep_34 : decode cX4_keep 34 = .ok (.getfield 11, 3) := by decide +kernel
theorem dX4_keep_37 : decode cX4_keep 37 = .ok (.aload_n 0, 1) := by decide +kernel
theorem dX4_keep_38 : decode cX4_keep 38 = .ok (.getfield 17, 3) := by decide +kernel
theorem dX4_keep_41 : decode cX4_keep 41 = .ok (.aload_n 0, 1) := by decide +kernel
theorem dX4_keep_42 : decode cX4_keep 42 = .ok (.getfield 21, 3) := by decide +kernel
theorem dX4_keep_45 : decode cX4_keep 45 = .ok (.iadd, 1) := by decide +kernel
theorem dX4_keep_46 : decode cX4_keep 46 = .ok (.bipush 12, 2) := by decide +kernel
theorem dX4_keep_48 : decode cX4_keep 48 = .ok (.irem, 1) := by decide +kernel
theorem dX4_keep_49 : decode cX4_keep 49 = .ok (.bipush 18, 2) := by decide +kernel
theorem dX4_keep_51 : decode cX4_keep 51 = .ok (.imul, 1) := by decide +kernel
theorem dX4_keep_52 : decode cX4_keep 52 = .ok (.invokevirtual 24, 3) := by decide +kernel
theorem dX4_keep_55 : decode cX4_keep 55 = .ok (.aload_n 0, 1) := by decide +kernel
theorem dX4_keep_56 : decode cX4_keep 56 = .ok (.dup, 1) := by decide +kernel
theorem dX4_keep_57 : decode cX4_keep 57 = .ok (.getfield 21, 3) := by decide +kernel
theorem dX4_keep_60 : decode cX4_keep 60 = .ok (.iconst 1, 1) := by decide +kernel
theorem dX4_keep_61 : decode cX4_keep 61 = .ok (.iadd, 1) := by decide +kernel
theorem dX4_keep_62 : decode cX4_keep 62 = .ok (.putfield 21, 3) := by decide +kernel
theorem dX4_keep_65 : decode cX4_keep 65 = .ok (.return_, 1) := by decide +kernel
theorem dX4_bringBack_0 : decode cX4_bringBack 0 = .ok (.aload_n 0, 1) := by decide +kernel
theorem dX4_bringBack_1 : decode cX4_bringBack 1 = .ok (.getfield 21, 3) := by decide +kernel
theorem dX4_bringBack_4 : decode cX4_bringBack 4 = .ok (.ifCond .ne 5, 3) := by decide +kernel
theorem dX4_bringBack_7 : decode cX4_bringBack 7 = .ok (.iconst 0, 1) := by decide +kernel
theorem dX4_bringBack_8 : decode cX4_bringBack 8 = .ok (.ireturn, 1) := by decide +kernel
theorem dX4_bringBack_9 : decode cX4_bringBack 9 = .ok (.aload_n 0, 1) := by decide +kernel
theorem dX4_bringBack_10 : decode cX4_bringBack 10 = .ok (.dup, 1) := by decide +kernel
theorem dX4_bringBack_11 : decode cX4_bringBack 11 = .ok (.getfield 21, 3) := by decide +kernel
theorem dX4_bringBack_14 : decode cX4_bringBack 14 = .ok (.iconst 1, 1) := by decide +kernel
theorem dX4_bringBack_15 : decode cX4_bringBack 15 = .ok (.isub, 1) := by decide +kernel
theorem dX4_bringBack_16 : decode cX4_bringBack 16 = .ok (.putfield 21, 3) := by decide +kernel
theorem dX4_bringBack_19 : decode cX4_bringBack 19 = .ok (.aload_n 1, 1) := by decide +kernel
theorem dX4_bringBack_20 : decode cX4_bringBack 20 = .ok (.aload_n 0, 1) := by decide +kernel
theorem dX4_bringBack_21 : decode cX4_bringBack 21 = .ok (.getfield 11, 3) := by decide +kernel
theorem dX4_bringBack_24 : decode cX4_bringBack 24 = .ok (.aload_n 0, 1) := by decide +kernel
theorem dX4_bringBack_25 : decode cX4_bringBack 25 = .ok (.getfield 17, 3) := by decide +kernel
theorem dX4_bringBack_28 : decode cX4_bringBack 28 = .ok (.aload_n 0, 1) := by decide +kernel
theorem dX4_bringBack_29 : decode cX4_bringBack 29 = .ok (.getfield 21, 3) := by decide +kernel
theorem dX4_bringBack_32 : decode cX4_bringBack 32 = .ok (.iadd, 1) := by decide +kernel
theorem dX4_bringBack_33 : decode cX4_bringBack 33 = .ok (.bipush 12, 2) := by decide +kernel
theorem dX4_bringBack_35 : decode cX4_bringBack 35 = .ok (.irem, 1) := by decide +kernel
theorem dX4_bringBack_36 : decode cX4_bringBack 36 = .ok (.bipush 18, 2) := by decide +kernel
theorem dX4_bringBack_38 : decode cX4_bringBack 38 = .ok (.imul, 1) := by decide +kernel
theorem dX4_bringBack_39 : decode cX4_bringBack 39 = .ok (.invokevirtual 28, 3) := by decide +kernel
theorem dX4_bringBack_42 : decode cX4_bringBack 42 = .ok (.iconst 1, 1) := by decide +kernel
theorem dX4_bringBack_43 : decode cX4_bringBack 43 = .ok (.ireturn, 1) := by decide +kernel
theorem dX5_init_0 : decode cX5_init 0 = .ok (.aload_n 0, 1) := by decide +kernel
theorem dX5_init_1 : decode cX5_init 1 = .ok (.invokespecial 3, 3) := by decide +kernel
theorem dX5_init_4 : decode cX5_init 4 = .ok (.aload_n 0, 1) := by decide +kernel
theorem dX5_init_5 : decode cX5_init 5 = .ok (.bipush 16, 2) := by decide +kernel
theorem dX5_init_7 : decode cX5_init 7 = .ok (.newarray .int, 2) := by decide +kernel
theorem dX5_init_9 : decode cX5_init 9 = .ok (.putfield 9, 3) := by decide +kernel
theorem dX5_init_12 : decode cX5_init 12 = .ok (.aload_n 0, 1) := by decide +kernel
theorem dX5_init_13 : decode cX5_init 13 = .ok (.bipush 8, 2) := by decide +kernel
theorem dX5_init_15 : decode cX5_init 15 = .ok (.newarray .int, 2) := by decide +kernel
theorem dX5_init_17 : decode cX5_init 17 = .ok (.putfield 15, 3) := by decide +kernel
theorem dX5_init_20 : decode cX5_init 20 = .ok (.aload_n 0, 1) := by decide +kernel
theorem dX5_init_21 : decode cX5_init 21 = .ok (.bipush 8, 2) := by decide +kernel
theorem dX5_init_23 : decode cX5_init 23 = .ok (.newarray .int, 2) := by decide +kernel
theorem dX5_init_25 : decode cX5_init 25 = .ok (.putfield 18, 3) := by decide +kernel
theorem dX5_init_28 : decode cX5_init 28 = .ok (.aload_n 0, 1) := by decide +kernel
theorem dX5_init_29 : decode cX5_init 29 = .ok (.bipush 8, 2) := by decide +kernel
theorem dX5_init_31 : decode cX5_init 31 = .ok (.newarray .int, 2) := by decide +kernel
theorem dX5_init_33 : decode cX5_init 33 = .ok (.putfield 21, 3) := by decide +kernel
theorem dX5_init_36 : decode cX5_init 36 = .ok (.aload_n 0, 1) := by decide +kernel
theorem dX5_init_37 : decode cX5_init 37 = .ok (.bipush 8, 2) := by decide +kernel
theorem dX5_init_39 : decode cX5_init 39 = .ok (.newarray .int, 2) := by decide +kernel
theorem dX5_init_41 : decode cX5_init 41 = .ok (.putfield 24, 3) := by decide +kernel
theorem dX5_init_44 : decode cX5_init 44 = .ok (.aload_n 0, 1) := by decide +kernel
theorem dX5_init_45 : decode cX5_init 45 = .ok (.bipush 8, 2) := by decide +kernel
theorem dX5_init_47 : decode cX5_init 47 = .ok (.newarray .int, 2) := by decide +kernel
theorem dX5_init_49 : decode cX5_init 49 = .ok (.putfield 27, 3) := by decide +kernel
theorem dX5_init_52 : decode cX5_init 52 = .ok (.aload_n 0, 1) := by decide +kernel
theorem dX5_init_53 : decode cX5_init 53 = .ok (.aload_n 1, 1) := by decide +kernel
theorem dX5_init_54 : decode cX5_init 54 = .ok (.putfield 30, 3) := by decide +kernel
theorem dX5_init_57 : decode cX5_init 57 = .ok (.return_, 1) := by decide +kernel
theorem dX5_measure_0 : decode cX5_measure 0 = .ok (.aload_n 0, 1) := by decide +kernel
theorem dX5_measure_1 : decode cX5_measure 1 = .ok (.iload_n 1, 1) := by decide +kernel
theorem dX5_measure_2 : decode cX5_measure 2 = .ok (.iload_n 3, 1) := by decide +kernel
theorem dX5_measure_3 : decode cX5_measure 3 = .ok (.iload 4, 2) := by decide +kernel
theorem dX5_measure_5 : decode cX5_measure 5 = .ok (.invokevirtual 34, 3) := by decide +kernel
theorem dX5_measure_8 : decode cX5_measure 8 = .ok (.aload_n 0, 1) := by decide +kernel
theorem dX5_measure_9 : decode cX5_measure 9 = .ok (.iload_n 2, 1) := by decide +kernel
theorem dX5_measure_10 : decode cX5_measure 10 = .ok (.invokevirtual 38, 3) := by decide +kernel
theorem dX5_measure_13 : decode cX5_measure 13 = .ok (.ireturn, 1) := by decide +kernel
theorem dX5_distanceTo_0 : decode cX5_distanceTo 0 = .ok (.iload_n 1, 1) := by decide +kernel
theorem dX5_distanceTo_1 : decode cX5_distanceTo 1 = .ok (.ifCond .lt 18, 3) := by decide +kernel
theorem dX5_distanceTo_4 : decode cX5_distanceTo 4 = .ok (.iload_n 1, 1) := by decide +kernel
theorem dX5_distanceTo_5 : decode cX5_distanceTo 5 = .ok (.bipush 8, 2) := by decide +kernel
theorem dX5_distanceTo_7 : decode cX5_distanceTo 7 = .ok (.if_icmp .ge 12, 3) := by decide +kernel
theorem dX5_distanceTo_10 : decode cX5_distanceTo 10 = .ok (.aload_n 0, 1) := by decide +kernel
theorem dX5_distanceTo_11 : decode cX5_distanceTo 11 = .ok (.getfield 15, 3) := by decide +kernel
theorem dX5_distanceTo_14 : decode cX5_distanceTo 14 = .ok (.iload_n 1, 1) := by decide +kernel
theorem dX5_distanceTo_15 : decode cX5_distanceTo 15 = .ok (.iaload, 1) := by decide +kernel
theorem dX5_distanceTo_16 : decode cX5_distanceTo 16 = .ok (.goto 6, 3) := by decide +kernel
theorem dX5_distanceTo_19 : decode cX5_distanceTo 19 = .ok (.sipush 9999, 3) := by decide +kernel
theorem dX5_distanceTo_22 : decode cX5_distanceTo 22 = .ok (.ireturn, 1) := by decide +kernel
theorem dX5_usedTo_0 : decode cX5_usedTo 0 = .ok (.iload_n 1, 1) := by decide +kernel
theorem dX5_usedTo_1 : decode cX5_usedTo 1 = .ok (.ifCond .lt 18, 3) := by decide +kernel
theorem dX5_usedTo_4 : decode cX5_usedTo 4 = .ok (.iload_n 1, 1) := by decide +kernel
theorem dX5_usedTo_5 : decode cX5_usedTo 5 = .ok (.bipush 8, 2) := by decide +kernel
theorem dX5_usedTo_7 : decode cX5_usedTo 7 = .ok (.if_icmp .ge 12, 3) := by decide +kernel
theorem dX5_usedTo_10 : decode cX5_usedTo 10 = .ok (.aload_n 0, 1) := by decide +kernel
theorem dX5_usedTo_11 : decode cX5_usedTo 11 = .ok (.getfield 18, 3) := by decide +kernel
theorem dX5_usedTo_14 : decode cX5_usedTo 14 = .ok (.iload_n 1, 1) := by decide +kernel
theorem dX5_usedTo_15 : decode cX5_usedTo 15 = .ok (.iaload, 1) := by decide +kernel
theorem dX5_usedTo_16 : decode cX5_usedTo 16 = .ok (.goto 4, 3) := by decide +kernel
theorem dX5_usedTo_19 : decode cX5_usedTo 19 = .ok (.iconst 0, 1) := by decide +kernel
theorem dX5_usedTo_20 : decode cX5_usedTo 20 = .ok (.ireturn, 1) := by decide +kernel
theorem dX5_run_0 : decode cX5_run 0 = .ok (.aload_n 0, 1) := by decide +kernel
theorem dX5_run_1 : decode cX5_run 1 = .ok (.getfield 15, 3) := by decide +kernel
theorem dX5_run_4 : decode cX5_run 4 = .ok (.sipush 9999, 3) := by decide +kernel
theorem dX5_run_7 : decode cX5_run 7 = .ok (.invokestatic 42, 3) := by decide +kernel
theorem dX5_run_10 : decode cX5_run 10 = .ok (.aload_n 0, 1) := by decide +kernel
theorem dX5_run_11 : decode cX5_run 11 = .ok (.getfield 18, 3) := by decide +kernel
theorem dX5_run_14 : decode cX5_run 14 = .ok (.iconst 0, 1) := by decide +kernel
theorem dX5_run_15 : decode cX5_run 15 = .ok (.invokestatic 42, 3) := by decide +kernel
theorem dX5_run_18 : decode cX5_run 18 = .ok (.iload_n 1, 1) := by decide +kernel
theorem dX5_run_19 : decode cX5_run 19 = .ok (.ifCond .lt 9, 3) := by decide +kernel
theorem dX5_run_22 : decode cX5_run 22 = .ok (.iload_n 1, 1) := by decide +kernel
theorem dX5_run_23 : decode cX5_run 23 = .ok (.bipush 8, 2) := by decide +kernel
theorem dX5_run_25 : decode cX5_run 25 = .ok (.if_icmp .lt 4, 3) := by decide +kernel
theorem dX5_run_28 : decode cX5_run 28 = .ok (.return_, 1) := by decide +kernel
theorem dX5_run_29 : decode cX5_run 29 = .ok (.aload_n 0, 1) := by decide +kernel
theorem dX5_run_30 : decode cX5_run 30 = .ok (.getfield 15, 3) := by decide +kernel
theorem dX5_run_33 : decode cX5_run 33 = .ok (.iload_n 1, 1) := by decide +kernel
theorem dX5_run_34 : decode cX5_run 34 = .ok (.iconst 0, 1) := by decide +kernel
theorem dX5_run_35 : decode cX5_run 35 = .ok (.iastore, 1) := by decide +kernel
theorem dX5_run_36 : decode cX5_run 36 = .ok (.aload_n 0, 1) := by decide +kernel
theorem dX5_run_37 : decode cX5_run 37 = .ok (.getfield 30, 3) := by decide +kernel
theorem dX5_run_40 : decode cX5_run 40 = .ok (.iload_n 2, 1) := by decide +kernel
theorem dX5_run_41 : decode cX5_run 41 = .ok (.aload_n 0, 1) := by decide +kernel
theorem dX5_run_42 : decode cX5_run 42 = .ok (.getfield 9, 3) := by decide +kernel
theorem dX5_run_45 : decode cX5_run 45 = .ok (.invokevirtual 48, 3) := by decide +kernel
theorem dX5_run_48 : decode cX5_run 48 = .ok (.aload_n 0, 1) := by decide +kernel
theorem dX5_run_49 : decode cX5_run 49 = .ok (.invokevirtual 54, 3) := by decide +kernel
theorem dX5_run_52 : decode cX5_run 52 = .ok (.iconst 0, 1) := by decide +kernel
theorem dX5_run_53 : decode cX5_run 53 = .ok (.istore 4, 2) := by decide +kernel
theorem dX5_run_55 : decode cX5_run 55 = .ok (.iload 4, 2) := by decide +kernel
theorem dX5_run_57 : decode cX5_run 57 = .ok (.iload_n 3, 1) := by decide +kernel
theorem dX5_run_58 : decode cX5_run 58 = .ok (.if_icmp .ge 22, 3) := by decide +kernel
theorem dX5_run_61 : decode cX5_run 61 = .ok (.iload_n 2, 1) := by decide +kernel
theorem dX5_run_62 : decode cX5_run 62 = .ok (.ifCond .eq 18, 3) := by decide +kernel
theorem dX5_run_65 : decode cX5_run 65 = .ok (.aload_n 0, 1) := by decide +kernel
theorem dX5_run_66 : decode cX5_run 66 = .ok (.iload_n 2, 1) := by decide +kernel
theorem dX5_run_67 : decode cX5_run 67 = .ok (.invokevirtual 57, 3) := by decide +kernel
theorem dX5_run_70 : decode cX5_run 70 = .ok (.aload_n 0, 1) := by decide +kernel
theorem dX5_run_71 : decode cX5_run 71 = .ok (.invokevirtual 54, 3) := by decide +kernel
theorem dX5_run_74 : decode cX5_run 74 = .ok (.iinc 4 1, 3) := by decide +kernel
theorem dX5_run_77 : decode cX5_run 77 = .ok (.goto (-22), 3) := by decide +kernel
theorem dX5_run_80 : decode cX5_run 80 = .ok (.return_, 1) := by decide +kernel
theorem dX5_settle_0 : decode cX5_settle 0 = .ok (.iconst 1, 1) := by decide +kernel
theorem dX5_settle_1 : decode cX5_settle 1 = .ok (.istore_n 1, 1) := by decide +kernel
theorem dX5_settle_2 : decode cX5_settle 2 = .ok (.iconst 0, 1) := by decide +kernel
theorem dX5_settle_3 : decode cX5_settle 3 = .ok (.istore_n 2, 1) := by decide +kernel
theorem dX5_settle_4 : decode cX5_settle 4 = .ok (.iload_n 2, 1) := by decide +kernel
theorem dX5_settle_5 : decode cX5_settle 5 = .ok (.bipush 8, 2) := by decide +kernel
theorem dX5_settle_7 : decode cX5_settle 7 = .ok (.if_icmp .ge 118, 3) := by decide +kernel
theorem dX5_settle_10 : decode cX5_settle 10 = .ok (.iload_n 1, 1) := by decide +kernel
theorem dX5_settle_11 : decode cX5_settle 11 = .ok (.ifCond .eq 114, 3) := by decide +kernel
theorem dX5_settle_14 : decode cX5_settle 14 = .ok (.iconst 0, 1) := by decide +kernel
theorem dX5_settle_15 : decode cX5_settle 15 = .ok (.istore_n 1, 1) := by decide +kernel
theorem dX5_settle_16 : decode cX5_settle 16 = .ok (.iconst 0, 1) := by decide +kernel
theorem dX5_settle_17 : decode cX5_settle 17 = .ok (.istore_n 3, 1) := by decide +kernel
theorem dX5_settle_18 : decode cX5_settle 18 = .ok (.iload_n 3, 1) := by decide +kernel
theorem dX5_settle_19 : decode cX5_settle 19 = .ok (.aload_n 0, 1) := by decide +kernel
theorem dX5_settle_20 : decode cX5_settle 20 = .ok (.getfield 30, 3) := by decide +kernel
theorem dX5_settle_23 : decode cX5_settle 23 = .ok (.getfield 61, 3) := by decide +kernel
theorem dX5_settle_26 : decode cX5_settle 26 = .ok (.if_icmp .ge 93, 3) := by decide +kernel
theorem dX5_settle_29 : decode cX5_settle 29 = .ok (.aload_n 0, 1) := by decide +kernel
theorem dX5_settle_30 : decode cX5_settle 30 = .ok (.getfield 30, 3) := by decide +kernel
theorem dX5_settle_33 : decode cX5_settle 33 = .ok (.getfield 65, 3) := by decide +kernel
theorem dX5_settle_36 : decode cX5_settle 36 = .ok (.iload_n 3, 1) := by decide +kernel
theorem dX5_settle_37 : decode cX5_settle 37 = .ok (.iaload, 1) := by decide +kernel
theorem dX5_settle_38 : decode cX5_settle 38 = .ok (.istore 4, 2) := by decide +kernel
theorem dX5_settle_40 : decode cX5_settle 40 = .ok (.iload 4, 2) := by decide +kernel
theorem dX5_settle_42 : decode cX5_settle 42 = .ok (.bipush 7, 2) := by decide +kernel
theorem dX5_settle_44 : decode cX5_settle 44 = .ok (.iand, 1) := by decide +kernel
theorem dX5_settle_45 : decode cX5_settle 45 = .ok (.istore 5, 2) := by decide +kernel
theorem dX5_settle_47 : decode cX5_settle 47 = .ok (.iload 4, 2) := by decide +kernel
theorem dX5_settle_49 : decode cX5_settle 49 = .ok (.iconst 3, 1) := by decide +kernel
theorem dX5_settle_50 : decode cX5_settle 50 = .ok (.ishr, 1) := by decide +kernel
theorem dX5_settle_51 : decode cX5_settle 51 = .ok (.bipush 7, 2) := by decide +kernel
theorem dX5_settle_53 : decode cX5_settle 53 = .ok (.iand, 1) := by decide +kernel
theorem dX5_settle_54 : decode cX5_settle 54 = .ok (.istore 6, 2) := by decide +kernel
theorem dX5_settle_56 : decode cX5_settle 56 = .ok (.aload_n 0, 1) := by decide +kernel
theorem dX5_settle_57 : decode cX5_settle 57 = .ok (.getfield 15, 3) := by decide +kernel
theorem dX5_settle_60 : decode cX5_settle 60 = .ok (.iload 5, 2) := by decide +kernel
theorem dX5_settle_62 : decode cX5_settle 62 = .ok (.iaload, 1) := by decide +kernel
theorem dX5_settle_63 : decode cX5_settle 63 = .ok (.aload_n 0, 1) := by decide +kernel
theorem dX5_settle_64 : decode cX5_settle 64 = .ok (.getfield 9, 3) := by decide +kernel
theorem dX5_settle_67 : decode cX5_settle 67 = .ok (.iload_n 3, 1) := by decide +kernel
theorem dX5_settle_68 : decode cX5_settle 68 = .ok (.iaload, 1) := by decide +kernel
theorem dX5_settle_69 : decode cX5_settle 69 = .ok (.iadd, 1) := by decide +kernel
theorem dX5_settle_70 : decode cX5_settle 70 = .ok (.istore 7, 2) := by decide +kernel
theorem dX5_settle_72 : decode cX5_settle 72 = .ok (.iload 7, 2) := by decide +kernel
theorem dX5_settle_74 : decode cX5_settle 74 = .ok (.aload_n 0, 1) := by decide +kernel
theorem dX5_settle_75 : decode cX5_settle 75 = .ok (.getfield 15, 3) := by decide +kernel
theorem dX5_settle_78 : decode cX5_settle 78 = .ok (.iload 6, 2) := by decide +kernel
theorem dX5_settle_80 : decode cX5_settle 80 = .ok (.iaload, 1) := by decide +kernel
theorem dX5_settle_81 : decode cX5_settle 81 = .ok (.if_icmp .ge 32, 3) := by decide +kernel
theorem dX5_settle_84 : decode cX5_settle 84 = .ok (.aload_n 0, 1) := by decide +kernel
theorem dX5_settle_85 : decode cX5_settle 85 = .ok (.getfield 15, 3) := by decide +kernel
theorem dX5_settle_88 : decode cX5_settle 88 = .ok (.iload 6, 2) := by decide +kernel
theorem dX5_settle_90 : decode cX5_settle 90 = .ok (.iload 7, 2) := by decide +kernel
theorem dX5_settle_92 : decode cX5_settle 92 = .ok (.iastore, 1) := by decide +kernel
theorem dX5_settle_93 : decode cX5_settle 93 = .ok (.aload_n 0, 1) := by decide +kernel
theorem dX5_settle_94 : decode cX5_settle 94 = .ok (.getfield 18, 3) := by decide +kernel
theorem dX5_settle_97 : decode cX5_settle 97 = .ok (.iload 6, 2) := by decide +kernel
theorem dX5_settle_99 : decode cX5_settle 99 = .ok (.aload_n 0, 1) := by decide +kernel
theorem dX5_settle_100 : decode cX5_settle 100 = .ok (.getfield 18, 3) := by decide +kernel
theorem dX5_settle_103 : decode cX5_settle 103 = .ok (.iload 5, 2) := by decide +kernel
theorem dX5_settle_105 : decode cX5_settle 105 = .ok (.iaload, 1) := by decide +kernel
theorem dX5_settle_106 : decode cX5_settle 106 = .ok (.iconst 1, 1) := by decide +kernel
theorem dX5_settle_107 : decode cX5_settle 107 = .ok (.iload_n 3, 1) := by decide +kernel
theorem dX5_settle_108 : decode cX5_settle 108 = .ok (.ishl, 1) := by decide +kernel
theorem dX5_settle_109 : decode cX5_settle 109 = .ok (.ior, 1) := by decide +kernel
theorem dX5_settle_110 : decode cX5_settle 110 = .ok (.iastore, 1) := by decide +kernel
theorem dX5_settle_111 : decode cX5_settle 111 = .ok (.iconst 1, 1) := by decide +kernel
theorem dX5_settle_112 : decode cX5_settle 112 = .ok (.istore_n 1, 1) := by decide +kernel
theorem dX5_settle_113 : decode cX5_settle 113 = .ok (.iinc 3 1, 3) := by decide +kernel
theorem dX5_settle_116 : decode cX5_settle 116 = .ok (.goto (-98), 3) := by decide +kernel
theorem dX5_settle_119 : decode cX5_settle 119 = .ok (.iinc 2 1, 3) := by decide +kernel
theorem dX5_settle_122 : decode cX5_settle 122 = .ok (.goto (-118), 3) := by decide +kernel
theorem dX5_settle_125 : decode cX5_settle 125 = .ok (.return_, 1) := by decide +kernel
theorem dX5_repairOnce_0 : decode cX5_repairOnce 0 = .ok (.iconst 0, 1) := by decide +kernel
theorem dX5_repairOnce_1 : decode cX5_repairOnce 1 = .ok (.istore_n 2, 1) := by decide +kernel
theorem dX5_repairOnce_2 : decode cX5_repairOnce 2 = .ok (.iload_n 2, 1) := by decide +kernel
theorem dX5_repairOnce_3 : decode cX5_repairOnce 3 = .ok (.bipush 8, 2) := by decide +kernel
theorem dX5_repairOnce_5 : decode cX5_repairOnce 5 = .ok (.if_icmp .ge 33, 3) := by decide +kernel
theorem dX5_repairOnce_8 : decode cX5_repairOnce 8 = .ok (.aload_n 0, 1) := by decide +kernel
theorem dX5_repairOnce_9 : decode cX5_repairOnce 9 = .ok (.getfield 21, 3) := by decide +kernel
theorem dX5_repairOnce_12 : decode cX5_repairOnce 12 = .ok (.iload_n 2, 1) := by decide +kernel
theorem dX5_repairOnce_13 : decode cX5_repairOnce 13 = .ok (.aload_n 0, 1) := by decide +kernel
theorem dX5_repairOnce_14 : decode cX5_repairOnce 14 = .ok (.getfield 15, 3) := by decide +kernel
theorem dX5_repairOnce_17 : decode cX5_repairOnce 17 = .ok (.iload_n 2, 1) := by decide +kernel
theorem dX5_repairOnce_18 : decode cX5_repairOnce 18 = .ok (.iaload, 1) := by decide +kernel
theorem dX5_repairOnce_19 : decode cX5_repairOnce 19 = .ok (.iastore, 1) := by decide +kernel
theorem dX5_repairOnce_20 : decode cX5_repairOnce 20 = .ok (.aload_n 0, 1) := by decide +kernel
theorem dX5_repairOnce_21 : decode cX5_repairOnce 21 = .ok (.getfield 24, 3) := by decide +kernel
theorem dX5_repairOnce_24 : decode cX5_repairOnce 24 = .ok (.iload_n 2, 1) := by decide +kernel
theorem dX5_repairOnce_25 : decode cX5_repairOnce 25 = .ok (.aload_n 0, 1) := by decide +kernel
theorem dX5_repairOnce_26 : decode cX5_repairOnce 26 = .ok (.getfield 18, 3) := by decide +kernel
theorem dX5_repairOnce_29 : decode cX5_repairOnce 29 = .ok (.iload_n 2, 1) := by decide +kernel
theorem dX5_repairOnce_30 : decode cX5_repairOnce 30 = .ok (.iaload, 1) := by decide +kernel
theorem dX5_repairOnce_31 : decode cX5_repairOnce 31 = .ok (.iastore, 1) := by decide +kernel
theorem dX5_repairOnce_32 : decode cX5_repairOnce 32 = .ok (.iinc 2 1, 3) := by decide +kernel
theorem dX5_repairOnce_35 : decode cX5_repairOnce 35 = .ok (.goto (-33), 3) := by decide +kernel
theorem dX5_repairOnce_38 : decode cX5_repairOnce 38 = .ok (.iconst 0, 1) := by decide +kernel
theorem dX5_repairOnce_39 : decode cX5_repairOnce 39 = .ok (.istore_n 2, 1) := by decide +kernel
theorem dX5_repairOnce_40 : decode cX5_repairOnce 40 = .ok (.iload_n 2, 1) := by decide +kernel
theorem dX5_repairOnce_41 : decode cX5_repairOnce 41 = .ok (.aload_n 0, 1) := by decide +kernel
theorem dX5_repairOnce_42 : decode cX5_repairOnce 42 = .ok (.getfield 30, 3) := by decide +kernel
theorem dX5_repairOnce_45 : decode cX5_repairOnce 45 = .ok (.getfield 61, 3) := by decide +kernel
theorem dX5_repairOnce_48 : decode cX5_repairOnce 48 = .ok (.if_icmp .ge 97, 3) := by decide +kernel
theorem dX5_repairOnce_51 : decode cX5_repairOnce 51 = .ok (.aload_n 0, 1) := by decide +kernel
theorem dX5_repairOnce_52 : decode cX5_repairOnce 52 = .ok (.getfield 30, 3) := by decide +kernel
theorem dX5_repairOnce_55 : decode cX5_repairOnce 55 = .ok (.getfield 65, 3) := by decide +kernel
theorem dX5_repairOnce_58 : decode cX5_repairOnce 58 = .ok (.iload_n 2, 1) := by decide +kernel
theorem dX5_repairOnce_59 : decode cX5_repairOnce 59 = .ok (.iaload, 1) := by decide +kernel
theorem dX5_repairOnce_60 : decode cX5_repairOnce 60 = .ok (.istore_n 3, 1) := by decide +kernel
theorem dX5_repairOnce_61 : decode cX5_repairOnce 61 = .ok (.iload_n 3, 1) := by decide +kernel
theorem dX5_repairOnce_62 : decode cX5_repairOnce 62 = .ok (.bipush 7, 2) := by decide +kernel
theorem dX5_repairOnce_64 : decode cX5_repairOnce 64 = .ok (.iand, 1) := by decide +kernel
theorem dX5_repairOnce_65 : decode cX5_repairOnce 65 = .ok (.istore 4, 2) := by decide +kernel
theorem dX5_repairOnce_67 : decode cX5_repairOnce 67 = .ok (.iload_n 3, 1) := by decide +kernel
theorem dX5_repairOnce_68 : decode cX5_repairOnce 68 = .ok (.iconst 3, 1) := by decide +kernel
theorem dX5_repairOnce_69 : decode cX5_repairOnce 69 = .ok (.ishr, 1) := by decide +kernel
theorem dX5_repairOnce_70 : decode cX5_repairOnce 70 = .ok (.bipush 7, 2) := by decide +kernel
theorem dX5_repairOnce_72 : decode cX5_repairOnce 72 = .ok (.iand, 1) := by decide +kernel
theorem dX5_repairOnce_73 : decode cX5_repairOnce 73 = .ok (.istore 5, 2) := by decide +kernel
theorem dX5_repairOnce_75 : decode cX5_repairOnce 75 = .ok (.aload_n 0, 1) := by decide +kernel
theorem dX5_repairOnce_76 : decode cX5_repairOnce 76 = .ok (.getfield 21, 3) := by decide +kernel
theorem dX5_repairOnce_79 : decode cX5_repairOnce 79 = .ok (.iload 4, 2) := by decide +kernel
theorem dX5_repairOnce_81 : decode cX5_repairOnce 81 = .ok (.iaload, 1) := by decide +kernel
theorem dX5_repairOnce_82 : decode cX5_repairOnce 82 = .ok (.iload_n 3, 1) := by decide +kernel
theorem dX5_repairOnce_83 : decode cX5_repairOnce 83 = .ok (.bipush 6, 2) := by decide +kernel
theorem dX5_repairOnce_85 : decode cX5_repairOnce 85 = .ok (.ishr, 1) := by decide +kernel
theorem dX5_repairOnce_86 : decode cX5_repairOnce 86 = .ok (.bipush 127, 2) := by decide +kernel
theorem dX5_repairOnce_88 : decode cX5_repairOnce 88 = .ok (.iand, 1) := by decide +kernel
theorem dX5_repairOnce_89 : decode cX5_repairOnce 89 = .ok (.iadd, 1) := by decide +kernel
theorem dX5_repairOnce_90 : decode cX5_repairOnce 90 = .ok (.istore 6, 2) := by decide +kernel
theorem dX5_repairOnce_92 : decode cX5_repairOnce 92 = .ok (.iload_n 1, 1) := by decide +kernel
theorem dX5_repairOnce_93 : decode cX5_repairOnce 93 = .ok (.iload_n 2, 1) := by decide +kernel
theorem dX5_repairOnce_94 : decode cX5_repairOnce 94 = .ok (.ishr, 1) := by decide +kernel
theorem dX5_repairOnce_95 : decode cX5_repairOnce 95 = .ok (.iconst 1, 1) := by decide +kernel
theorem dX5_repairOnce_96 : decode cX5_repairOnce 96 = .ok (.iand, 1) := by decide +kernel
theorem dX5_repairOnce_97 : decode cX5_repairOnce 97 = .ok (.ifCond .eq 42, 3) := by decide +kernel
theorem dX5_repairOnce_100 : decode cX5_repairOnce 100 = .ok (.iload 6, 2) := by decide +kernel
theorem dX5_repairOnce_102 : decode cX5_repairOnce 102 = .ok (.aload_n 0, 1) := by decide +kernel
theorem dX5_repairOnce_103 : decode cX5_repairOnce 103 = .ok (.getfield 15, 3) := by decide +kernel
theorem dX5_repairOnce_106 : decode cX5_repairOnce 106 = .ok (.iload 5, 2) := by decide +kernel
theorem dX5_repairOnce_108 : decode cX5_repairOnce 108 = .ok (.iaload, 1) := by decide +kernel
theorem dX5_repairOnce_109 : decode cX5_repairOnce 109 = .ok (.if_icmp .ge 30, 3) := by decide +kernel
theorem dX5_repairOnce_112 : decode cX5_repairOnce 112 = .ok (.aload_n 0, 1) := by decide +kernel
theorem dX5_repairOnce_113 : decode cX5_repairOnce 113 = .ok (.getfield 15, 3) := by decide +kernel
theorem dX5_repairOnce_116 : decode cX5_repairOnce 116 = .ok (.iload 5, 2) := by decide +kernel
theorem dX5_repairOnce_118 : decode cX5_repairOnce 118 = .ok (.iload 6, 2) := by decide +kernel
theorem dX5_repairOnce_120 : decode cX5_repairOnce 120 = .ok (.iastore, 1) := by decide +kernel
theorem dX5_repairOnce_121 : decode cX5_repairOnce 121 = .ok (.aload_n 0, 1) := by decide +kernel
theorem dX5_repairOnce_122 : decode cX5_repairOnce 122 = .ok (.getfield 18, 3) := by decide +kernel
theorem dX5_repairOnce_125 : decode cX5_repairOnce 125 = .ok (.iload 5, 2) := by decide +kernel
theorem dX5_repairOnce_127 : decode cX5_repairOnce 127 = .ok (.aload_n 0, 1) := by decide +kernel
theorem dX5_repairOnce_128 : decode cX5_repairOnce 128 = .ok (.getfield 24, 3) := by decide +kernel
theorem dX5_repairOnce_131 : decode cX5_repairOnce 131 = .ok (.iload 4, 2) := by decide +kernel
theorem dX5_repairOnce_133 : decode cX5_repairOnce 133 = .ok (.iaload, 1) := by decide +kernel
theorem dX5_repairOnce_134 : decode cX5_repairOnce 134 = .ok (.iconst 1, 1) := by decide +kernel
theorem dX5_repairOnce_135 : decode cX5_repairOnce 135 = .ok (.iload_n 2, 1) := by decide +kernel
theorem dX5_repairOnce_136 : decode cX5_repairOnce 136 = .ok (.ishl, 1) := by decide +kernel
theorem dX5_repairOnce_137 : decode cX5_repairOnce 137 = .ok (.ior, 1) := by decide +kernel
theorem dX5_repairOnce_138 : decode cX5_repairOnce 138 = .ok (.iastore, 1) := by decide +kernel
theorem dX5_repairOnce_139 : decode cX5_repairOnce 139 = .ok (.iinc 2 1, 3) := by decide +kernel
theorem dX5_repairOnce_142 : decode cX5_repairOnce 142 = .ok (.goto (-102), 3) := by decide +kernel
theorem dX5_repairOnce_145 : decode cX5_repairOnce 145 = .ok (.return_, 1) := by decide +kernel
theorem dX5_tightEdges_0 : decode cX5_tightEdges 0 = .ok (.iconst 0, 1) := by decide +kernel
theorem dX5_tightEdges_1 : decode cX5_tightEdges 1 = .ok (.istore 4, 2) := by decide +kernel
theorem dX5_tightEdges_3 : decode cX5_tightEdges 3 = .ok (.iload 4, 2) := by decide +kernel
theorem dX5_tightEdges_5 : decode cX5_tightEdges 5 = .ok (.bipush 8, 2) := by decide +kernel
theorem dX5_tightEdges_7 : decode cX5_tightEdges 7 = .ok (.if_icmp .ge 25, 3) := by decide +kernel
theorem dX5_tightEdges_10 : decode cX5_tightEdges 10 = .ok (.aload_n 0, 1) := by decide +kernel
theorem dX5_tightEdges_11 : decode cX5_tightEdges 11 = .ok (.getfield 27, 3) := by decide +kernel
theorem dX5_tightEdges_14 : decode cX5_tightEdges 14 = .ok (.iload 4, 2) := by decide +kernel
theorem dX5_tightEdges_16 : decode cX5_tightEdges 16 = .ok (.aload_n 0, 1) := by decide +kernel
theorem dX5_tightEdges_17 : decode cX5_tightEdges 17 = .ok (.iload 4, 2) := by decide +kernel
theorem dX5_tightEdges_19 : decode cX5_tightEdges 19 = .ok (.iload_n 2, 1) := by decide +kernel
theorem dX5_tightEdges_20 : decode cX5_tightEdges 20 = .ok (.iload_n 3, 1) := by decide +kernel
theorem dX5_tightEdges_21 : decode cX5_tightEdges 21 = .ok (.iconst 0, 1) := by decide +kernel
theorem dX5_tightEdges_22 : decode cX5_tightEdges 22 = .ok (.invokevirtual 68, 3) := by decide +kernel
theorem dX5_tightEdges_25 : decode cX5_tightEdges 25 = .ok (.iastore, 1) := by decide +kernel
theorem dX5_tightEdges_26 : decode cX5_tightEdges 26 = .ok (.iinc 4 1, 3) := by decide +kernel
theorem dX5_tightEdges_29 : decode cX5_tightEdges 29 = .ok (.goto (-26), 3) := by decide +kernel
theorem dX5_tightEdges_32 : decode cX5_tightEdges 32 = .ok (.aload_n 0, 1) := by decide +kernel
theorem dX5_tightEdges_33 : decode cX5_tightEdges 33 = .ok (.iload_n 1, 1) := by decide +kernel
theorem dX5_tightEdges_34 : decode cX5_tightEdges 34 = .ok (.iload_n 2, 1) := by decide +kernel
theorem dX5_tightEdges_35 : decode cX5_tightEdges 35 = .ok (.iload_n 3, 1) := by decide +kernel
theorem dX5_tightEdges_36 : decode cX5_tightEdges 36 = .ok (.iconst 0, 1) := by decide +kernel
theorem dX5_tightEdges_37 : decode cX5_tightEdges 37 = .ok (.invokevirtual 68, 3) := by decide +kernel
theorem dX5_tightEdges_40 : decode cX5_tightEdges 40 = .ok (.istore 4, 2) := by decide +kernel
theorem dX5_tightEdges_42 : decode cX5_tightEdges 42 = .ok (.iload 4, 2) := by decide +kernel
theorem dX5_tightEdges_44 : decode cX5_tightEdges 44 = .ok (.sipush 9999, 3) := by decide +kernel
theorem dX5_tightEdges_47 : decode cX5_tightEdges 47 = .ok (.if_icmp .ne 5, 3) := by decide +kernel
theorem dX5_tightEdges_50 : decode cX5_tightEdges 50 = .ok (.iconst 0, 1) := by decide +kernel
theorem dX5_tightEdges_51 : decode cX5_tightEdges 51 = .ok (.ireturn, 1) := by decide +kernel
theorem dX5_tightEdges_52 : decode cX5_tightEdges 52 = .ok (.iconst 0, 1) := by decide +kernel
theorem dX5_tightEdges_53 : decode cX5_tightEdges 53 = .ok (.istore 5, 2) := by decide +kernel
theorem dX5_tightEdges_55 : decode cX5_tightEdges 55 = .ok (.iconst 0, 1) := by decide +kernel
theorem dX5_tightEdges_56 : decode cX5_tightEdges 56 = .ok (.istore 6, 2) := by decide +kernel
theorem dX5_tightEdges_58 : decode cX5_tightEdges 58 = .ok (.iload 6, 2) := by decide +kernel
theorem dX5_tightEdges_60 : decode cX5_tightEdges 60 = .ok (.aload_n 0, 1) := by decide +kernel
theorem dX5_tightEdges_61 : decode cX5_tightEdges 61 = .ok (.getfield 30, 3) := by decide +kernel
theorem dX5_tightEdges_64 : decode cX5_tightEdges 64 = .ok (.getfield 61, 3) := by decide +kernel
theorem dX5_tightEdges_67 : decode cX5_tightEdges 67 = .ok (.if_icmp .ge 60, 3) := by decide +kernel
theorem dX5_tightEdges_70 : decode cX5_tightEdges 70 = .ok (.aload_n 0, 1) := by decide +kernel
theorem dX5_tightEdges_71 : decode cX5_tightEdges 71 = .ok (.getfield 15, 3) := by decide +kernel
theorem dX5_tightEdges_74 : decode cX5_tightEdges 74 = .ok (.aload_n 0, 1) := by decide +kernel
theorem dX5_tightEdges_75 : decode cX5_tightEdges 75 = .ok (.getfield 30, 3) := by decide +kernel
theorem dX5_tightEdges_78 : decode cX5_tightEdges 78 = .ok (.iload 6, 2) := by decide +kernel
theorem dX5_tightEdges_80 : decode cX5_tightEdges 80 = .ok (.invokevirtual 72, 3) := by decide +kernel
theorem dX5_tightEdges_83 : decode cX5_tightEdges 83 = .ok (.iaload, 1) := by decide +kernel
theorem dX5_tightEdges_84 : decode cX5_tightEdges 84 = .ok (.aload_n 0, 1) := by decide +kernel
theorem dX5_tightEdges_85 : decode cX5_tightEdges 85 = .ok (.getfield 9, 3) := by decide +kernel
theorem dX5_tightEdges_88 : decode cX5_tightEdges 88 = .ok (.iload 6, 2) := by decide +kernel
theorem dX5_tightEdges_90 : decode cX5_tightEdges 90 = .ok (.iaload, 1) := by decide +kernel
theorem dX5_tightEdges_91 : decode cX5_tightEdges 91 = .ok (.iadd, 1) := by decide +kernel
theorem dX5_tightEdges_92 : decode cX5_tightEdges 92 = .ok (.aload_n 0, 1) := by decide +kernel
theorem dX5_tightEdges_93 : decode cX5_tightEdges 93 = .ok (.getfield 27, 3) := by decide +kernel
theorem dX5_tightEdges_96 : decode cX5_tightEdges 96 = .ok (.aload_n 0, 1) := by decide +kernel
theorem dX5_tightEdges_97 : decode cX5_tightEdges 97 = .ok (.getfield 30, 3) := by decide +kernel
theorem dX5_tightEdges_100 : decode cX5_tightEdges 100 = .ok (.iload 6, 2) := by decide +kernel
theorem dX5_tightEdges_102 : decode cX5_tightEdges 102 = .ok (.invokevirtual 75, 3) := by decide +kernel
theorem dX5_tightEdges_105 : decode cX5_tightEdges 105 = .ok (.iaload, 1) := by decide +kernel
theorem dX5_tightEdges_106 : decode cX5_tightEdges 106 = .ok (.iadd, 1) := by decide +kernel
theorem dX5_tightEdges_107 : decode cX5_tightEdges 107 = .ok (.iload 4, 2) := by decide +kernel
theorem dX5_tightEdges_109 : decode cX5_tightEdges 109 = .ok (.if_icmp .ne 12, 3) := by decide +kernel
theorem dX5_tightEdges_112 : decode cX5_tightEdges 112 = .ok (.iload 5, 2) := by decide +kernel
theorem dX5_tightEdges_114 : decode cX5_tightEdges 114 = .ok (.iconst 1, 1) := by decide +kernel
theorem dX5_tightEdges_115 : decode cX5_tightEdges 115 = .ok (.iload 6, 2) := by decide +kernel
theorem dX5_tightEdges_117 : decode cX5_tightEdges 117 = .ok (.ishl, 1) := by decide +kernel
theorem dX5_tightEdges_118 : decode cX5_tightEdges 118 = .ok (.ior, 1) := by decide +kernel
theorem dX5_tightEdges_119 : decode cX5_tightEdges 119 = .ok (.istore 5, 2) := by decide +kernel
theorem dX5_tightEdges_121 : decode cX5_tightEdges 121 = .ok (.iinc 6 1, 3) := by decide +kernel
theorem dX5_tightEdges_124 : decode cX5_tightEdges 124 = .ok (.goto (-66), 3) := by decide +kernel
theorem dX5_tightEdges_127 : decode cX5_tightEdges 127 = .ok (.iload 5, 2) := by decide +kernel
theorem dX5_tightEdges_129 : decode cX5_tightEdges 129 = .ok (.ireturn, 1) := by decide +kernel
theorem dX5_reachablePairs_0 : decode cX5_reachablePairs 0 = .ok (.iconst 0, 1) := by decide +kernel
theorem dX5_reachablePairs_1 : decode cX5_reachablePairs 1 = .ok (.istore_n 2, 1) := by decide +kernel
theorem dX5_reachablePairs_2 : decode cX5_reachablePairs 2 = .ok (.iconst 0, 1) := by decide +kernel
theorem dX5_reachablePairs_3 : decode cX5_reachablePairs 3 = .ok (.istore_n 3, 1) := by decide +kernel
theorem dX5_reachablePairs_4 : decode cX5_reachablePairs 4 = .ok (.iload_n 3, 1) := by decide +kernel
theorem dX5_reachablePairs_5 : decode cX5_reachablePairs 5 = .ok (.bipush 8, 2) := by decide +kernel
theorem dX5_reachablePairs_7 : decode cX5_reachablePairs 7 = .ok (.if_icmp .ge 54, 3) := by decide +kernel
theorem dX5_reachablePairs_10 : decode cX5_reachablePairs 10 = .ok (.aload_n 0, 1) := by decide +kernel
theorem dX5_reachablePairs_11 : decode cX5_reachablePairs 11 = .ok (.iload_n 3, 1) := by decide +kernel
theorem dX5_reachablePairs_12 : decode cX5_reachablePairs 12 = .ok (.iload_n 1, 1) := by decide +kernel
theorem dX5_reachablePairs_13 : decode cX5_reachablePairs 13 = .ok (.iconst 0, 1) := by decide +kernel
theorem dX5_reachablePairs_14 : decode cX5_reachablePairs 14 = .ok (.invokevirtual 34, 3) := by decide +kernel
theorem dX5_reachablePairs_17 : decode cX5_reachablePairs 17 = .ok (.iconst 0, 1) := by decide +kernel
theorem dX5_reachablePairs_18 : decode cX5_reachablePairs 18 = .ok (.istore 4, 2) := by decide +kernel
theorem dX5_reachablePairs_20 : decode cX5_reachablePairs 20 = .ok (.iload 4, 2) := by decide +kernel
theorem dX5_reachablePairs_22 : decode cX5_reachablePairs 22 = .ok (.bipush 8, 2) := by decide +kernel
theorem dX5_reachablePairs_24 : decode cX5_reachablePairs 24 = .ok (.if_icmp .ge 31, 3) := by decide +kernel
theorem dX5_reachablePairs_27 : decode cX5_reachablePairs 27 = .ok (.iload_n 3, 1) := by decide +kernel
theorem dX5_reachablePairs_28 : decode cX5_reachablePairs 28 = .ok (.iload 4, 2) := by decide +kernel
theorem dX5_reachablePairs_30 : decode cX5_reachablePairs 30 = .ok (.if_icmp .eq 19, 3) := by decide +kernel
theorem dX5_reachablePairs_33 : decode cX5_reachablePairs 33 = .ok (.aload_n 0, 1) := by decide +kernel
theorem dX5_reachablePairs_34 : decode cX5_reachablePairs 34 = .ok (.getfield 15, 3) := by decide +kernel
theorem dX5_reachablePairs_37 : decode cX5_reachablePairs 37 = .ok (.iload 4, 2) := by decide +kernel
theorem dX5_reachablePairs_39 : decode cX5_reachablePairs 39 = .ok (.iaload, 1) := by decide +kernel
theorem dX5_reachablePairs_40 : decode cX5_reachablePairs 40 = .ok (.sipush 9999, 3) := by decide +kernel
theorem dX5_reachablePairs_43 : decode cX5_reachablePairs 43 = .ok (.if_icmp .eq 6, 3) := by decide +kernel
theorem dX5_reachablePairs_46 : decode cX5_reachablePairs 46 = .ok (.iinc 2 1, 3) := by decide +kernel
theorem dX5_reachablePairs_49 : decode cX5_reachablePairs 49 = .ok (.iinc 4 1, 3) := by decide +kernel
theorem dX5_reachablePairs_52 : decode cX5_reachablePairs 52 = .ok (.goto (-32), 3) := by decide +kernel
theorem dX5_reachablePairs_55 : decode cX5_reachablePairs 55 = .ok (.iinc 3 1, 3) := by decide +kernel
theorem dX5_reachablePairs_58 : decode cX5_reachablePairs 58 = .ok (.goto (-54), 3) := by decide +kernel
theorem dX5_reachablePairs_61 : decode cX5_reachablePairs 61 = .ok (.iload_n 2, 1) := by decide +kernel
theorem dX5_reachablePairs_62 : decode cX5_reachablePairs 62 = .ok (.ireturn, 1) := by decide +kernel
theorem dX6_init_0 : decode cX6_init 0 = .ok (.aload_n 0, 1) := by decide +kernel
theorem dX6_init_1 : decode cX6_init 1 = .ok (.invokespecial 3, 3) := by decide +kernel
theorem dX6_init_4 : decode cX6_init 4 = .ok (.aload_n 0, 1) := by decide +kernel
theorem dX6_init_5 : decode cX6_init 5 = .ok (.bipush 110, 2) := by decide +kernel
theorem dX6_init_7 : decode cX6_init 7 = .ok (.newarray .byte, 2) := by decide +kernel
theorem dX6_init_9 : decode cX6_init 9 = .ok (.putfield 9, 3) := by decide +kernel
theorem dX6_init_12 : decode cX6_init 12 = .ok (.aload_n 0, 1) := by decide +kernel
theorem dX6_init_13 : decode cX6_init 13 = .ok (.bipush 16, 2) := by decide +kernel
theorem dX6_init_15 : decode cX6_init 15 = .ok (.newarray .int, 2) := by decide +kernel
theorem dX6_init_17 : decode cX6_init 17 = .ok (.putfield 15, 3) := by decide +kernel
theorem dX6_init_20 : decode cX6_init 20 = .ok (.aload_n 0, 1) := by decide +kernel
theorem dX6_init_21 : decode cX6_init 21 = .ok (.iconst 0, 1) := by decide +kernel
theorem dX6_init_22 : decode cX6_init 22 = .ok (.putfield 19, 3) := by decide +kernel
theorem dX6_init_25 : decode cX6_init 25 = .ok (.aload_n 0, 1) := by decide +kernel
theorem dX6_init_26 : decode cX6_init 26 = .ok (.iconst 0, 1) := by decide +kernel
theorem dX6_init_27 : decode cX6_init 27 = .ok (.putfield 23, 3) := by decide +kernel
theorem dX6_init_30 : decode cX6_init 30 = .ok (.aload_n 0, 1) := by decide +kernel
theorem dX6_init_31 : decode cX6_init 31 = .ok (.iconst 0, 1) := by decide +kernel
theorem dX6_init_32 : decode cX6_init 32 = .ok (.putfield 26, 3) := by decide +kernel
theorem dX6_init_35 : decode cX6_init 35 = .ok (.return_, 1) := by decide +kernel
theorem dX6_append_0 : decode cX6_append 0 = .ok (.aload_n 0, 1) := by decide +kernel
theorem dX6_append_1 : decode cX6_append 1 = .ok (.getfield 19, 3) := by decide +kernel
theorem dX6_append_4 : decode cX6_append 4 = .ok (.bipush 110, 2) := by decide +kernel
theorem dX6_append_6 : decode cX6_append 6 = .ok (.if_icmp .lt 5, 3) := by decide +kernel
theorem dX6_append_9 : decode cX6_append 9 = .ok (.iconst 0, 1) := by decide +kernel
theorem dX6_append_10 : decode cX6_append 10 = .ok (.ireturn, 1) := by decide +kernel
theorem dX6_append_11 : decode cX6_append 11 = .ok (.aload_n 0, 1) := by decide +kernel
theorem dX6_append_12 : decode cX6_append 12 = .ok (.getfield 9, 3) := by decide +kernel
theorem dX6_append_15 : decode cX6_append 15 = .ok (.aload_n 0, 1) := by decide +kernel
theorem dX6_append_16 : decode cX6_append 16 = .ok (.getfield 19, 3) := by decide +kernel
theorem dX6_append_19 : decode cX6_append 19 = .ok (.iload_n 1, 1) := by decide +kernel
theorem dX6_append_20 : decode cX6_append 20 = .ok (.i2b, 1) := by decide +kernel
theorem dX6_append_21 : decode cX6_append 21 = .ok (.bastore, 1) := by decide +kernel
theorem dX6_append_22 : decode cX6_append 22 = .ok (.aload_n 0, 1) := by decide +kernel
theorem dX6_append_23 : decode cX6_append 23 = .ok (.dup, 1) := by decide +kernel
theorem dX6_append_24 : decode cX6_append 24 = .ok (.getfield 19, 3) := by decide +kernel
theorem dX6_append_27 : decode cX6_append 27 = .ok (.iconst 1, 1) := by decide +kernel
theorem dX6_append_28 : decode cX6_append 28 = .ok (.iadd, 1) := by decide +kernel
theorem dX6_append_29 : decode cX6_append 29 = .ok (.putfield 19, 3) := by decide +kernel
theorem dX6_append_32 : decode cX6_append 32 = .ok (.iconst 1, 1) := by decide +kernel
theorem dX6_append_33 : decode cX6_append 33 = .ok (.ireturn, 1) := by decide +kernel
theorem dX6_letterAt_0 : decode cX6_letterAt 0 = .ok (.iload_n 1, 1) := by decide +kernel
theorem dX6_letterAt_1 : decode cX6_letterAt 1 = .ok (.ifCond .lt 26, 3) := by decide +kernel
theorem dX6_letterAt_4 : decode cX6_letterAt 4 = .ok (.iload_n 1, 1) := by decide +kernel
theorem dX6_letterAt_5 : decode cX6_letterAt 5 = .ok (.aload_n 0, 1) := by decide +kernel
theorem dX6_letterAt_6 : decode cX6_letterAt 6 = .ok (.getfield 19, 3) := by decide +kernel
theorem dX6_letterAt_9 : decode cX6_letterAt 9 = .ok (.if_icmp .ge 18, 3) := by decide +kernel
theorem dX6_letterAt_12 : decode cX6_letterAt 12 = .ok (.iload_n 1, 1) := by decide +kernel
theorem dX6_letterAt_13 : decode cX6_letterAt 13 = .ok (.bipush 110, 2) := by decide +kernel
theorem dX6_letterAt_15 : decode cX6_letterAt 15 = .ok (.if_icmp .ge 12, 3) := by decide +kernel
theorem dX6_letterAt_18 : decode cX6_letterAt 18 = .ok (.aload_n 0, 1) := by decide +kernel
theorem dX6_letterAt_19 : decode cX6_letterAt 19 = .ok (.getfield 9, 3) := by decide +kernel
theorem dX6_letterAt_22 : decode cX6_letterAt 22 = .ok (.iload_n 1, 1) := by decide +kernel
theorem dX6_letterAt_23 : decode cX6_letterAt 23 = .ok (.baload, 1) := by decide +kernel
theorem dX6_letterAt_24 : decode cX6_letterAt 24 = .ok (.goto 4, 3) := by decide +kernel
theorem dX6_letterAt_27 : decode cX6_letterAt 27 = .ok (.iconst (-1), 1) := by decide +kernel
theorem dX6_letterAt_28 : decode cX6_letterAt 28 = .ok (.ireturn, 1) := by decide +kernel
theorem dX6_codeOf_0 : decode cX6_codeOf 0 = .ok (.iload_n 1, 1) := by decide +kernel
theorem dX6_codeOf_1 : decode cX6_codeOf 1 = .ok (.ifCond .lt 20, 3) := by decide +kernel
theorem dX6_codeOf_4 : decode cX6_codeOf 4 = .ok (.iload_n 1, 1) := by decide +kernel
theorem dX6_codeOf_5 : decode cX6_codeOf 5 = .ok (.aload_n 0, 1) := by decide +kernel
theorem dX6_codeOf_6 : decode cX6_codeOf 6 = .ok (.getfield 23, 3) := by decide +kernel
theorem dX6_codeOf_9 : decode cX6_codeOf 9 = .ok (.if_icmp .ge 12, 3) := by decide +kernel
theorem dX6_codeOf_12 : decode cX6_codeOf 12 = .ok (.aload_n 0, 1) := by decide +kernel
theorem dX6_codeOf_13 : decode cX6_codeOf 13 = .ok (.getfield 15, 3) := by decide +kernel
theorem dX6_codeOf_16 : decode cX6_codeOf 16 = .ok (.iload_n 1, 1) := by decide +kernel
theorem dX6_codeOf_17 : decode cX6_codeOf 17 = .ok (.iaload, 1) := by decide +kernel
theorem dX6_codeOf_18 : decode cX6_codeOf 18 = .ok (.goto 4, 3) := by decide +kernel
theorem dX6_codeOf_21 : decode cX6_codeOf 21 = .ok (.iconst 0, 1) := by decide +kernel
theorem dX6_codeOf_22 : decode cX6_codeOf 22 = .ok (.ireturn, 1) := by decide +kernel
theorem dX6_scan_0 : decode cX6_scan 0 = .ok (.aload_n 0, 1) := by decide +kernel
theorem dX6_scan_1 : decode cX6_scan 1 = .ok (.iconst 0, 1) := by decide +kernel
theorem dX6_scan_2 : decode cX6_scan 2 = .ok (.putfield 26, 3) := by decide +kernel
theorem dX6_scan_5 : decode cX6_scan 5 = .ok (.aload_n 0, 1) := by decide +kernel
theorem dX6_scan_6 : decode cX6_scan 6 = .ok (.iconst 0, 1) := by decide +kernel
theorem dX6_scan_7 : decode cX6_scan 7 = .ok (.putfield 23, 3) := by decide +kernel
theorem dX6_scan_10 : decode cX6_scan 10 = .ok (.aload_n 0, 1) := by decide +kernel
theorem dX6_scan_11 : decode cX6_scan 11 = .ok (.invokevirtual 29, 3) := by decide +kernel
theorem dX6_scan_14 : decode cX6_scan 14 = .ok (.iconst 0, 1) := by decide +kernel
theorem dX6_scan_15 : decode cX6_scan 15 = .ok (.istore_n 1, 1) := by decide +kernel
theorem dX6_scan_16 : decode cX6_scan 16 = .ok (.iload_n 1, 1) := by decide +kernel
theorem dX6_scan_17 : decode cX6_scan 17 = .ok (.bipush 16, 2) := by decide +kernel
theorem dX6_scan_19 : decode cX6_scan 19 = .ok (.if_icmp .gt 36, 3) := by decide +kernel
theorem dX6_scan_22 : decode cX6_scan 22 = .ok (.aload_n 0, 1) := by decide +kernel
theorem dX6_scan_23 : decode cX6_scan 23 = .ok (.getfield 26, 3) := by decide +kernel
theorem dX6_scan_26 : decode cX6_scan 26 = .ok (.aload_n 0, 1) := by decide +kernel
theorem dX6_scan_27 : decode cX6_scan 27 = .ok (.getfield 19, 3) := by decide +kernel
theorem dX6_scan_30 : decode cX6_scan 30 = .ok (.if_icmp .ge 25, 3) := by decide +kernel
theorem dX6_scan_33 : decode cX6_scan 33 = .ok (.aload_n 0, 1) := by decide +kernel
theorem dX6_scan_34 : decode cX6_scan 34 = .ok (.invokevirtual 32, 3) := by decide +kernel
theorem dX6_scan_37 : decode cX6_scan 37 = .ok (.ifCond .ne 8, 3) := by decide +kernel
theorem dX6_scan_40 : decode cX6_scan 40 = .ok (.aload_n 0, 1) := by decide +kernel
theorem dX6_scan_41 : decode cX6_scan 41 = .ok (.getfield 26, 3) := by decide +kernel
theorem dX6_scan_44 : decode cX6_scan 44 = .ok (.ireturn, 1) := by decide +kernel
theorem dX6_scan_45 : decode cX6_scan 45 = .ok (.aload_n 0, 1) := by decide +kernel
theorem dX6_scan_46 : decode cX6_scan 46 = .ok (.invokevirtual 29, 3) := by decide +kernel
theorem dX6_scan_49 : decode cX6_scan 49 = .ok (.iinc 1 1, 3) := by decide +kernel
theorem dX6_scan_52 : decode cX6_scan 52 = .ok (.goto (-36), 3) := by decide +kernel
theorem dX6_scan_55 : decode cX6_scan 55 = .ok (.iconst (-1), 1) := by decide +kernel
theorem dX6_scan_56 : decode cX6_scan 56 = .ok (.ireturn, 1) := by decide +kernel
theorem dX6_readEdge_0 : decode cX6_readEdge 0 = .ok (.aload_n 0, 1) := by decide +kernel
theorem dX6_readEdge_1 : decode cX6_readEdge 1 = .ok (.getfield 23, 3) := by decide +kernel
theorem dX6_readEdge_4 : decode cX6_readEdge 4 = .ok (.bipush 16, 2) := by decide +kernel
theorem dX6_readEdge_6 : decode cX6_readEdge 6 = .ok (.if_icmp .ge 10, 3) := by decide +kernel
theorem dX6_readEdge_9 : decode cX6_readEdge 9 = .ok (.aload_n 0, 1) := by decide +kernel
theorem dX6_readEdge_10 : decode cX6_readEdge 10 = .ok (.invokevirtual 36, 3) := by decide +kernel
theorem dX6_readEdge_13 : decode cX6_readEdge 13 = .ok (.goto 4, 3) := by decide +kernel
theorem dX6_readEdge_16 : decode cX6_readEdge 16 = .ok (.iconst (-1), 1) := by decide +kernel
theorem dX6_readEdge_17 : decode cX6_readEdge 17 = .ok (.istore_n 1, 1) := by decide +kernel
theorem dX6_readEdge_18 : decode cX6_readEdge 18 = .ok (.iload_n 1, 1) := by decide +kernel
theorem dX6_readEdge_19 : decode cX6_readEdge 19 = .ok (.iconst (-1), 1) := by decide +kernel
theorem dX6_readEdge_20 : decode cX6_readEdge 20 = .ok (.if_icmp .ne 5, 3) := by decide +kernel
theorem dX6_readEdge_23 : decode cX6_readEdge 23 = .ok (.iconst 0, 1) := by decide +kernel
theorem dX6_readEdge_24 : decode cX6_readEdge 24 = .ok (.ireturn, 1) := by decide +kernel
theorem dX6_readEdge_25 : decode cX6_readEdge 25 = .ok (.aload_n 0, 1) := by decide +kernel
theorem dX6_readEdge_26 : decode cX6_readEdge 26 = .ok (.iload_n 1, 1) := by decide +kernel
theorem dX6_readEdge_27 : decode cX6_readEdge 27 = .ok (.invokevirtual 40, 3) := by decide +kernel
theorem dX6_readEdge_30 : decode cX6_readEdge 30 = .ok (.istore_n 2, 1) := by decide +kernel
theorem dX6_readEdge_31 : decode cX6_readEdge 31 = .ok (.iload_n 2, 1) := by decide +kernel
theorem dX6_readEdge_32 : decode cX6_readEdge 32 = .ok (.iconst (-1), 1) := by decide +kernel
theorem dX6_readEdge_33 : decode cX6_readEdge 33 = .ok (.if_icmp .ne 5, 3) := by decide +kernel
theorem dX6_readEdge_36 : decode cX6_readEdge 36 = .ok (.iconst 0, 1) := by decide +kernel
theorem dX6_readEdge_37 : decode cX6_readEdge 37 = .ok (.ireturn, 1) := by decide +kernel
theorem dX6_readEdge_38 : decode cX6_readEdge 38 = .ok (.aload_n 0, 1) := by decide +kernel
theorem dX6_readEdge_39 : decode cX6_readEdge 39 = .ok (.invokevirtual 44, 3) := by decide +kernel
theorem dX6_readEdge_42 : decode cX6_readEdge 42 = .ok (.istore_n 3, 1) := by decide +kernel
theorem dX6_readEdge_43 : decode cX6_readEdge 43 = .ok (.iload_n 3, 1) := by decide +kernel
theorem dX6_readEdge_44 : decode cX6_readEdge 44 = .ok (.iconst (-1), 1) := by decide +kernel
theorem dX6_readEdge_45 : decode cX6_readEdge 45 = .ok (.if_icmp .eq 12, 3) := by decide +kernel
theorem dX6_readEdge_48 : decode cX6_readEdge 48 = .ok (.aload_n 0, 1) := by decide +kernel
theorem dX6_readEdge_49 : decode cX6_readEdge 49 = .ok (.bipush 43, 2) := by decide +kernel
theorem dX6_readEdge_51 : decode cX6_readEdge 51 = .ok (.invokevirtual 47, 3) := by decide +kernel
theorem dX6_readEdge_54 : decode cX6_readEdge 54 = .ok (.ifCond .ne 5, 3) := by decide +kernel
theorem dX6_readEdge_57 : decode cX6_readEdge 57 = .ok (.iconst 0, 1) := by decide +kernel
theorem dX6_readEdge_58 : decode cX6_readEdge 58 = .ok (.ireturn, 1) := by decide +kernel
theorem dX6_readEdge_59 : decode cX6_readEdge 59 = .ok (.aload_n 0, 1) := by decide +kernel
theorem dX6_readEdge_60 : decode cX6_readEdge 60 = .ok (.invokevirtual 51, 3) := by decide +kernel
theorem dX6_readEdge_63 : decode cX6_readEdge 63 = .ok (.istore 4, 2) := by decide +kernel
theorem dX6_readEdge_65 : decode cX6_readEdge 65 = .ok (.iload 4, 2) := by decide +kernel
theorem dX6_readEdge_67 : decode cX6_readEdge 67 = .ok (.iconst (-1), 1) := by decide +kernel
theorem dX6_readEdge_68 : decode cX6_readEdge 68 = .ok (.if_icmp .eq 12, 3) := by decide +kernel
theorem dX6_readEdge_71 : decode cX6_readEdge 71 = .ok (.aload_n 0, 1) := by decide +kernel
theorem dX6_readEdge_72 : decode cX6_readEdge 72 = .ok (.bipush 58, 2) := by decide +kernel
theorem dX6_readEdge_74 : decode cX6_readEdge 74 = .ok (.invokevirtual 47, 3) := by decide +kernel
theorem dX6_readEdge_77 : decode cX6_readEdge 77 = .ok (.ifCond .ne 5, 3) := by decide +kernel
theorem dX6_readEdge_80 : decode cX6_readEdge 80 = .ok (.iconst 0, 1) := by decide +kernel
theorem dX6_readEdge_81 : decode cX6_readEdge 81 = .ok (.ireturn, 1) := by decide +kernel
theorem dX6_readEdge_82 : decode cX6_readEdge 82 = .ok (.aload_n 0, 1) := by decide +kernel
theorem dX6_readEdge_83 : decode cX6_readEdge 83 = .ok (.invokevirtual 54, 3) := by decide +kernel
theorem dX6_readEdge_86 : decode cX6_readEdge 86 = .ok (.istore 5, 2) := by decide +kernel
theorem dX6_readEdge_88 : decode cX6_readEdge 88 = .ok (.iload 5, 2) := by decide +kernel
theorem dX6_readEdge_90 : decode cX6_readEdge 90 = .ok (.iconst (-1), 1) := by decide +kernel
theorem dX6_readEdge_91 : decode cX6_readEdge 91 = .ok (.if_icmp .ne 5, 3) := by decide +kernel
theorem dX6_readEdge_94 : decode cX6_readEdge 94 = .ok (.iconst 0, 1) := by decide +kernel
theorem dX6_readEdge_95 : decode cX6_readEdge 95 = .ok (.ireturn, 1) := by decide +kernel
theorem dX6_readEdge_96 : decode cX6_readEdge 96 = .ok (.aload_n 0, 1) := by decide +kernel
theorem dX6_readEdge_97 : decode cX6_readEdge 97 = .ok (.getfield 15, 3) := by decide +kernel
theorem dX6_readEdge_100 : decode cX6_readEdge 100 = .ok (.aload_n 0, 1) := by decide +kernel
theorem dX6_readEdge_101 : decode cX6_readEdge 101 = .ok (.getfield 23, 3) := by decide +kernel
theorem dX6_readEdge_104 : decode cX6_readEdge 104 = .ok (.iload_n 1, 1) := by decide +kernel
theorem dX6_readEdge_105 : decode cX6_readEdge 105 = .ok (.iload_n 2, 1) := by decide +kernel
theorem dX6_readEdge_106 : decode cX6_readEdge 106 = .ok (.iload_n 3, 1) := by decide +kernel
theorem dX6_readEdge_107 : decode cX6_readEdge 107 = .ok (.iload 4, 2) := by decide +kernel
theorem dX6_readEdge_109 : decode cX6_readEdge 109 = .ok (.iload 5, 2) := by decide +kernel
theorem dX6_readEdge_111 : decode cX6_readEdge 111 = .ok (.invokestatic 57, 3) := by decide +kernel
theorem dX6_readEdge_114 : decode cX6_readEdge 114 = .ok (.iastore, 1) := by decide +kernel
theorem dX6_readEdge_115 : decode cX6_readEdge 115 = .ok (.aload_n 0, 1) := by decide +kernel
theorem dX6_readEdge_116 : decode cX6_readEdge 116 = .ok (.dup, 1) := by decide +kernel
theorem dX6_readEdge_117 : decode cX6_readEdge 117 = .ok (.getfield 23, 3) := by decide +kernel
theorem dX6_readEdge_120 : decode cX6_readEdge 120 = .ok (.iconst 1, 1) := by decide +kernel
theorem dX6_readEdge_121 : decode cX6_readEdge 121 = .ok (.iadd, 1) := by decide +kernel
theorem dX6_readEdge_122 : decode cX6_readEdge 122 = .ok (.putfield 23, 3) := by decide +kernel
theorem dX6_readEdge_125 : decode cX6_readEdge 125 = .ok (.iconst 1, 1) := by decide +kernel
theorem dX6_readEdge_126 : decode cX6_readEdge 126 = .ok (.ireturn, 1) := by decide +kernel
theorem dX6_readNode_0 : decode cX6_readNode 0 = .ok (.aload_n 0, 1) := by decide +kernel
theorem dX6_readNode_1 : decode cX6_readNode 1 = .ok (.invokevirtual 29, 3) := by decide +kernel
theorem dX6_readNode_4 : decode cX6_readNode 4 = .ok (.aload_n 0, 1) := by decide +kernel
theorem dX6_readNode_5 : decode cX6_readNode 5 = .ok (.aload_n 0, 1) := by decide +kernel
theorem dX6_readNode_6 : decode cX6_readNode 6 = .ok (.getfield 26, 3) := by decide +kernel
theorem dX6_readNode_9 : decode cX6_readNode 9 = .ok (.invokevirtual 63, 3) := by decide +kernel
theorem dX6_readNode_12 : decode cX6_readNode 12 = .ok (.istore_n 1, 1) := by decide +kernel
theorem dX6_readNode_13 : decode cX6_readNode 13 = .ok (.iload_n 1, 1) := by decide +kernel
theorem dX6_readNode_14 : decode cX6_readNode 14 = .ok (.bipush 97, 2) := by decide +kernel
theorem dX6_readNode_16 : decode cX6_readNode 16 = .ok (.if_icmp .lt 9, 3) := by decide +kernel
theorem dX6_readNode_19 : decode cX6_readNode 19 = .ok (.iload_n 1, 1) := by decide +kernel
theorem dX6_readNode_20 : decode cX6_readNode 20 = .ok (.bipush 104, 2) := by decide +kernel
theorem dX6_readNode_22 : decode cX6_readNode 22 = .ok (.if_icmp .le 5, 3) := by decide +kernel
theorem dX6_readNode_25 : decode cX6_readNode 25 = .ok (.iconst (-1), 1) := by decide +kernel
theorem dX6_readNode_26 : decode cX6_readNode 26 = .ok (.ireturn, 1) := by decide +kernel
theorem dX6_readNode_27 : decode cX6_readNode 27 = .ok (.aload_n 0, 1) := by decide +kernel
theorem dX6_readNode_28 : decode cX6_readNode 28 = .ok (.dup, 1) := by decide +kernel
theorem dX6_readNode_29 : decode cX6_readNode 29 = .ok (.getfield 26, 3) := by decide +kernel
theorem dX6_readNode_32 : decode cX6_readNode 32 = .ok (.iconst 1, 1) := by decide +kernel
theorem dX6_readNode_33 : decode cX6_readNode 33 = .ok (.iadd, 1) := by decide +kernel
theorem dX6_readNode_34 : decode cX6_readNode 34 = .ok (.putfield 26, 3) := by decide +kernel
theorem dX6_readNode_37 : decode cX6_readNode 37 = .ok (.iload_n 1, 1) := by decide +kernel
theorem dX6_readNode_38 : decode cX6_readNode 38 = .ok (.bipush 97, 2) := by decide +kernel
theorem dX6_readNode_40 : decode cX6_readNode 40 = .ok (.isub, 1) := by decide +kernel
theorem dX6_readNode_41 : decode cX6_readNode 41 = .ok (.ireturn, 1) := by decide +kernel
theorem dX6_readOtherNode_0 : decode cX6_readOtherNode 0 = .ok (.aload_n 0, 1) := by decide +kernel
theorem dX6_readOtherNode_1 : decode cX6_readOtherNode 1 = .ok (.invokevirtual 36, 3) := by decide +kernel
theorem dX6_readOtherNode_4 : decode cX6_readOtherNode 4 = .ok (.istore_n 2, 1) := by decide +kernel
theorem dX6_readOtherNode_5 : decode cX6_readOtherNode 5 = .ok (.iload_n 2, 1) := by decide +kernel
theorem dX6_readOtherNode_6 : decode cX6_readOtherNode 6 = .ok (.iload_n 1, 1) := by decide +kernel
theorem dX6_readOtherNode_7 : decode cX6_readOtherNode 7 = .ok (.if_icmp .ne 15, 3) := by decide +kernel
theorem dX6_readOtherNode_10 : decode cX6_readOtherNode 10 = .ok (.aload_n 0, 1) := by decide +kernel
theorem dX6_readOtherNode_11 : decode cX6_readOtherNode 11 = .ok (.dup, 1) := by decide +kernel
theorem dX6_readOtherNode_12 : decode cX6_readOtherNode 12 = .ok (.getfield 26, 3) := by decide +kernel
theorem dX6_readOtherNode_15 : decode cX6_readOtherNode 15 = .ok (.iconst 1, 1) := by decide +kernel
theorem dX6_readOtherNode_16 : decode cX6_readOtherNode 16 = .ok (.isub, 1) := by decide +kernel
theorem dX6_readOtherNode_17 : decode cX6_readOtherNode 17 = .ok (.putfield 26, 3) := by decide +kernel
theorem dX6_readOtherNode_20 : decode cX6_readOtherNode 20 = .ok (.iconst (-1), 1) := by decide +kernel
theorem dX6_readOtherNode_21 : decode cX6_readOtherNode 21 = .ok (.ireturn, 1) := by decide +kernel
theorem dX6_readOtherNode_22 : decode cX6_readOtherNode 22 = .ok (.iload_n 2, 1) := by decide +kernel
theorem dX6_readOtherNode_23 : decode cX6_readOtherNode 23 = .ok (.ireturn, 1) := by decide +kernel
theorem dX6_readNumber_0 : decode cX6_readNumber 0 = .ok (.aload_n 0, 1) := by decide +kernel
theorem dX6_readNumber_1 : decode cX6_readNumber 1 = .ok (.invokevirtual 29, 3) := by decide +kernel
theorem dX6_readNumber_4 : decode cX6_readNumber 4 = .ok (.aload_n 0, 1) := by decide +kernel
theorem dX6_readNumber_5 : decode cX6_readNumber 5 = .ok (.aload_n 0, 1) := by decide +kernel
theorem dX6_readNumber_6 : decode cX6_readNumber 6 = .ok (.getfield 26, 3) := by decide +kernel
theorem dX6_readNumber_9 : decode cX6_readNumber 9 = .ok (.invokevirtual 66, 3) := by decide +kernel
theorem dX6_readNumber_12 : decode cX6_readNumber 12 = .ok (.istore_n 1, 1) := by decide +kernel
theorem dX6_readNumber_13 : decode cX6_readNumber 13 = .ok (.iload_n 1, 1) := by decide +kernel
theorem dX6_readNumber_14 : decode cX6_readNumber 14 = .ok (.iconst (-1), 1) := by decide +kernel
theorem dX6_readNumber_15 : decode cX6_readNumber 15 = .ok (.if_icmp .ne 5, 3) := by decide +kernel
theorem dX6_readNumber_18 : decode cX6_readNumber 18 = .ok (.iconst (-1), 1) := by decide +kernel
theorem dX6_readNumber_19 : decode cX6_readNumber 19 = .ok (.ireturn, 1) := by decide +kernel
theorem dX6_readNumber_20 : decode cX6_readNumber 20 = .ok (.aload_n 0, 1) := by decide +kernel
theorem dX6_readNumber_21 : decode cX6_readNumber 21 = .ok (.dup, 1) := by decide +kernel
theorem dX6_readNumber_22 : decode cX6_readNumber 22 = .ok (.getfield 26, 3) := by decide +kernel
theorem dX6_readNumber_25 : decode cX6_readNumber 25 = .ok (.iconst 1, 1) := by decide +kernel
theorem dX6_readNumber_26 : decode cX6_readNumber 26 = .ok (.iadd, 1) := by decide +kernel
theorem dX6_readNumber_27 : decode cX6_readNumber 27 = .ok (.putfield 26, 3) := by decide +kernel
theorem dX6_readNumber_30 : decode cX6_readNumber 30 = .ok (.aload_n 0, 1) := by decide +kernel
theorem dX6_readNumber_31 : decode cX6_readNumber 31 = .ok (.aload_n 0, 1) := by decide +kernel
theorem dX6_readNumber_32 : decode cX6_readNumber 32 = .ok (.getfield 26, 3) := by decide +kernel
theorem dX6_readNumber_35 : decode cX6_readNumber 35 = .ok (.invokevirtual 66, 3) := by decide +kernel
theorem dX6_readNumber_38 : decode cX6_readNumber 38 = .ok (.istore_n 2, 1) := by decide +kernel
theorem dX6_readNumber_39 : decode cX6_readNumber 39 = .ok (.iload_n 2, 1) := by decide +kernel
theorem dX6_readNumber_40 : decode cX6_readNumber 40 = .ok (.iconst (-1), 1) := by decide +kernel
theorem dX6_readNumber_41 : decode cX6_readNumber 41 = .ok (.if_icmp .ne 5, 3) := by decide +kernel
theorem dX6_readNumber_44 : decode cX6_readNumber 44 = .ok (.iload_n 1, 1) := by decide +kernel
theorem dX6_readNumber_45 : decode cX6_readNumber 45 = .ok (.ireturn, 1) := by decide +kernel
theorem dX6_readNumber_46 : decode cX6_readNumber 46 = .ok (.aload_n 0, 1) := by decide +kernel
theorem dX6_readNumber_47 : decode cX6_readNumber 47 = .ok (.dup, 1) := by decide +kernel
theorem dX6_readNumber_48 : decode cX6_readNumber 48 = .ok (.getfield 26, 3) := by decide +kernel
theorem dX6_readNumber_51 : decode cX6_readNumber 51 = .ok (.iconst 1, 1) := by decide +kernel
theorem dX6_readNumber_52 : decode cX6_readNumber 52 = .ok (.iadd, 1) := by decide +kernel
theorem dX6_readNumber_53 : decode cX6_readNumber 53 = .ok (.putfield 26, 3) := by decide +kernel
theorem dX6_readNumber_56 : decode cX6_readNumber 56 = .ok (.bipush 10, 2) := by decide +kernel
theorem dX6_readNumber_58 : decode cX6_readNumber 58 = .ok (.iload_n 1, 1) := by decide +kernel
theorem dX6_readNumber_59 : decode cX6_readNumber 59 = .ok (.imul, 1) := by decide +kernel
theorem dX6_readNumber_60 : decode cX6_readNumber 60 = .ok (.iload_n 2, 1) := by decide +kernel
theorem dX6_readNumber_61 : decode cX6_readNumber 61 = .ok (.iadd, 1) := by decide +kernel
theorem dX6_readNumber_62 : decode cX6_readNumber 62 = .ok (.ireturn, 1) := by decide +kernel
theorem dX6_readDelay_0 : decode cX6_readDelay 0 = .ok (.aload_n 0, 1) := by decide +kernel
theorem dX6_readDelay_1 : decode cX6_readDelay 1 = .ok (.bipush 120, 2) := by decide +kernel
theorem dX6_readDelay_3 : decode cX6_readDelay 3 = .ok (.invokevirtual 47, 3) := by decide +kernel
theorem dX6_readDelay_6 : decode cX6_readDelay 6 = .ok (.ifCond .eq 6, 3) := by decide +kernel
theorem dX6_readDelay_9 : decode cX6_readDelay 9 = .ok (.bipush 100, 2) := by decide +kernel
theorem dX6_readDelay_11 : decode cX6_readDelay 11 = .ok (.ireturn, 1) := by decide +kernel
theorem dX6_readDelay_12 : decode cX6_readDelay 12 = .ok (.aload_n 0, 1) := by decide +kernel
theorem dX6_readDelay_13 : decode cX6_readDelay 13 = .ok (.invokevirtual 44, 3) := by decide +kernel
theorem dX6_readDelay_16 : decode cX6_readDelay 16 = .ok (.istore_n 1, 1) := by decide +kernel
theorem dX6_readDelay_17 : decode cX6_readDelay 17 = .ok (.iload_n 1, 1) := by decide +kernel
theorem dX6_readDelay_18 : decode cX6_readDelay 18 = .ok (.ifCond .ne 15, 3) := by decide +kernel
theorem dX6_readDelay_21 : decode cX6_readDelay 21 = .ok (.aload_n 0, 1) := by decide +kernel
theorem dX6_readDelay_22 : decode cX6_readDelay 22 = .ok (.dup, 1) := by decide +kernel
theorem dX6_readDelay_23 : decode cX6_readDelay 23 = .ok (.getfield 26, 3) := by decide +kernel
theorem dX6_readDelay_26 : decode cX6_readDelay 26 = .ok (.iconst 1, 1) := by decide +kernel
theorem dX6_readDelay_27 : decode cX6_readDelay 27 = .ok (.isub, 1) := by decide +kernel
theorem dX6_readDelay_28 : decode cX6_readDelay 28 = .ok (.putfield 26, 3) := by decide +kernel
theorem dX6_readDelay_31 : decode cX6_readDelay 31 = .ok (.iconst (-1), 1) := by decide +kernel
theorem dX6_readDelay_32 : decode cX6_readDelay 32 = .ok (.ireturn, 1) := by decide +kernel
theorem dX6_readDelay_33 : decode cX6_readDelay 33 = .ok (.iload_n 1, 1) := by decide +kernel
theorem dX6_readDelay_34 : decode cX6_readDelay 34 = .ok (.ireturn, 1) := by decide +kernel
theorem dX6_readCost_0 : decode cX6_readCost 0 = .ok (.aload_n 0, 1) := by decide +kernel
theorem dX6_readCost_1 : decode cX6_readCost 1 = .ok (.invokevirtual 29, 3) := by decide +kernel
theorem dX6_readCost_4 : decode cX6_readCost 4 = .ok (.aload_n 0, 1) := by decide +kernel
theorem dX6_readCost_5 : decode cX6_readCost 5 = .ok (.aload_n 0, 1) := by decide +kernel
theorem dX6_readCost_6 : decode cX6_readCost 6 = .ok (.getfield 26, 3) := by decide +kernel
theorem dX6_readCost_9 : decode cX6_readCost 9 = .ok (.invokevirtual 66, 3) := by decide +kernel
theorem dX6_readCost_12 : decode cX6_readCost 12 = .ok (.istore_n 1, 1) := by decide +kernel
theorem dX6_readCost_13 : decode cX6_readCost 13 = .ok (.iload_n 1, 1) := by decide +kernel
theorem dX6_readCost_14 : decode cX6_readCost 14 = .ok (.iconst 1, 1) := by decide +kernel
theorem dX6_readCost_15 : decode cX6_readCost 15 = .ok (.if_icmp .ge 5, 3) := by decide +kernel
theorem dX6_readCost_18 : decode cX6_readCost 18 = .ok (.iconst (-1), 1) := by decide +kernel
theorem dX6_readCost_19 : decode cX6_readCost 19 = .ok (.ireturn, 1) := by decide +kernel
theorem dX6_readCost_20 : decode cX6_readCost 20 = .ok (.aload_n 0, 1) := by decide +kernel
theorem dX6_readCost_21 : decode cX6_readCost 21 = .ok (.dup, 1) := by decide +kernel
theorem dX6_readCost_22 : decode cX6_readCost 22 = .ok (.getfield 26, 3) := by decide +kernel
theorem dX6_readCost_25 : decode cX6_readCost 25 = .ok (.iconst 1, 1) := by decide +kernel
theorem dX6_readCost_26 : decode cX6_readCost 26 = .ok (.iadd, 1) := by decide +kernel
theorem dX6_readCost_27 : decode cX6_readCost 27 = .ok (.putfield 26, 3) := by decide +kernel
theorem dX6_readCost_30 : decode cX6_readCost 30 = .ok (.iload_n 1, 1) := by decide +kernel
theorem dX6_readCost_31 : decode cX6_readCost 31 = .ok (.ireturn, 1) := by decide +kernel
end
section
/-! decode rows -/
theorem dX6_readSign_0 : decode cX6_readSign 0 = .ok (.aload_n 0, 1) := by decide +kernel
theorem dX6_readSign_1 : decode cX6_readSign 1 = .ok (.invokevirtual 29, 3) := by decide +kernel
theorem dX6_readSign_4 : decode cX6_readSign 4 = .ok (.aload_n 0, 1) := by decide +kernel
theorem dX6_readSign_5 : decode cX6_readSign 5 = .ok (.aload_n 0, 1) := by decide +kernel
theorem dX6_readSign_6 : decode cX6_readSign 6 = .ok (.getfield 26, 3) := by decide +kernel
theorem dX6_readSign_9 : decode cX6_readSign 9 = .ok (.invokevirtual 63, 3) := by decide +kernel
theorem dX6_readSign_12 : decode cX6_readSign 12 = .ok (.iload_n 1, 1) := by decide +kernel
theorem dX6_readSign_13 : decode cX6_readSign 13 = .ok (.if_icmp .eq 5, 3) := by decide +kernel
theorem dX6_readSign_16 : decode cX6_readSign 16 = .ok (.iconst 0, 1) := by decide +kernel
theorem dX6_readSign_17 : decode cX6_readSign 17 = .ok (.ireturn, 1) := by decide +kernel
theorem dX6_readSign_18 : decode cX6_readSign 18 = .ok (.aload_n 0, 1) := by decide +kernel
theorem dX6_readSign_19 : decode cX6_readSign 19 = .ok (.dup, 1) := by decide +kernel
theorem dX6_readSign_20 : decode cX6_readSign 20 = .ok (.getfield 26, 3) := by decide +kernel
theorem dX6_readSign_23 : decode cX6_readSign 23 = .ok (.iconst 1, 1) := by decide +kernel
theorem dX6_readSign_24 : decode cX6_readSign 24 = .ok (.iadd, 1) := by decide +kernel
theorem dX6_readSign_25 : decode cX6_readSign 25 = .ok (.putfield 26, 3) := by decide +kernel
theorem dX6_readSign_28 : decode cX6_readSign 28 = .ok (.iconst 1, 1) := by decide +kernel
theorem dX6_readSign_29 : decode cX6_readSign 29 = .ok (.ireturn, 1) := by decide +kernel
theorem dX6_skipBlanks_0 : decode cX6_skipBlanks 0 = .ok (.aload_n 0, 1) := by decide +kernel
theorem dX6_skipBlanks_1 : decode cX6_skipBlanks 1 = .ok (.getfield 26, 3) := by decide +kernel
theorem dX6_skipBlanks_4 : decode cX6_skipBlanks 4 = .ok (.aload_n 0, 1) := by decide +kernel
theorem dX6_skipBlanks_5 : decode cX6_skipBlanks 5 = .ok (.getfield 19, 3) := by decide +kernel
theorem dX6_skipBlanks_8 : decode cX6_skipBlanks 8 = .ok (.if_icmp .ge 29, 3) := by decide +kernel
theorem dX6_skipBlanks_11 : decode cX6_skipBlanks 11 = .ok (.aload_n 0, 1) := by decide +kernel
theorem dX6_skipBlanks_12 : decode cX6_skipBlanks 12 = .ok (.aload_n 0, 1) := by decide +kernel
theorem dX6_skipBlanks_13 : decode cX6_skipBlanks 13 = .ok (.getfield 26, 3) := by decide +kernel
theorem dX6_skipBlanks_16 : decode cX6_skipBlanks 16 = .ok (.invokevirtual 63, 3) := by decide +kernel
theorem dX6_skipBlanks_19 : decode cX6_skipBlanks 19 = .ok (.bipush 32, 2) := by decide +kernel
theorem dX6_skipBlanks_21 : decode cX6_skipBlanks 21 = .ok (.if_icmp .ne 16, 3) := by decide +kernel
theorem dX6_skipBlanks_24 : decode cX6_skipBlanks 24 = .ok (.aload_n 0, 1) := by decide +kernel
theorem dX6_skipBlanks_25 : decode cX6_skipBlanks 25 = .ok (.dup, 1) := by decide +kernel
theorem dX6_skipBlanks_26 : decode cX6_skipBlanks 26 = .ok (.getfield 26, 3) := by decide +kernel
theorem dX6_skipBlanks_29 : decode cX6_skipBlanks 29 = .ok (.iconst 1, 1) := by decide +kernel
theorem dX6_skipBlanks_30 : decode cX6_skipBlanks 30 = .ok (.iadd, 1) := by decide +kernel
theorem dX6_skipBlanks_31 : decode cX6_skipBlanks 31 = .ok (.putfield 26, 3) := by decide +kernel
theorem dX6_skipBlanks_34 : decode cX6_skipBlanks 34 = .ok (.goto (-34), 3) := by decide +kernel
theorem dX6_skipBlanks_37 : decode cX6_skipBlanks 37 = .ok (.return_, 1) := by decide +kernel
theorem dX6_digitAt_0 : decode cX6_digitAt 0 = .ok (.aload_n 0, 1) := by decide +kernel
theorem dX6_digitAt_1 : decode cX6_digitAt 1 = .ok (.iload_n 1, 1) := by decide +kernel
theorem dX6_digitAt_2 : decode cX6_digitAt 2 = .ok (.invokevirtual 63, 3) := by decide +kernel
theorem dX6_digitAt_5 : decode cX6_digitAt 5 = .ok (.istore_n 2, 1) := by decide +kernel
theorem dX6_digitAt_6 : decode cX6_digitAt 6 = .ok (.iload_n 2, 1) := by decide +kernel
theorem dX6_digitAt_7 : decode cX6_digitAt 7 = .ok (.bipush 48, 2) := by decide +kernel
theorem dX6_digitAt_9 : decode cX6_digitAt 9 = .ok (.if_icmp .lt 16, 3) := by decide +kernel
theorem dX6_digitAt_12 : decode cX6_digitAt 12 = .ok (.iload_n 2, 1) := by decide +kernel
theorem dX6_digitAt_13 : decode cX6_digitAt 13 = .ok (.bipush 57, 2) := by decide +kernel
theorem dX6_digitAt_15 : decode cX6_digitAt 15 = .ok (.if_icmp .gt 10, 3) := by decide +kernel
theorem dX6_digitAt_18 : decode cX6_digitAt 18 = .ok (.iload_n 2, 1) := by decide +kernel
theorem dX6_digitAt_19 : decode cX6_digitAt 19 = .ok (.bipush 48, 2) := by decide +kernel
theorem dX6_digitAt_21 : decode cX6_digitAt 21 = .ok (.isub, 1) := by decide +kernel
theorem dX6_digitAt_22 : decode cX6_digitAt 22 = .ok (.goto 4, 3) := by decide +kernel
theorem dX6_digitAt_25 : decode cX6_digitAt 25 = .ok (.iconst (-1), 1) := by decide +kernel
theorem dX6_digitAt_26 : decode cX6_digitAt 26 = .ok (.ireturn, 1) := by decide +kernel
theorem dX7_init_0 : decode cX7_init 0 = .ok (.aload_n 0, 1) := by decide +kernel
theorem dX7_init_1 : decode cX7_init 1 = .ok (.invokespecial 3, 3) := by decide +kernel
theorem dX7_init_4 : decode cX7_init 4 = .ok (.aload_n 0, 1) := by decide +kernel
theorem dX7_init_5 : decode cX7_init 5 = .ok (.bipush 16, 2) := by decide +kernel
theorem dX7_init_7 : decode cX7_init 7 = .ok (.newarray .int, 2) := by decide +kernel
theorem dX7_init_9 : decode cX7_init 9 = .ok (.putfield 9, 3) := by decide +kernel
theorem dX7_init_12 : decode cX7_init 12 = .ok (.aload_n 0, 1) := by decide +kernel
theorem dX7_init_13 : decode cX7_init 13 = .ok (.bipush 8, 2) := by decide +kernel
theorem dX7_init_15 : decode cX7_init 15 = .ok (.newarray .int, 2) := by decide +kernel
theorem dX7_init_17 : decode cX7_init 17 = .ok (.putfield 15, 3) := by decide +kernel
theorem dX7_init_20 : decode cX7_init 20 = .ok (.aload_n 0, 1) := by decide +kernel
theorem dX7_init_21 : decode cX7_init 21 = .ok (.iconst 0, 1) := by decide +kernel
theorem dX7_init_22 : decode cX7_init 22 = .ok (.putfield 18, 3) := by decide +kernel
theorem dX7_init_25 : decode cX7_init 25 = .ok (.aload_n 0, 1) := by decide +kernel
theorem dX7_init_26 : decode cX7_init 26 = .ok (.bipush 100, 2) := by decide +kernel
theorem dX7_init_28 : decode cX7_init 28 = .ok (.newarray .int, 2) := by decide +kernel
theorem dX7_init_30 : decode cX7_init 30 = .ok (.putfield 22, 3) := by decide +kernel
theorem dX7_init_33 : decode cX7_init 33 = .ok (.aload_n 0, 1) := by decide +kernel
theorem dX7_init_34 : decode cX7_init 34 = .ok (.iconst 0, 1) := by decide +kernel
theorem dX7_init_35 : decode cX7_init 35 = .ok (.putfield 25, 3) := by decide +kernel
theorem dX7_init_38 : decode cX7_init 38 = .ok (.aload_n 0, 1) := by decide +kernel
theorem dX7_init_39 : decode cX7_init 39 = .ok (.iconst 0, 1) := by decide +kernel
theorem dX7_init_40 : decode cX7_init 40 = .ok (.putfield 28, 3) := by decide +kernel
theorem dX7_init_43 : decode cX7_init 43 = .ok (.aload_n 0, 1) := by decide +kernel
theorem dX7_init_44 : decode cX7_init 44 = .ok (.iconst 0, 1) := by decide +kernel
theorem dX7_init_45 : decode cX7_init 45 = .ok (.putfield 31, 3) := by decide +kernel
theorem dX7_init_48 : decode cX7_init 48 = .ok (.aload_n 0, 1) := by decide +kernel
theorem dX7_init_49 : decode cX7_init 49 = .ok (.iconst 0, 1) := by decide +kernel
theorem dX7_init_50 : decode cX7_init 50 = .ok (.putfield 34, 3) := by decide +kernel
theorem dX7_init_53 : decode cX7_init 53 = .ok (.aload_n 0, 1) := by decide +kernel
theorem dX7_init_54 : decode cX7_init 54 = .ok (.iconst 0, 1) := by decide +kernel
theorem dX7_init_55 : decode cX7_init 55 = .ok (.putfield 37, 3) := by decide +kernel
theorem dX7_init_58 : decode cX7_init 58 = .ok (.aload_n 0, 1) := by decide +kernel
theorem dX7_init_59 : decode cX7_init 59 = .ok (.iconst 0, 1) := by decide +kernel
theorem dX7_init_60 : decode cX7_init 60 = .ok (.putfield 40, 3) := by decide +kernel
theorem dX7_init_63 : decode cX7_init 63 = .ok (.aload_n 0, 1) := by decide +kernel
theorem dX7_init_64 : decode cX7_init 64 = .ok (.aload_n 1, 1) := by decide +kernel
theorem dX7_init_65 : decode cX7_init 65 = .ok (.putfield 44, 3) := by decide +kernel
theorem dX7_init_68 : decode cX7_init 68 = .ok (.return_, 1) := by decide +kernel
theorem dX7_findFirst_0 : decode cX7_findFirst 0 = .ok (.aload_n 0, 1) := by decide +kernel
theorem dX7_findFirst_1 : decode cX7_findFirst 1 = .ok (.iconst 1, 1) := by decide +kernel
theorem dX7_findFirst_2 : decode cX7_findFirst 2 = .ok (.putfield 40, 3) := by decide +kernel
theorem dX7_findFirst_5 : decode cX7_findFirst 5 = .ok (.aload_n 0, 1) := by decide +kernel
theorem dX7_findFirst_6 : decode cX7_findFirst 6 = .ok (.iload_n 1, 1) := by decide +kernel
theorem dX7_findFirst_7 : decode cX7_findFirst 7 = .ok (.iload_n 2, 1) := by decide +kernel
theorem dX7_findFirst_8 : decode cX7_findFirst 8 = .ok (.iload_n 3, 1) := by decide +kernel
theorem dX7_findFirst_9 : decode cX7_findFirst 9 = .ok (.iconst 0, 1) := by decide +kernel
theorem dX7_findFirst_10 : decode cX7_findFirst 10 = .ok (.invokevirtual 48, 3) := by decide +kernel
theorem dX7_findFirst_13 : decode cX7_findFirst 13 = .ok (.ifCond .le 7, 3) := by decide +kernel
theorem dX7_findFirst_16 : decode cX7_findFirst 16 = .ok (.iconst 1, 1) := by decide +kernel
theorem dX7_findFirst_17 : decode cX7_findFirst 17 = .ok (.goto 4, 3) := by decide +kernel
theorem dX7_findFirst_20 : decode cX7_findFirst 20 = .ok (.iconst 0, 1) := by decide +kernel
theorem dX7_findFirst_21 : decode cX7_findFirst 21 = .ok (.ireturn, 1) := by decide +kernel
theorem dX7_trailEdge_0 : decode cX7_trailEdge 0 = .ok (.iload_n 1, 1) := by decide +kernel
theorem dX7_trailEdge_1 : decode cX7_trailEdge 1 = .ok (.ifCond .lt 26, 3) := by decide +kernel
theorem dX7_trailEdge_4 : decode cX7_trailEdge 4 = .ok (.iload_n 1, 1) := by decide +kernel
theorem dX7_trailEdge_5 : decode cX7_trailEdge 5 = .ok (.aload_n 0, 1) := by decide +kernel
theorem dX7_trailEdge_6 : decode cX7_trailEdge 6 = .ok (.getfield 18, 3) := by decide +kernel
theorem dX7_trailEdge_9 : decode cX7_trailEdge 9 = .ok (.if_icmp .ge 18, 3) := by decide +kernel
theorem dX7_trailEdge_12 : decode cX7_trailEdge 12 = .ok (.iload_n 1, 1) := by decide +kernel
theorem dX7_trailEdge_13 : decode cX7_trailEdge 13 = .ok (.bipush 8, 2) := by decide +kernel
theorem dX7_trailEdge_15 : decode cX7_trailEdge 15 = .ok (.if_icmp .ge 12, 3) := by decide +kernel
theorem dX7_trailEdge_18 : decode cX7_trailEdge 18 = .ok (.aload_n 0, 1) := by decide +kernel
theorem dX7_trailEdge_19 : decode cX7_trailEdge 19 = .ok (.getfield 15, 3) := by decide +kernel
theorem dX7_trailEdge_22 : decode cX7_trailEdge 22 = .ok (.iload_n 1, 1) := by decide +kernel
theorem dX7_trailEdge_23 : decode cX7_trailEdge 23 = .ok (.iaload, 1) := by decide +kernel
theorem dX7_trailEdge_24 : decode cX7_trailEdge 24 = .ok (.goto 4, 3) := by decide +kernel
theorem dX7_trailEdge_27 : decode cX7_trailEdge 27 = .ok (.iconst (-1), 1) := by decide +kernel
theorem dX7_trailEdge_28 : decode cX7_trailEdge 28 = .ok (.ireturn, 1) := by decide +kernel
theorem dX7_countUpTo_0 : decode cX7_countUpTo 0 = .ok (.aload_n 0, 1) := by decide +kernel
theorem dX7_countUpTo_1 : decode cX7_countUpTo 1 = .ok (.iconst 0, 1) := by decide +kernel
theorem dX7_countUpTo_2 : decode cX7_countUpTo 2 = .ok (.putfield 40, 3) := by decide +kernel
theorem dX7_countUpTo_5 : decode cX7_countUpTo 5 = .ok (.aload_n 0, 1) := by decide +kernel
theorem dX7_countUpTo_6 : decode cX7_countUpTo 6 = .ok (.iload_n 1, 1) := by decide +kernel
theorem dX7_countUpTo_7 : decode cX7_countUpTo 7 = .ok (.iload_n 2, 1) := by decide +kernel
theorem dX7_countUpTo_8 : decode cX7_countUpTo 8 = .ok (.iload_n 3, 1) := by decide +kernel
theorem dX7_countUpTo_9 : decode cX7_countUpTo 9 = .ok (.iconst 0, 1) := by decide +kernel
theorem dX7_countUpTo_10 : decode cX7_countUpTo 10 = .ok (.invokevirtual 48, 3) := by decide +kernel
theorem dX7_countUpTo_13 : decode cX7_countUpTo 13 = .ok (.ireturn, 1) := by decide +kernel
theorem dX7_rankedLength_0 : decode cX7_rankedLength 0 = .ok (.iload_n 3, 1) := by decide +kernel
theorem dX7_rankedLength_1 : decode cX7_rankedLength 1 = .ok (.ifCond .lt 9, 3) := by decide +kernel
theorem dX7_rankedLength_4 : decode cX7_rankedLength 4 = .ok (.iload_n 3, 1) := by decide +kernel
theorem dX7_rankedLength_5 : decode cX7_rankedLength 5 = .ok (.bipush 100, 2) := by decide +kernel
theorem dX7_rankedLength_7 : decode cX7_rankedLength 7 = .ok (.if_icmp .lt 5, 3) := by decide +kernel
theorem dX7_rankedLength_10 : decode cX7_rankedLength 10 = .ok (.iconst (-1), 1) := by decide +kernel
theorem dX7_rankedLength_11 : decode cX7_rankedLength 11 = .ok (.ireturn, 1) := by decide +kernel
theorem dX7_rankedLength_12 : decode cX7_rankedLength 12 = .ok (.aload_n 0, 1) := by decide +kernel
theorem dX7_rankedLength_13 : decode cX7_rankedLength 13 = .ok (.iconst 0, 1) := by decide +kernel
theorem dX7_rankedLength_14 : decode cX7_rankedLength 14 = .ok (.putfield 40, 3) := by decide +kernel
theorem dX7_rankedLength_17 : decode cX7_rankedLength 17 = .ok (.aload_n 0, 1) := by decide +kernel
theorem dX7_rankedLength_18 : decode cX7_rankedLength 18 = .ok (.iload_n 1, 1) := by decide +kernel
theorem dX7_rankedLength_19 : decode cX7_rankedLength 19 = .ok (.iload_n 2, 1) := by decide +kernel
theorem dX7_rankedLength_20 : decode cX7_rankedLength 20 = .ok (.sipush 9999, 3) := by decide +kernel
theorem dX7_rankedLength_23 : decode cX7_rankedLength 23 = .ok (.iload_n 3, 1) := by decide +kernel
theorem dX7_rankedLength_24 : decode cX7_rankedLength 24 = .ok (.iconst 1, 1) := by decide +kernel
theorem dX7_rankedLength_25 : decode cX7_rankedLength 25 = .ok (.iadd, 1) := by decide +kernel
theorem dX7_rankedLength_26 : decode cX7_rankedLength 26 = .ok (.invokevirtual 48, 3) := by decide +kernel
theorem dX7_rankedLength_29 : decode cX7_rankedLength 29 = .ok (.pop, 1) := by decide +kernel
theorem dX7_rankedLength_30 : decode cX7_rankedLength 30 = .ok (.iload_n 3, 1) := by decide +kernel
theorem dX7_rankedLength_31 : decode cX7_rankedLength 31 = .ok (.aload_n 0, 1) := by decide +kernel
theorem dX7_rankedLength_32 : decode cX7_rankedLength 32 = .ok (.getfield 25, 3) := by decide +kernel
theorem dX7_rankedLength_35 : decode cX7_rankedLength 35 = .ok (.if_icmp .ge 12, 3) := by decide +kernel
theorem dX7_rankedLength_38 : decode cX7_rankedLength 38 = .ok (.aload_n 0, 1) := by decide +kernel
theorem dX7_rankedLength_39 : decode cX7_rankedLength 39 = .ok (.getfield 22, 3) := by decide +kernel
theorem dX7_rankedLength_42 : decode cX7_rankedLength 42 = .ok (.iload_n 3, 1) := by decide +kernel
theorem dX7_rankedLength_43 : decode cX7_rankedLength 43 = .ok (.iaload, 1) := by decide +kernel
theorem dX7_rankedLength_44 : decode cX7_rankedLength 44 = .ok (.goto 4, 3) := by decide +kernel
theorem dX7_rankedLength_47 : decode cX7_rankedLength 47 = .ok (.iconst (-1), 1) := by decide +kernel
theorem dX7_rankedLength_48 : decode cX7_rankedLength 48 = .ok (.ireturn, 1) := by decide +kernel
theorem dX7_begin_0 : decode cX7_begin 0 = .ok (.aload_n 0, 1) := by decide +kernel
theorem dX7_begin_1 : decode cX7_begin 1 = .ok (.iload_n 2, 1) := by decide +kernel
theorem dX7_begin_2 : decode cX7_begin 2 = .ok (.putfield 31, 3) := by decide +kernel
theorem dX7_begin_5 : decode cX7_begin 5 = .ok (.aload_n 0, 1) := by decide +kernel
theorem dX7_begin_6 : decode cX7_begin 6 = .ok (.iload_n 3, 1) := by decide +kernel
theorem dX7_begin_7 : decode cX7_begin 7 = .ok (.sipush 9998, 3) := by decide +kernel
theorem dX7_begin_10 : decode cX7_begin 10 = .ok (.invokestatic 52, 3) := by decide +kernel
theorem dX7_begin_13 : decode cX7_begin 13 = .ok (.putfield 34, 3) := by decide +kernel
theorem dX7_begin_16 : decode cX7_begin 16 = .ok (.aload_n 0, 1) := by decide +kernel
theorem dX7_begin_17 : decode cX7_begin 17 = .ok (.iload 4, 2) := by decide +kernel
theorem dX7_begin_19 : decode cX7_begin 19 = .ok (.putfield 28, 3) := by decide +kernel
theorem dX7_begin_22 : decode cX7_begin 22 = .ok (.aload_n 0, 1) := by decide +kernel
theorem dX7_begin_23 : decode cX7_begin 23 = .ok (.iconst 0, 1) := by decide +kernel
theorem dX7_begin_24 : decode cX7_begin 24 = .ok (.putfield 25, 3) := by decide +kernel
theorem dX7_begin_27 : decode cX7_begin 27 = .ok (.aload_n 0, 1) := by decide +kernel
theorem dX7_begin_28 : decode cX7_begin 28 = .ok (.iconst 0, 1) := by decide +kernel
theorem dX7_begin_29 : decode cX7_begin 29 = .ok (.putfield 37, 3) := by decide +kernel
theorem dX7_begin_32 : decode cX7_begin 32 = .ok (.aload_n 0, 1) := by decide +kernel
theorem dX7_begin_33 : decode cX7_begin 33 = .ok (.iconst 0, 1) := by decide +kernel
theorem dX7_begin_34 : decode cX7_begin 34 = .ok (.putfield 18, 3) := by decide +kernel
theorem dX7_begin_37 : decode cX7_begin 37 = .ok (.aload_n 0, 1) := by decide +kernel
theorem dX7_begin_38 : decode cX7_begin 38 = .ok (.getfield 44, 3) := by decide +kernel
theorem dX7_begin_41 : decode cX7_begin 41 = .ok (.aload_n 0, 1) := by decide +kernel
theorem dX7_begin_42 : decode cX7_begin 42 = .ok (.getfield 44, 3) := by decide +kernel
theorem dX7_begin_45 : decode cX7_begin 45 = .ok (.getfield 58, 3) := by decide +kernel
theorem dX7_begin_48 : decode cX7_begin 48 = .ok (.aload_n 0, 1) := by decide +kernel
theorem dX7_begin_49 : decode cX7_begin 49 = .ok (.getfield 9, 3) := by decide +kernel
theorem dX7_begin_52 : decode cX7_begin 52 = .ok (.invokevirtual 63, 3) := by decide +kernel
theorem dX7_begin_55 : decode cX7_begin 55 = .ok (.aload_n 0, 1) := by decide +kernel
theorem dX7_begin_56 : decode cX7_begin 56 = .ok (.iload_n 1, 1) := by decide +kernel
theorem dX7_begin_57 : decode cX7_begin 57 = .ok (.iconst 1, 1) := by decide +kernel
theorem dX7_begin_58 : decode cX7_begin 58 = .ok (.iload_n 1, 1) := by decide +kernel
theorem dX7_begin_59 : decode cX7_begin 59 = .ok (.ishl, 1) := by decide +kernel
theorem dX7_begin_60 : decode cX7_begin 60 = .ok (.iconst 0, 1) := by decide +kernel
theorem dX7_begin_61 : decode cX7_begin 61 = .ok (.iconst 0, 1) := by decide +kernel
theorem dX7_begin_62 : decode cX7_begin 62 = .ok (.invokevirtual 67, 3) := by decide +kernel
theorem dX7_begin_65 : decode cX7_begin 65 = .ok (.pop, 1) := by decide +kernel
theorem dX7_begin_66 : decode cX7_begin 66 = .ok (.aload_n 0, 1) := by decide +kernel
theorem dX7_begin_67 : decode cX7_begin 67 = .ok (.getfield 37, 3) := by decide +kernel
theorem dX7_begin_70 : decode cX7_begin 70 = .ok (.ireturn, 1) := by decide +kernel
theorem dX7_walk_0 : decode cX7_walk 0 = .ok (.iload_n 1, 1) := by decide +kernel
theorem dX7_walk_1 : decode cX7_walk 1 = .ok (.aload_n 0, 1) := by decide +kernel
theorem dX7_walk_2 : decode cX7_walk 2 = .ok (.getfield 31, 3) := by decide +kernel
theorem dX7_walk_5 : decode cX7_walk 5 = .ok (.if_icmp .ne 11, 3) := by decide +kernel
theorem dX7_walk_8 : decode cX7_walk 8 = .ok (.aload_n 0, 1) := by decide +kernel
theorem dX7_walk_9 : decode cX7_walk 9 = .ok (.iload_n 3, 1) := by decide +kernel
theorem dX7_walk_10 : decode cX7_walk 10 = .ok (.iload 4, 2) := by decide +kernel
theorem dX7_walk_12 : decode cX7_walk 12 = .ok (.invokevirtual 71, 3) := by decide +kernel
theorem dX7_walk_15 : decode cX7_walk 15 = .ok (.ireturn, 1) := by decide +kernel
theorem dX7_walk_16 : decode cX7_walk 16 = .ok (.iload 4, 2) := by decide +kernel
theorem dX7_walk_18 : decode cX7_walk 18 = .ok (.bipush 8, 2) := by decide +kernel
theorem dX7_walk_20 : decode cX7_walk 20 = .ok (.if_icmp .lt 5, 3) := by decide +kernel
theorem dX7_walk_23 : decode cX7_walk 23 = .ok (.iconst 0, 1) := by decide +kernel
theorem dX7_walk_24 : decode cX7_walk 24 = .ok (.ireturn, 1) := by decide +kernel
theorem dX7_walk_25 : decode cX7_walk 25 = .ok (.iconst 0, 1) := by decide +kernel
theorem dX7_walk_26 : decode cX7_walk 26 = .ok (.istore 5, 2) := by decide +kernel
theorem dX7_walk_28 : decode cX7_walk 28 = .ok (.iload 5, 2) := by decide +kernel
theorem dX7_walk_30 : decode cX7_walk 30 = .ok (.aload_n 0, 1) := by decide +kernel
theorem dX7_walk_31 : decode cX7_walk 31 = .ok (.getfield 44, 3) := by decide +kernel
theorem dX7_walk_34 : decode cX7_walk 34 = .ok (.getfield 75, 3) := by decide +kernel
theorem dX7_walk_37 : decode cX7_walk 37 = .ok (.if_icmp .ge 97, 3) := by decide +kernel
theorem dX7_walk_40 : decode cX7_walk 40 = .ok (.aload_n 0, 1) := by decide +kernel
theorem dX7_walk_41 : decode cX7_walk 41 = .ok (.getfield 44, 3) := by decide +kernel
theorem dX7_walk_44 : decode cX7_walk 44 = .ok (.iload 5, 2) := by decide +kernel
theorem dX7_walk_46 : decode cX7_walk 46 = .ok (.invokevirtual 78, 3) := by decide +kernel
theorem dX7_walk_49 : decode cX7_walk 49 = .ok (.istore 6, 2) := by decide +kernel
theorem dX7_walk_51 : decode cX7_walk 51 = .ok (.aload_n 0, 1) := by decide +kernel
theorem dX7_walk_52 : decode cX7_walk 52 = .ok (.getfield 44, 3) := by decide +kernel
theorem dX7_walk_55 : decode cX7_walk 55 = .ok (.iload 5, 2) := by decide +kernel
theorem dX7_walk_57 : decode cX7_walk 57 = .ok (.invokevirtual 82, 3) := by decide +kernel
theorem dX7_walk_60 : decode cX7_walk 60 = .ok (.iload_n 1, 1) := by decide +kernel
theorem dX7_walk_61 : decode cX7_walk 61 = .ok (.if_icmp .ne 67, 3) := by decide +kernel
theorem dX7_walk_64 : decode cX7_walk 64 = .ok (.iload_n 2, 1) := by decide +kernel
theorem dX7_walk_65 : decode cX7_walk 65 = .ok (.iload 6, 2) := by decide +kernel
theorem dX7_walk_67 : decode cX7_walk 67 = .ok (.ishr, 1) := by decide +kernel
theorem dX7_walk_68 : decode cX7_walk 68 = .ok (.iconst 1, 1) := by decide +kernel
theorem dX7_walk_69 : decode cX7_walk 69 = .ok (.iand, 1) := by decide +kernel
theorem dX7_walk_70 : decode cX7_walk 70 = .ok (.ifCond .ne 58, 3) := by decide +kernel
theorem dX7_walk_73 : decode cX7_walk 73 = .ok (.aload_n 0, 1) := by decide +kernel
theorem dX7_walk_74 : decode cX7_walk 74 = .ok (.getfield 9, 3) := by decide +kernel
theorem dX7_walk_77 : decode cX7_walk 77 = .ok (.iload 5, 2) := by decide +kernel
theorem dX7_walk_79 : decode cX7_walk 79 = .ok (.iaload, 1) := by decide +kernel
theorem dX7_walk_80 : decode cX7_walk 80 = .ok (.aload_n 0, 1) := by decide +kernel
theorem dX7_walk_81 : decode cX7_walk 81 = .ok (.getfield 34, 3) := by decide +kernel
theorem dX7_walk_84 : decode cX7_walk 84 = .ok (.iload_n 3, 1) := by decide +kernel
theorem dX7_walk_85 : decode cX7_walk 85 = .ok (.isub, 1) := by decide +kernel
theorem dX7_walk_86 : decode cX7_walk 86 = .ok (.if_icmp .gt 42, 3) := by decide +kernel
theorem dX7_walk_89 : decode cX7_walk 89 = .ok (.aload_n 0, 1) := by decide +kernel
theorem dX7_walk_90 : decode cX7_walk 90 = .ok (.getfield 15, 3) := by decide +kernel
theorem dX7_walk_93 : decode cX7_walk 93 = .ok (.iload 4, 2) := by decide +kernel
theorem dX7_walk_95 : decode cX7_walk 95 = .ok (.iload 5, 2) := by decide +kernel
theorem dX7_walk_97 : decode cX7_walk 97 = .ok (.iastore, 1) := by decide +kernel
theorem dX7_walk_98 : decode cX7_walk 98 = .ok (.aload_n 0, 1) := by decide +kernel
theorem dX7_walk_99 : decode cX7_walk 99 = .ok (.iload 6, 2) := by decide +kernel
theorem dX7_walk_101 : decode cX7_walk 101 = .ok (.iload_n 2, 1) := by decide +kernel
theorem dX7_walk_102 : decode cX7_walk 102 = .ok (.iconst 1, 1) := by decide +kernel
theorem dX7_walk_103 : decode cX7_walk 103 = .ok (.iload 6, 2) := by decide +kernel
theorem dX7_walk_105 : decode cX7_walk 105 = .ok (.ishl, 1) := by decide +kernel
theorem dX7_walk_106 : decode cX7_walk 106 = .ok (.ior, 1) := by decide +kernel
theorem dX7_walk_107 : decode cX7_walk 107 = .ok (.iload_n 3, 1) := by decide +kernel
theorem dX7_walk_108 : decode cX7_walk 108 = .ok (.aload_n 0, 1) := by decide +kernel
theorem dX7_walk_109 : decode cX7_walk 109 = .ok (.getfield 9, 3) := by decide +kernel
theorem dX7_walk_112 : decode cX7_walk 112 = .ok (.iload 5, 2) := by decide +kernel
theorem dX7_walk_114 : decode cX7_walk 114 = .ok (.iaload, 1) := by decide +kernel
theorem dX7_walk_115 : decode cX7_walk 115 = .ok (.iadd, 1) := by decide +kernel
theorem dX7_walk_116 : decode cX7_walk 116 = .ok (.iload 4, 2) := by decide +kernel
theorem dX7_walk_118 : decode cX7_walk 118 = .ok (.iconst 1, 1) := by decide +kernel
theorem dX7_walk_119 : decode cX7_walk 119 = .ok (.iadd, 1) := by decide +kernel
theorem dX7_walk_120 : decode cX7_walk 120 = .ok (.invokevirtual 67, 3) := by decide +kernel
theorem dX7_walk_123 : decode cX7_walk 123 = .ok (.ifCond .eq 5, 3) := by decide +kernel
theorem dX7_walk_126 : decode cX7_walk 126 = .ok (.iconst 1, 1) := by decide +kernel
theorem dX7_walk_127 : decode cX7_walk 127 = .ok (.ireturn, 1) := by decide +kernel
theorem dX7_walk_128 : decode cX7_walk 128 = .ok (.iinc 5 1, 3) := by decide +kernel
theorem dX7_walk_131 : decode cX7_walk 131 = .ok (.goto (-103), 3) := by decide +kernel
theorem dX7_walk_134 : decode cX7_walk 134 = .ok (.iconst 0, 1) := by decide +kernel
theorem dX7_walk_135 : decode cX7_walk 135 = .ok (.ireturn, 1) := by decide +kernel
theorem dX7_arrive_0 : decode cX7_arrive 0 = .ok (.aload_n 0, 1) := by decide +kernel
theorem dX7_arrive_1 : decode cX7_arrive 1 = .ok (.dup, 1) := by decide +kernel
theorem dX7_arrive_2 : decode cX7_arrive 2 = .ok (.getfield 37, 3) := by decide +kernel
theorem dX7_arrive_5 : decode cX7_arrive 5 = .ok (.iconst 1, 1) := by decide +kernel
theorem dX7_arrive_6 : decode cX7_arrive 6 = .ok (.iadd, 1) := by decide +kernel
theorem dX7_arrive_7 : decode cX7_arrive 7 = .ok (.putfield 37, 3) := by decide +kernel
theorem dX7_arrive_10 : decode cX7_arrive 10 = .ok (.aload_n 0, 1) := by decide +kernel
theorem dX7_arrive_11 : decode cX7_arrive 11 = .ok (.iload_n 2, 1) := by decide +kernel
theorem dX7_arrive_12 : decode cX7_arrive 12 = .ok (.putfield 18, 3) := by decide +kernel
theorem dX7_arrive_15 : decode cX7_arrive 15 = .ok (.aload_n 0, 1) := by decide +kernel
theorem dX7_arrive_16 : decode cX7_arrive 16 = .ok (.getfield 28, 3) := by decide +kernel
theorem dX7_arrive_19 : decode cX7_arrive 19 = .ok (.ifCond .le 8, 3) := by decide +kernel
theorem dX7_arrive_22 : decode cX7_arrive 22 = .ok (.aload_n 0, 1) := by decide +kernel
theorem dX7_arrive_23 : decode cX7_arrive 23 = .ok (.iload_n 1, 1) := by decide +kernel
theorem dX7_arrive_24 : decode cX7_arrive 24 = .ok (.invokevirtual 85, 3) := by decide +kernel
theorem dX7_arrive_27 : decode cX7_arrive 27 = .ok (.aload_n 0, 1) := by decide +kernel
theorem dX7_arrive_28 : decode cX7_arrive 28 = .ok (.getfield 40, 3) := by decide +kernel
theorem dX7_arrive_31 : decode cX7_arrive 31 = .ok (.ireturn, 1) := by decide +kernel
theorem dX7_rank_0 : decode cX7_rank 0 = .ok (.aload_n 0, 1) := by decide +kernel
theorem dX7_rank_1 : decode cX7_rank 1 = .ok (.getfield 25, 3) := by decide +kernel
theorem dX7_rank_4 : decode cX7_rank 4 = .ok (.aload_n 0, 1) := by decide +kernel
theorem dX7_rank_5 : decode cX7_rank 5 = .ok (.getfield 28, 3) := by decide +kernel
theorem dX7_rank_8 : decode cX7_rank 8 = .ok (.iconst 1, 1) := by decide +kernel
theorem dX7_rank_9 : decode cX7_rank 9 = .ok (.isub, 1) := by decide +kernel
theorem dX7_rank_10 : decode cX7_rank 10 = .ok (.invokestatic 52, 3) := by decide +kernel
theorem dX7_rank_13 : decode cX7_rank 13 = .ok (.istore_n 2, 1) := by decide +kernel
theorem dX7_rank_14 : decode cX7_rank 14 = .ok (.aload_n 0, 1) := by decide +kernel
theorem dX7_rank_15 : decode cX7_rank 15 = .ok (.getfield 25, 3) := by decide +kernel
theorem dX7_rank_18 : decode cX7_rank 18 = .ok (.aload_n 0, 1) := by decide +kernel
theorem dX7_rank_19 : decode cX7_rank 19 = .ok (.getfield 28, 3) := by decide +kernel
theorem dX7_rank_22 : decode cX7_rank 22 = .ok (.if_icmp .ne 14, 3) := by decide +kernel
theorem dX7_rank_25 : decode cX7_rank 25 = .ok (.aload_n 0, 1) := by decide +kernel
theorem dX7_rank_26 : decode cX7_rank 26 = .ok (.getfield 22, 3) := by decide +kernel
theorem dX7_rank_29 : decode cX7_rank 29 = .ok (.iload_n 2, 1) := by decide +kernel
theorem dX7_rank_30 : decode cX7_rank 30 = .ok (.iaload, 1) := by decide +kernel
theorem dX7_rank_31 : decode cX7_rank 31 = .ok (.iload_n 1, 1) := by decide +kernel
theorem dX7_rank_32 : decode cX7_rank 32 = .ok (.if_icmp .gt 4, 3) := by decide +kernel
theorem dX7_rank_35 : decode cX7_rank 35 = .ok (.return_, 1) := by decide +kernel
theorem dX7_rank_36 : decode cX7_rank 36 = .ok (.iload_n 2, 1) := by decide +kernel
theorem dX7_rank_37 : decode cX7_rank 37 = .ok (.ifCond .le 35, 3) := by decide +kernel
theorem dX7_rank_40 : decode cX7_rank 40 = .ok (.aload_n 0, 1) := by decide +kernel
theorem dX7_rank_41 : decode cX7_rank 41 = .ok (.getfield 22, 3) := by decide +kernel
theorem dX7_rank_44 : decode cX7_rank 44 = .ok (.iload_n 2, 1) := by decide +kernel
theorem dX7_rank_45 : decode cX7_rank 45 = .ok (.iconst 1, 1) := by decide +kernel
theorem dX7_rank_46 : decode cX7_rank 46 = .ok (.isub, 1) := by decide +kernel
theorem dX7_rank_47 : decode cX7_rank 47 = .ok (.iaload, 1) := by decide +kernel
theorem dX7_rank_48 : decode cX7_rank 48 = .ok (.iload_n 1, 1) := by decide +kernel
theorem dX7_rank_49 : decode cX7_rank 49 = .ok (.if_icmp .le 23, 3) := by decide +kernel
theorem dX7_rank_52 : decode cX7_rank 52 = .ok (.aload_n 0, 1) := by decide +kernel
theorem dX7_rank_53 : decode cX7_rank 53 = .ok (.getfield 22, 3) := by decide +kernel
theorem dX7_rank_56 : decode cX7_rank 56 = .ok (.iload_n 2, 1) := by decide +kernel
theorem dX7_rank_57 : decode cX7_rank 57 = .ok (.aload_n 0, 1) := by decide +kernel
theorem dX7_rank_58 : decode cX7_rank 58 = .ok (.getfield 22, 3) := by decide +kernel
theorem dX7_rank_61 : decode cX7_rank 61 = .ok (.iload_n 2, 1) := by decide +kernel
theorem dX7_rank_62 : decode cX7_rank 62 = .ok (.iconst 1, 1) := by decide +kernel
theorem dX7_rank_63 : decode cX7_rank 63 = .ok (.isub, 1) := by decide +kernel
theorem dX7_rank_64 : decode cX7_rank 64 = .ok (.iaload, 1) := by decide +kernel
theorem dX7_rank_65 : decode cX7_rank 65 = .ok (.iastore, 1) := by decide +kernel
theorem dX7_rank_66 : decode cX7_rank 66 = .ok (.iinc 2 (-1), 3) := by decide +kernel
theorem dX7_rank_69 : decode cX7_rank 69 = .ok (.goto (-33), 3) := by decide +kernel
theorem dX7_rank_72 : decode cX7_rank 72 = .ok (.aload_n 0, 1) := by decide +kernel
theorem dX7_rank_73 : decode cX7_rank 73 = .ok (.getfield 22, 3) := by decide +kernel
theorem dX7_rank_76 : decode cX7_rank 76 = .ok (.iload_n 2, 1) := by decide +kernel
theorem dX7_rank_77 : decode cX7_rank 77 = .ok (.iload_n 1, 1) := by decide +kernel
theorem dX7_rank_78 : decode cX7_rank 78 = .ok (.iastore, 1) := by decide +kernel
theorem dX7_rank_79 : decode cX7_rank 79 = .ok (.aload_n 0, 1) := by decide +kernel
theorem dX7_rank_80 : decode cX7_rank 80 = .ok (.getfield 25, 3) := by decide +kernel
theorem dX7_rank_83 : decode cX7_rank 83 = .ok (.aload_n 0, 1) := by decide +kernel
theorem dX7_rank_84 : decode cX7_rank 84 = .ok (.getfield 28, 3) := by decide +kernel
theorem dX7_rank_87 : decode cX7_rank 87 = .ok (.if_icmp .ge 13, 3) := by decide +kernel
theorem dX7_rank_90 : decode cX7_rank 90 = .ok (.aload_n 0, 1) := by decide +kernel
theorem dX7_rank_91 : decode cX7_rank 91 = .ok (.dup, 1) := by decide +kernel
theorem dX7_rank_92 : decode cX7_rank 92 = .ok (.getfield 25, 3) := by decide +kernel
theorem dX7_rank_95 : decode cX7_rank 95 = .ok (.iconst 1, 1) := by decide +kernel
theorem dX7_rank_96 : decode cX7_rank 96 = .ok (.iadd, 1) := by decide +kernel
theorem dX7_rank_97 : decode cX7_rank 97 = .ok (.putfield 25, 3) := by decide +kernel
theorem dX7_rank_100 : decode cX7_rank 100 = .ok (.return_, 1) := by decide +kernel
theorem dX8_init_0 : decode cX8_init 0 = .ok (.aload_n 0, 1) := by decide +kernel
theorem dX8_init_1 : decode cX8_init 1 = .ok (.invokespecial 1, 3) := by decide +kernel
theorem dX8_init_4 : decode cX8_init 4 = .ok (.aload_n 0, 1) := by decide +kernel
theorem dX8_init_5 : decode cX8_init 5 = .ok (.new 7, 3) := by decide +kernel
theorem dX8_init_8 : decode cX8_init 8 = .ok (.dup, 1) := by decide +kernel
theorem dX8_init_9 : decode cX8_init 9 = .ok (.invokespecial 9, 3) := by decide +kernel
theorem dX8_init_12 : decode cX8_init 12 = .ok (.putfield 10, 3) := by decide +kernel
theorem dX8_init_15 : decode cX8_init 15 = .ok (.aload_n 0, 1) := by decide +kernel
theorem dX8_init_16 : decode cX8_init 16 = .ok (.new 16, 3) := by decide +kernel
theorem dX8_init_19 : decode cX8_init 19 = .ok (.dup, 1) := by decide +kernel
theorem dX8_init_20 : decode cX8_init 20 = .ok (.invokespecial 18, 3) := by decide +kernel
theorem dX8_init_23 : decode cX8_init 23 = .ok (.putfield 19, 3) := by decide +kernel
theorem dX8_init_26 : decode cX8_init 26 = .ok (.aload_n 0, 1) := by decide +kernel
theorem dX8_init_27 : decode cX8_init 27 = .ok (.new 23, 3) := by decide +kernel
theorem dX8_init_30 : decode cX8_init 30 = .ok (.dup, 1) := by decide +kernel
theorem dX8_init_31 : decode cX8_init 31 = .ok (.invokespecial 25, 3) := by decide +kernel
theorem dX8_init_34 : decode cX8_init 34 = .ok (.putfield 26, 3) := by decide +kernel
theorem dX8_init_37 : decode cX8_init 37 = .ok (.aload_n 0, 1) := by decide +kernel
theorem dX8_init_38 : decode cX8_init 38 = .ok (.new 30, 3) := by decide +kernel
theorem dX8_init_41 : decode cX8_init 41 = .ok (.dup, 1) := by decide +kernel
theorem dX8_init_42 : decode cX8_init 42 = .ok (.aload_n 0, 1) := by decide +kernel
theorem dX8_init_43 : decode cX8_init 43 = .ok (.getfield 10, 3) := by decide +kernel
theorem dX8_init_46 : decode cX8_init 46 = .ok (.invokespecial 32, 3) := by decide +kernel
theorem dX8_init_49 : decode cX8_init 49 = .ok (.putfield 35, 3) := by decide +kernel
theorem dX8_init_52 : decode cX8_init 52 = .ok (.aload_n 0, 1) := by decide +kernel
theorem dX8_init_53 : decode cX8_init 53 = .ok (.new 39, 3) := by decide +kernel
theorem dX8_init_56 : decode cX8_init 56 = .ok (.dup, 1) := by decide +kernel
theorem dX8_init_57 : decode cX8_init 57 = .ok (.aload_n 0, 1) := by decide +kernel
theorem dX8_init_58 : decode cX8_init 58 = .ok (.getfield 10, 3) := by decide +kernel
theorem dX8_init_61 : decode cX8_init 61 = .ok (.invokespecial 41, 3) := by decide +kernel
theorem dX8_init_64 : decode cX8_init 64 = .ok (.putfield 42, 3) := by decide +kernel
theorem dX8_init_67 : decode cX8_init 67 = .ok (.aload_n 0, 1) := by decide +kernel
theorem dX8_init_68 : decode cX8_init 68 = .ok (.new 46, 3) := by decide +kernel
theorem dX8_init_71 : decode cX8_init 71 = .ok (.dup, 1) := by decide +kernel
theorem dX8_init_72 : decode cX8_init 72 = .ok (.aload_n 0, 1) := by decide +kernel
theorem dX8_init_73 : decode cX8_init 73 = .ok (.getfield 10, 3) := by decide +kernel
theorem dX8_init_76 : decode cX8_init 76 = .ok (.aload_n 0, 1) := by decide +kernel
theorem dX8_init_77 : decode cX8_init 77 = .ok (.getfield 35, 3) := by decide +kernel
theorem dX8_init_80 : decode cX8_init 80 = .ok (.invokespecial 48, 3) := by decide +kernel
theorem dX8_init_83 : decode cX8_init 83 = .ok (.putfield 51, 3) := by decide +kernel
theorem dX8_init_86 : decode cX8_init 86 = .ok (.aload_n 0, 1) := by decide +kernel
theorem dX8_init_87 : decode cX8_init 87 = .ok (.new 55, 3) := by decide +kernel
theorem dX8_init_90 : decode cX8_init 90 = .ok (.dup, 1) := by decide +kernel
theorem dX8_init_91 : decode cX8_init 91 = .ok (.aload_n 0, 1) := by decide +kernel
theorem dX8_init_92 : decode cX8_init 92 = .ok (.getfield 10, 3) := by decide +kernel
theorem dX8_init_95 : decode cX8_init 95 = .ok (.aload_n 0, 1) := by decide +kernel
theorem dX8_init_96 : decode cX8_init 96 = .ok (.getfield 35, 3) := by decide +kernel
theorem dX8_init_99 : decode cX8_init 99 = .ok (.invokespecial 57, 3) := by decide +kernel
theorem dX8_init_102 : decode cX8_init 102 = .ok (.putfield 58, 3) := by decide +kernel
theorem dX8_init_105 : decode cX8_init 105 = .ok (.aload_n 0, 1) := by decide +kernel
theorem dX8_init_106 : decode cX8_init 106 = .ok (.new 62, 3) := by decide +kernel
theorem dX8_init_109 : decode cX8_init 109 = .ok (.dup, 1) := by decide +kernel
theorem dX8_init_110 : decode cX8_init 110 = .ok (.aload_n 0, 1) := by decide +kernel
theorem dX8_init_111 : decode cX8_init 111 = .ok (.getfield 10, 3) := by decide +kernel
theorem dX8_init_114 : decode cX8_init 114 = .ok (.aload_n 0, 1) := by decide +kernel
theorem dX8_init_115 : decode cX8_init 115 = .ok (.getfield 51, 3) := by decide +kernel
theorem dX8_init_118 : decode cX8_init 118 = .ok (.invokespecial 64, 3) := by decide +kernel
theorem dX8_init_121 : decode cX8_init 121 = .ok (.putfield 67, 3) := by decide +kernel
theorem dX8_init_124 : decode cX8_init 124 = .ok (.aload_n 0, 1) := by decide +kernel
theorem dX8_init_125 : decode cX8_init 125 = .ok (.iconst (-1), 1) := by decide +kernel
theorem dX8_init_126 : decode cX8_init 126 = .ok (.putfield 71, 3) := by decide +kernel
theorem dX8_init_129 : decode cX8_init 129 = .ok (.return_, 1) := by decide +kernel
theorem dX8_addEdge_0 : decode cX8_addEdge 0 = .ok (.iload_n 1, 1) := by decide +kernel
theorem dX8_addEdge_1 : decode cX8_addEdge 1 = .ok (.iload_n 2, 1) := by decide +kernel
theorem dX8_addEdge_2 : decode cX8_addEdge 2 = .ok (.invokestatic 75, 3) := by decide +kernel
theorem dX8_addEdge_5 : decode cX8_addEdge 5 = .ok (.ifCond .eq 8, 3) := by decide +kernel
theorem dX8_addEdge_8 : decode cX8_addEdge 8 = .ok (.iload_n 1, 1) := by decide +kernel
theorem dX8_addEdge_9 : decode cX8_addEdge 9 = .ok (.iload_n 2, 1) := by decide +kernel
theorem dX8_addEdge_10 : decode cX8_addEdge 10 = .ok (.if_icmp .ne 6, 3) := by decide +kernel
theorem dX8_addEdge_13 : decode cX8_addEdge 13 = .ok (.bipush (-2), 2) := by decide +kernel
theorem dX8_addEdge_15 : decode cX8_addEdge 15 = .ok (.ireturn, 1) := by decide +kernel
theorem dX8_addEdge_16 : decode cX8_addEdge 16 = .ok (.iconst 2, 1) := by decide +kernel
theorem dX8_addEdge_17 : decode cX8_addEdge 17 = .ok (.iload_n 3, 1) := by decide +kernel
theorem dX8_addEdge_18 : decode cX8_addEdge 18 = .ok (.invokestatic 79, 3) := by decide +kernel
theorem dX8_addEdge_21 : decode cX8_addEdge 21 = .ok (.ifCond .eq 21, 3) := by decide +kernel
theorem dX8_addEdge_24 : decode cX8_addEdge 24 = .ok (.iconst 3, 1) := by decide +kernel
theorem dX8_addEdge_25 : decode cX8_addEdge 25 = .ok (.iload 4, 2) := by decide +kernel
theorem dX8_addEdge_27 : decode cX8_addEdge 27 = .ok (.invokestatic 79, 3) := by decide +kernel
theorem dX8_addEdge_30 : decode cX8_addEdge 30 = .ok (.ifCond .eq 12, 3) := by decide +kernel
theorem dX8_addEdge_33 : decode cX8_addEdge 33 = .ok (.iconst 4, 1) := by decide +kernel
theorem dX8_addEdge_34 : decode cX8_addEdge 34 = .ok (.iload 5, 2) := by decide +kernel
theorem dX8_addEdge_36 : decode cX8_addEdge 36 = .ok (.invokestatic 79, 3) := by decide +kernel
theorem dX8_addEdge_39 : decode cX8_addEdge 39 = .ok (.ifCond .ne 6, 3) := by decide +kernel
theorem dX8_addEdge_42 : decode cX8_addEdge 42 = .ok (.bipush (-2), 2) := by decide +kernel
theorem dX8_addEdge_44 : decode cX8_addEdge 44 = .ok (.ireturn, 1) := by decide +kernel
theorem dX8_addEdge_45 : decode cX8_addEdge 45 = .ok (.aload_n 0, 1) := by decide +kernel
theorem dX8_addEdge_46 : decode cX8_addEdge 46 = .ok (.getfield 10, 3) := by decide +kernel
theorem dX8_addEdge_49 : decode cX8_addEdge 49 = .ok (.getfield 82, 3) := by decide +kernel
theorem dX8_addEdge_52 : decode cX8_addEdge 52 = .ok (.bipush 16, 2) := by decide +kernel
theorem dX8_addEdge_54 : decode cX8_addEdge 54 = .ok (.if_icmp .lt 6, 3) := by decide +kernel
theorem dX8_addEdge_57 : decode cX8_addEdge 57 = .ok (.bipush (-4), 2) := by decide +kernel
theorem dX8_addEdge_59 : decode cX8_addEdge 59 = .ok (.ireturn, 1) := by decide +kernel
theorem dX8_addEdge_60 : decode cX8_addEdge 60 = .ok (.aload_n 0, 1) := by decide +kernel
theorem dX8_addEdge_61 : decode cX8_addEdge 61 = .ok (.getfield 19, 3) := by decide +kernel
theorem dX8_addEdge_64 : decode cX8_addEdge 64 = .ok (.aload_n 0, 1) := by decide +kernel
theorem dX8_addEdge_65 : decode cX8_addEdge 65 = .ok (.getfield 10, 3) := by decide +kernel
theorem dX8_addEdge_68 : decode cX8_addEdge 68 = .ok (.invokevirtual 85, 3) := by decide +kernel
theorem dX8_addEdge_71 : decode cX8_addEdge 71 = .ok (.aload_n 0, 1) := by decide +kernel
theorem dX8_addEdge_72 : decode cX8_addEdge 72 = .ok (.getfield 10, 3) := by decide +kernel
theorem dX8_addEdge_75 : decode cX8_addEdge 75 = .ok (.iload_n 1, 1) := by decide +kernel
theorem dX8_addEdge_76 : decode cX8_addEdge 76 = .ok (.iload_n 2, 1) := by decide +kernel
theorem dX8_addEdge_77 : decode cX8_addEdge 77 = .ok (.iload_n 3, 1) := by decide +kernel
theorem dX8_addEdge_78 : decode cX8_addEdge 78 = .ok (.iload 4, 2) := by decide +kernel
theorem dX8_addEdge_80 : decode cX8_addEdge 80 = .ok (.iload 5, 2) := by decide +kernel
theorem dX8_addEdge_82 : decode cX8_addEdge 82 = .ok (.invokestatic 88, 3) := by decide +kernel
theorem dX8_addEdge_85 : decode cX8_addEdge 85 = .ok (.invokevirtual 92, 3) := by decide +kernel
theorem dX8_addEdge_88 : decode cX8_addEdge 88 = .ok (.aload_n 0, 1) := by decide +kernel
theorem dX8_addEdge_89 : decode cX8_addEdge 89 = .ok (.getfield 10, 3) := by decide +kernel
theorem dX8_addEdge_92 : decode cX8_addEdge 92 = .ok (.getfield 82, 3) := by decide +kernel
theorem dX8_addEdge_95 : decode cX8_addEdge 95 = .ok (.iconst 1, 1) := by decide +kernel
theorem dX8_addEdge_96 : decode cX8_addEdge 96 = .ok (.isub, 1) := by decide +kernel
theorem dX8_addEdge_97 : decode cX8_addEdge 97 = .ok (.ireturn, 1) := by decide +kernel
theorem dX8_removeEdge_0 : decode cX8_removeEdge 0 = .ok (.aload_n 0, 1) := by decide +kernel
theorem dX8_removeEdge_1 : decode cX8_removeEdge 1 = .ok (.getfield 10, 3) := by decide +kernel
theorem dX8_removeEdge_4 : decode cX8_removeEdge 4 = .ok (.iload_n 1, 1) := by decide +kernel
theorem dX8_removeEdge_5 : decode cX8_removeEdge 5 = .ok (.invokevirtual 96, 3) := by decide +kernel
theorem dX8_removeEdge_8 : decode cX8_removeEdge 8 = .ok (.ifCond .ne 6, 3) := by decide +kernel
theorem dX8_removeEdge_11 : decode cX8_removeEdge 11 = .ok (.bipush (-2), 2) := by decide +kernel
theorem dX8_removeEdge_13 : decode cX8_removeEdge 13 = .ok (.ireturn, 1) := by decide +kernel
theorem dX8_removeEdge_14 : decode cX8_removeEdge 14 = .ok (.aload_n 0, 1) := by decide +kernel
theorem dX8_removeEdge_15 : decode cX8_removeEdge 15 = .ok (.getfield 19, 3) := by decide +kernel
theorem dX8_removeEdge_18 : decode cX8_removeEdge 18 = .ok (.aload_n 0, 1) := by decide +kernel
theorem dX8_removeEdge_19 : decode cX8_removeEdge 19 = .ok (.getfield 10, 3) := by decide +kernel
theorem dX8_removeEdge_22 : decode cX8_removeEdge 22 = .ok (.invokevirtual 85, 3) := by decide +kernel
theorem dX8_removeEdge_25 : decode cX8_removeEdge 25 = .ok (.aload_n 0, 1) := by decide +kernel
theorem dX8_removeEdge_26 : decode cX8_removeEdge 26 = .ok (.getfield 10, 3) := by decide +kernel
theorem dX8_removeEdge_29 : decode cX8_removeEdge 29 = .ok (.iload_n 1, 1) := by decide +kernel
theorem dX8_removeEdge_30 : decode cX8_removeEdge 30 = .ok (.invokevirtual 100, 3) := by decide +kernel
theorem dX8_removeEdge_33 : decode cX8_removeEdge 33 = .ok (.aload_n 0, 1) := by decide +kernel
theorem dX8_removeEdge_34 : decode cX8_removeEdge 34 = .ok (.getfield 10, 3) := by decide +kernel
theorem dX8_removeEdge_37 : decode cX8_removeEdge 37 = .ok (.getfield 82, 3) := by decide +kernel
theorem dX8_removeEdge_40 : decode cX8_removeEdge 40 = .ok (.ireturn, 1) := by decide +kernel
theorem dX8_setEdge_0 : decode cX8_setEdge 0 = .ok (.aload_n 0, 1) := by decide +kernel
theorem dX8_setEdge_1 : decode cX8_setEdge 1 = .ok (.getfield 10, 3) := by decide +kernel
theorem dX8_setEdge_4 : decode cX8_setEdge 4 = .ok (.iload_n 1, 1) := by decide +kernel
theorem dX8_setEdge_5 : decode cX8_setEdge 5 = .ok (.invokevirtual 96, 3) := by decide +kernel
theorem dX8_setEdge_8 : decode cX8_setEdge 8 = .ok (.ifCond .eq 11, 3) := by decide +kernel
theorem dX8_setEdge_11 : decode cX8_setEdge 11 = .ok (.iload_n 2, 1) := by decide +kernel
theorem dX8_setEdge_12 : decode cX8_setEdge 12 = .ok (.iload_n 3, 1) := by decide +kernel
theorem dX8_setEdge_13 : decode cX8_setEdge 13 = .ok (.invokestatic 79, 3) := by decide +kernel
theorem dX8_setEdge_16 : decode cX8_setEdge 16 = .ok (.ifCond .ne 6, 3) := by decide +kernel
theorem dX8_setEdge_19 : decode cX8_setEdge 19 = .ok (.bipush (-2), 2) := by decide +kernel
theorem dX8_setEdge_21 : decode cX8_setEdge 21 = .ok (.ireturn, 1) := by decide +kernel
theorem dX8_setEdge_22 : decode cX8_setEdge 22 = .ok (.aload_n 0, 1) := by decide +kernel
theorem dX8_setEdge_23 : decode cX8_setEdge 23 = .ok (.getfield 19, 3) := by decide +kernel
theorem dX8_setEdge_26 : decode cX8_setEdge 26 = .ok (.aload_n 0, 1) := by decide +kernel
theorem dX8_setEdge_27 : decode cX8_setEdge 27 = .ok (.getfield 10, 3) := by decide +kernel
theorem dX8_setEdge_30 : decode cX8_setEdge 30 = .ok (.invokevirtual 85, 3) := by decide +kernel
theorem dX8_setEdge_33 : decode cX8_setEdge 33 = .ok (.aload_n 0, 1) := by decide +kernel
theorem dX8_setEdge_34 : decode cX8_setEdge 34 = .ok (.getfield 10, 3) := by decide +kernel
theorem dX8_setEdge_37 : decode cX8_setEdge 37 = .ok (.iload_n 1, 1) := by decide +kernel
theorem dX8_setEdge_38 : decode cX8_setEdge 38 = .ok (.iload_n 2, 1) := by decide +kernel
theorem dX8_setEdge_39 : decode cX8_setEdge 39 = .ok (.invokevirtual 103, 3) := by decide +kernel
theorem dX8_setEdge_42 : decode cX8_setEdge 42 = .ok (.istore 4, 2) := by decide +kernel
theorem dX8_setEdge_44 : decode cX8_setEdge 44 = .ok (.aload_n 0, 1) := by decide +kernel
theorem dX8_setEdge_45 : decode cX8_setEdge 45 = .ok (.getfield 10, 3) := by decide +kernel
theorem dX8_setEdge_48 : decode cX8_setEdge 48 = .ok (.iload_n 1, 1) := by decide +kernel
theorem dX8_setEdge_49 : decode cX8_setEdge 49 = .ok (.iload_n 2, 1) := by decide +kernel
theorem dX8_setEdge_50 : decode cX8_setEdge 50 = .ok (.iload_n 3, 1) := by decide +kernel
theorem dX8_setEdge_51 : decode cX8_setEdge 51 = .ok (.invokevirtual 107, 3) := by decide +kernel
theorem dX8_setEdge_54 : decode cX8_setEdge 54 = .ok (.iload 4, 2) := by decide +kernel
theorem dX8_setEdge_56 : decode cX8_setEdge 56 = .ok (.ireturn, 1) := by decide +kernel
theorem dX8_edge_0 : decode cX8_edge 0 = .ok (.aload_n 0, 1) := by decide +kernel
theorem dX8_edge_1 : decode cX8_edge 1 = .ok (.getfield 10, 3) := by decide +kernel
theorem dX8_edge_4 : decode cX8_edge 4 = .ok (.iload_n 1, 1) := by decide +kernel
theorem dX8_edge_5 : decode cX8_edge 5 = .ok (.invokevirtual 96, 3) := by decide +kernel
theorem dX8_edge_8 : decode cX8_edge 8 = .ok (.ifCond .eq 12, 3) := by decide +kernel
theorem dX8_edge_11 : decode cX8_edge 11 = .ok (.iload_n 2, 1) := by decide +kernel
theorem dX8_edge_12 : decode cX8_edge 12 = .ok (.ifCond .lt 8, 3) := by decide +kernel
theorem dX8_edge_15 : decode cX8_edge 15 = .ok (.iload_n 2, 1) := by decide +kernel
theorem dX8_edge_16 : decode cX8_edge 16 = .ok (.iconst 5, 1) := by decide +kernel
theorem dX8_edge_17 : decode cX8_edge 17 = .ok (.if_icmp .le 6, 3) := by decide +kernel
theorem dX8_edge_20 : decode cX8_edge 20 = .ok (.bipush (-2), 2) := by decide +kernel
theorem dX8_edge_22 : decode cX8_edge 22 = .ok (.ireturn, 1) := by decide +kernel
theorem dX8_edge_23 : decode cX8_edge 23 = .ok (.iload_n 2, 1) := by decide +kernel
theorem dX8_edge_24 : decode cX8_edge 24 = .ok (.iconst 5, 1) := by decide +kernel
theorem dX8_edge_25 : decode cX8_edge 25 = .ok (.if_icmp .ne 17, 3) := by decide +kernel
theorem dX8_edge_28 : decode cX8_edge 28 = .ok (.aload_n 0, 1) := by decide +kernel
theorem dX8_edge_29 : decode cX8_edge 29 = .ok (.getfield 10, 3) := by decide +kernel
theorem dX8_edge_32 : decode cX8_edge 32 = .ok (.getfield 111, 3) := by decide +kernel
theorem dX8_edge_35 : decode cX8_edge 35 = .ok (.iload_n 1, 1) := by decide +kernel
theorem dX8_edge_36 : decode cX8_edge 36 = .ok (.ishr, 1) := by decide +kernel
theorem dX8_edge_37 : decode cX8_edge 37 = .ok (.iconst 1, 1) := by decide +kernel
theorem dX8_edge_38 : decode cX8_edge 38 = .ok (.iand, 1) := by decide +kernel
theorem dX8_edge_39 : decode cX8_edge 39 = .ok (.goto 12, 3) := by decide +kernel
theorem dX8_edge_42 : decode cX8_edge 42 = .ok (.aload_n 0, 1) := by decide +kernel
theorem dX8_edge_43 : decode cX8_edge 43 = .ok (.getfield 10, 3) := by decide +kernel
theorem dX8_edge_46 : decode cX8_edge 46 = .ok (.iload_n 1, 1) := by decide +kernel
theorem dX8_edge_47 : decode cX8_edge 47 = .ok (.iload_n 2, 1) := by decide +kernel
theorem dX8_edge_48 : decode cX8_edge 48 = .ok (.invokevirtual 103, 3) := by decide +kernel
theorem dX8_edge_51 : decode cX8_edge 51 = .ok (.ireturn, 1) := by decide +kernel
theorem dX8_clear_0 : decode cX8_clear 0 = .ok (.aload_n 0, 1) := by decide +kernel
theorem dX8_clear_1 : decode cX8_clear 1 = .ok (.getfield 19, 3) := by decide +kernel
theorem dX8_clear_4 : decode cX8_clear 4 = .ok (.aload_n 0, 1) := by decide +kernel
theorem dX8_clear_5 : decode cX8_clear 5 = .ok (.getfield 10, 3) := by decide +kernel
theorem dX8_clear_8 : decode cX8_clear 8 = .ok (.invokevirtual 85, 3) := by decide +kernel
theorem dX8_clear_11 : decode cX8_clear 11 = .ok (.aload_n 0, 1) := by decide +kernel
theorem dX8_clear_12 : decode cX8_clear 12 = .ok (.getfield 10, 3) := by decide +kernel
theorem dX8_clear_15 : decode cX8_clear 15 = .ok (.getfield 82, 3) := by decide +kernel
theorem dX8_clear_18 : decode cX8_clear 18 = .ok (.istore_n 1, 1) := by decide +kernel
theorem dX8_clear_19 : decode cX8_clear 19 = .ok (.aload_n 0, 1) := by decide +kernel
theorem dX8_clear_20 : decode cX8_clear 20 = .ok (.getfield 10, 3) := by decide +kernel
theorem dX8_clear_23 : decode cX8_clear 23 = .ok (.invokevirtual 114, 3) := by decide +kernel
theorem dX8_clear_26 : decode cX8_clear 26 = .ok (.iload_n 1, 1) := by decide +kernel
theorem dX8_clear_27 : decode cX8_clear 27 = .ok (.ireturn, 1) := by decide +kernel
theorem dX8_type_0 : decode cX8_type 0 = .ok (.iload_n 1, 1) := by decide +kernel
theorem dX8_type_1 : decode cX8_type 1 = .ok (.ifCond .lt 9, 3) := by decide +kernel
theorem dX8_type_4 : decode cX8_type 4 = .ok (.iload_n 1, 1) := by decide +kernel
theorem dX8_type_5 : decode cX8_type 5 = .ok (.bipush 127, 2) := by decide +kernel
theorem dX8_type_7 : decode cX8_type 7 = .ok (.if_icmp .le 6, 3) := by decide +kernel
theorem dX8_type_10 : decode cX8_type 10 = .ok (.bipush (-2), 2) := by decide +kernel
theorem dX8_type_12 : decode cX8_type 12 = .ok (.ireturn, 1) := by decide +kernel
theorem dX8_type_13 : decode cX8_type 13 = .ok (.aload_n 0, 1) := by decide +kernel
theorem dX8_type_14 : decode cX8_type 14 = .ok (.getfield 26, 3) := by decide +kernel
theorem dX8_type_17 : decode cX8_type 17 = .ok (.iload_n 1, 1) := by decide +kernel
theorem dX8_type_18 : decode cX8_type 18 = .ok (.invokevirtual 117, 3) := by decide +kernel
theorem dX8_type_21 : decode cX8_type 21 = .ok (.ifCond .eq 13, 3) := by decide +kernel
theorem dX8_type_24 : decode cX8_type 24 = .ok (.aload_n 0, 1) := by decide +kernel
theorem dX8_type_25 : decode cX8_type 25 = .ok (.getfield 26, 3) := by decide +kernel
theorem dX8_type_28 : decode cX8_type 28 = .ok (.getfield 119, 3) := by decide +kernel
theorem dX8_type_31 : decode cX8_type 31 = .ok (.goto 5, 3) := by decide +kernel
theorem dX8_type_34 : decode cX8_type 34 = .ok (.bipush (-4), 2) := by decide +kernel
theorem dX8_type_36 : decode cX8_type 36 = .ok (.ireturn, 1) := by decide +kernel
theorem dX8_clearText_0 : decode cX8_clearText 0 = .ok (.aload_n 0, 1) := by decide +kernel
theorem dX8_clearText_1 : decode cX8_clearText 1 = .ok (.getfield 26, 3) := by decide +kernel
theorem dX8_clearText_4 : decode cX8_clearText 4 = .ok (.getfield 119, 3) := by decide +kernel
theorem dX8_clearText_7 : decode cX8_clearText 7 = .ok (.istore_n 1, 1) := by decide +kernel
theorem dX8_clearText_8 : decode cX8_clearText 8 = .ok (.aload_n 0, 1) := by decide +kernel
theorem dX8_clearText_9 : decode cX8_clearText 9 = .ok (.getfield 26, 3) := by decide +kernel
theorem dX8_clearText_12 : decode cX8_clearText 12 = .ok (.iconst 0, 1) := by decide +kernel
theorem dX8_clearText_13 : decode cX8_clearText 13 = .ok (.putfield 119, 3) := by decide +kernel
theorem dX8_clearText_16 : decode cX8_clearText 16 = .ok (.iload_n 1, 1) := by decide +kernel
theorem dX8_clearText_17 : decode cX8_clearText 17 = .ok (.ireturn, 1) := by decide +kernel
theorem dX8_fault_0 : decode cX8_fault 0 = .ok (.aload_n 0, 1) := by decide +kernel
theorem dX8_fault_1 : decode cX8_fault 1 = .ok (.getfield 26, 3) := by decide +kernel
theorem dX8_fault_4 : decode cX8_fault 4 = .ok (.invokevirtual 120, 3) := by decide +kernel
theorem dX8_fault_7 : decode cX8_fault 7 = .ok (.ireturn, 1) := by decide +kernel
theorem dX8_load_0 : decode cX8_load 0 = .ok (.aload_n 0, 1) := by decide +kernel
theorem dX8_load_1 : decode cX8_load 1 = .ok (.getfield 26, 3) := by decide +kernel
theorem dX8_load_4 : decode cX8_load 4 = .ok (.invokevirtual 120, 3) := by decide +kernel
theorem dX8_load_7 : decode cX8_load 7 = .ok (.iconst (-1), 1) := by decide +kernel
theorem dX8_load_8 : decode cX8_load 8 = .ok (.if_icmp .eq 6, 3) := by decide +kernel
theorem dX8_load_11 : decode cX8_load 11 = .ok (.bipush (-3), 2) := by decide +kernel
theorem dX8_load_13 : decode cX8_load 13 = .ok (.ireturn, 1) := by decide +kernel
theorem dX8_load_14 : decode cX8_load 14 = .ok (.aload_n 0, 1) := by decide +kernel
theorem dX8_load_15 : decode cX8_load 15 = .ok (.getfield 19, 3) := by decide +kernel
theorem dX8_load_18 : decode cX8_load 18 = .ok (.aload_n 0, 1) := by decide +kernel
theorem dX8_load_19 : decode cX8_load 19 = .ok (.getfield 10, 3) := by decide +kernel
theorem dX8_load_22 : decode cX8_load 22 = .ok (.invokevirtual 85, 3) := by decide +kernel
theorem dX8_load_25 : decode cX8_load 25 = .ok (.aload_n 0, 1) := by decide +kernel
theorem dX8_load_26 : decode cX8_load 26 = .ok (.getfield 10, 3) := by decide +kernel
theorem dX8_load_29 : decode cX8_load 29 = .ok (.invokevirtual 114, 3) := by decide +kernel
theorem dX8_load_32 : decode cX8_load 32 = .ok (.iconst 0, 1) := by decide +kernel
theorem dX8_load_33 : decode cX8_load 33 = .ok (.istore_n 1, 1) := by decide +kernel
theorem dX8_load_34 : decode cX8_load 34 = .ok (.iload_n 1, 1) := by decide +kernel
theorem dX8_load_35 : decode cX8_load 35 = .ok (.aload_n 0, 1) := by decide +kernel
theorem dX8_load_36 : decode cX8_load 36 = .ok (.getfield 26, 3) := by decide +kernel
theorem dX8_load_39 : decode cX8_load 39 = .ok (.getfield 124, 3) := by decide +kernel
theorem dX8_load_42 : decode cX8_load 42 = .ok (.if_icmp .ge 24, 3) := by decide +kernel
theorem dX8_load_45 : decode cX8_load 45 = .ok (.aload_n 0, 1) := by decide +kernel
theorem dX8_load_46 : decode cX8_load 46 = .ok (.getfield 10, 3) := by decide +kernel
theorem dX8_load_49 : decode cX8_load 49 = .ok (.aload_n 0, 1) := by decide +kernel
theorem dX8_load_50 : decode cX8_load 50 = .ok (.getfield 26, 3) := by decide +kernel
theorem dX8_load_53 : decode cX8_load 53 = .ok (.iload_n 1, 1) := by decide +kernel
theorem dX8_load_54 : decode cX8_load 54 = .ok (.invokevirtual 127, 3) := by decide +kernel
theorem dX8_load_57 : decode cX8_load 57 = .ok (.invokevirtual 92, 3) := by decide +kernel
theorem dX8_load_60 : decode cX8_load 60 = .ok (.iinc 1 1, 3) := by decide +kernel
theorem dX8_load_63 : decode cX8_load 63 = .ok (.goto (-29), 3) := by decide +kernel
theorem dX8_load_66 : decode cX8_load 66 = .ok (.aload_n 0, 1) := by decide +kernel
theorem dX8_load_67 : decode cX8_load 67 = .ok (.getfield 26, 3) := by decide +kernel
theorem dX8_load_70 : decode cX8_load 70 = .ok (.iconst 0, 1) := by decide +kernel
theorem dX8_load_71 : decode cX8_load 71 = .ok (.putfield 119, 3) := by decide +kernel
theorem dX8_load_74 : decode cX8_load 74 = .ok (.aload_n 0, 1) := by decide +kernel
theorem dX8_load_75 : decode cX8_load 75 = .ok (.getfield 10, 3) := by decide +kernel
theorem dX8_load_78 : decode cX8_load 78 = .ok (.getfield 82, 3) := by decide +kernel
theorem dX8_load_81 : decode cX8_load 81 = .ok (.ireturn, 1) := by decide +kernel
theorem dX8_attack_0 : decode cX8_attack 0 = .ok (.aload_n 0, 1) := by decide +kernel
theorem dX8_attack_1 : decode cX8_attack 1 = .ok (.getfield 10, 3) := by decide +kernel
theorem dX8_attack_4 : decode cX8_attack 4 = .ok (.iload_n 1, 1) := by decide +kernel
theorem dX8_attack_5 : decode cX8_attack 5 = .ok (.invokevirtual 96, 3) := by decide +kernel
theorem dX8_attack_8 : decode cX8_attack 8 = .ok (.ifCond .ne 6, 3) := by decide +kernel
theorem dX8_attack_11 : decode cX8_attack 11 = .ok (.bipush (-2), 2) := by decide +kernel
theorem dX8_attack_13 : decode cX8_attack 13 = .ok (.ireturn, 1) := by decide +kernel
theorem dX8_attack_14 : decode cX8_attack 14 = .ok (.aload_n 0, 1) := by decide +kernel
theorem dX8_attack_15 : decode cX8_attack 15 = .ok (.getfield 10, 3) := by decide +kernel
theorem dX8_attack_18 : decode cX8_attack 18 = .ok (.getfield 111, 3) := by decide +kernel
theorem dX8_attack_21 : decode cX8_attack 21 = .ok (.iload_n 1, 1) := by decide +kernel
theorem dX8_attack_22 : decode cX8_attack 22 = .ok (.ishr, 1) := by decide +kernel
theorem dX8_attack_23 : decode cX8_attack 23 = .ok (.iconst 1, 1) := by decide +kernel
theorem dX8_attack_24 : decode cX8_attack 24 = .ok (.iand, 1) := by decide +kernel
theorem dX8_attack_25 : decode cX8_attack 25 = .ok (.ifCond .eq 7, 3) := by decide +kernel
theorem dX8_attack_28 : decode cX8_attack 28 = .ok (.iconst 1, 1) := by decide +kernel
theorem dX8_attack_29 : decode cX8_attack 29 = .ok (.goto 4, 3) := by decide +kernel
theorem dX8_attack_32 : decode cX8_attack 32 = .ok (.iconst 0, 1) := by decide +kernel
theorem dX8_attack_33 : decode cX8_attack 33 = .ok (.istore_n 3, 1) := by decide +kernel
theorem dX8_attack_34 : decode cX8_attack 34 = .ok (.iload_n 3, 1) := by decide +kernel
theorem dX8_attack_35 : decode cX8_attack 35 = .ok (.iload_n 2, 1) := by decide +kernel
theorem dX8_attack_36 : decode cX8_attack 36 = .ok (.if_icmp .ne 6, 3) := by decide +kernel
theorem dX8_attack_39 : decode cX8_attack 39 = .ok (.bipush (-3), 2) := by decide +kernel
theorem dX8_attack_41 : decode cX8_attack 41 = .ok (.ireturn, 1) := by decide +kernel
theorem dX8_attack_42 : decode cX8_attack 42 = .ok (.aload_n 0, 1) := by decide +kernel
theorem dX8_attack_43 : decode cX8_attack 43 = .ok (.getfield 19, 3) := by decide +kernel
theorem dX8_attack_46 : decode cX8_attack 46 = .ok (.aload_n 0, 1) := by decide +kernel
theorem dX8_attack_47 : decode cX8_attack 47 = .ok (.getfield 10, 3) := by decide +kernel
theorem dX8_attack_50 : decode cX8_attack 50 = .ok (.invokevirtual 85, 3) := by decide +kernel
theorem dX8_attack_53 : decode cX8_attack 53 = .ok (.aload_n 0, 1) := by decide +kernel
theorem dX8_attack_54 : decode cX8_attack 54 = .ok (.getfield 10, 3) := by decide +kernel
theorem dX8_attack_57 : decode cX8_attack 57 = .ok (.dup, 1) := by decide +kernel
theorem dX8_attack_58 : decode cX8_attack 58 = .ok (.getfield 111, 3) := by decide +kernel
theorem dX8_attack_61 : decode cX8_attack 61 = .ok (.iconst 1, 1) := by decide +kernel
theorem dX8_attack_62 : decode cX8_attack 62 = .ok (.iload_n 1, 1) := by decide +kernel
theorem dX8_attack_63 : decode cX8_attack 63 = .ok (.ishl, 1) := by decide +kernel
theorem dX8_attack_64 : decode cX8_attack 64 = .ok (.ixor, 1) := by decide +kernel
theorem dX8_attack_65 : decode cX8_attack 65 = .ok (.putfield 111, 3) := by decide +kernel
theorem dX8_attack_68 : decode cX8_attack 68 = .ok (.aload_n 0, 1) := by decide +kernel
theorem dX8_attack_69 : decode cX8_attack 69 = .ok (.getfield 10, 3) := by decide +kernel
theorem dX8_attack_72 : decode cX8_attack 72 = .ok (.aload_n 0, 1) := by decide +kernel
theorem dX8_attack_73 : decode cX8_attack 73 = .ok (.getfield 10, 3) := by decide +kernel
theorem dX8_attack_76 : decode cX8_attack 76 = .ok (.getfield 111, 3) := by decide +kernel
theorem dX8_attack_79 : decode cX8_attack 79 = .ok (.invokevirtual 131, 3) := by decide +kernel
theorem dX8_attack_82 : decode cX8_attack 82 = .ok (.ireturn, 1) := by decide +kernel
theorem dX8_setAttack_0 : decode cX8_setAttack 0 = .ok (.aload_n 0, 1) := by decide +kernel
theorem dX8_setAttack_1 : decode cX8_setAttack 1 = .ok (.getfield 10, 3) := by decide +kernel
theorem dX8_setAttack_4 : decode cX8_setAttack 4 = .ok (.iload_n 1, 1) := by decide +kernel
theorem dX8_setAttack_5 : decode cX8_setAttack 5 = .ok (.invokevirtual 134, 3) := by decide +kernel
theorem dX8_setAttack_8 : decode cX8_setAttack 8 = .ok (.ifCond .ne 6, 3) := by decide +kernel
theorem dX8_setAttack_11 : decode cX8_setAttack 11 = .ok (.bipush (-2), 2) := by decide +kernel
theorem dX8_setAttack_13 : decode cX8_setAttack 13 = .ok (.ireturn, 1) := by decide +kernel
theorem dX8_setAttack_14 : decode cX8_setAttack 14 = .ok (.aload_n 0, 1) := by decide +kernel
theorem dX8_setAttack_15 : decode cX8_setAttack 15 = .ok (.getfield 19, 3) := by decide +kernel
theorem dX8_setAttack_18 : decode cX8_setAttack 18 = .ok (.aload_n 0, 1) := by decide +kernel
theorem dX8_setAttack_19 : decode cX8_setAttack 19 = .ok (.getfield 10, 3) := by decide +kernel
theorem dX8_setAttack_22 : decode cX8_setAttack 22 = .ok (.invokevirtual 85, 3) := by decide +kernel
theorem dX8_setAttack_25 : decode cX8_setAttack 25 = .ok (.aload_n 0, 1) := by decide +kernel
theorem dX8_setAttack_26 : decode cX8_setAttack 26 = .ok (.getfield 10, 3) := by decide +kernel
theorem dX8_setAttack_29 : decode cX8_setAttack 29 = .ok (.iload_n 1, 1) := by decide +kernel
theorem dX8_setAttack_30 : decode cX8_setAttack 30 = .ok (.putfield 111, 3) := by decide +kernel
theorem dX8_setAttack_33 : decode cX8_setAttack 33 = .ok (.aload_n 0, 1) := by decide +kernel
theorem dX8_setAttack_34 : decode cX8_setAttack 34 = .ok (.getfield 10, 3) := by decide +kernel
theorem dX8_setAttack_37 : decode cX8_setAttack 37 = .ok (.iload_n 1, 1) := by decide +kernel
theorem dX8_setAttack_38 : decode cX8_setAttack 38 = .ok (.invokevirtual 131, 3) := by decide +kernel
theorem dX8_setAttack_41 : decode cX8_setAttack 41 = .ok (.ireturn, 1) := by decide +kernel
theorem dX8_distance_0 : decode cX8_distance 0 = .ok (.iload_n 1, 1) := by decide +kernel
theorem dX8_distance_1 : decode cX8_distance 1 = .ok (.iload_n 2, 1) := by decide +kernel
theorem dX8_distance_2 : decode cX8_distance 2 = .ok (.invokestatic 75, 3) := by decide +kernel
theorem dX8_distance_5 : decode cX8_distance 5 = .ok (.ifCond .ne 6, 3) := by decide +kernel
theorem dX8_distance_8 : decode cX8_distance 8 = .ok (.bipush (-2), 2) := by decide +kernel
theorem dX8_distance_10 : decode cX8_distance 10 = .ok (.ireturn, 1) := by decide +kernel
theorem dX8_distance_11 : decode cX8_distance 11 = .ok (.aload_n 0, 1) := by decide +kernel
theorem dX8_distance_12 : decode cX8_distance 12 = .ok (.getfield 35, 3) := by decide +kernel
theorem dX8_distance_15 : decode cX8_distance 15 = .ok (.iload_n 1, 1) := by decide +kernel
theorem dX8_distance_16 : decode cX8_distance 16 = .ok (.iload_n 2, 1) := by decide +kernel
theorem dX8_distance_17 : decode cX8_distance 17 = .ok (.aload_n 0, 1) := by decide +kernel
theorem dX8_distance_18 : decode cX8_distance 18 = .ok (.getfield 10, 3) := by decide +kernel
theorem dX8_distance_21 : decode cX8_distance 21 = .ok (.getfield 111, 3) := by decide +kernel
theorem dX8_distance_24 : decode cX8_distance 24 = .ok (.iconst 0, 1) := by decide +kernel
theorem dX8_distance_25 : decode cX8_distance 25 = .ok (.invokevirtual 137, 3) := by decide +kernel
theorem dX8_distance_28 : decode cX8_distance 28 = .ok (.ireturn, 1) := by decide +kernel
theorem dX8_first_0 : decode cX8_first 0 = .ok (.iload_n 1, 1) := by decide +kernel
theorem dX8_first_1 : decode cX8_first 1 = .ok (.iload_n 2, 1) := by decide +kernel
theorem dX8_first_2 : decode cX8_first 2 = .ok (.invokestatic 75, 3) := by decide +kernel
theorem dX8_first_5 : decode cX8_first 5 = .ok (.ifCond .eq 8, 3) := by decide +kernel
theorem dX8_first_8 : decode cX8_first 8 = .ok (.iload_n 3, 1) := by decide +kernel
theorem dX8_first_9 : decode cX8_first 9 = .ok (.iconst (-1), 1) := by decide +kernel
theorem dX8_first_10 : decode cX8_first 10 = .ok (.if_icmp .ge 6, 3) := by decide +kernel
theorem dX8_first_13 : decode cX8_first 13 = .ok (.bipush (-2), 2) := by decide +kernel
theorem dX8_first_15 : decode cX8_first 15 = .ok (.ireturn, 1) := by decide +kernel
theorem dX8_first_16 : decode cX8_first 16 = .ok (.aload_n 0, 1) := by decide +kernel
theorem dX8_first_17 : decode cX8_first 17 = .ok (.getfield 35, 3) := by decide +kernel
theorem dX8_first_20 : decode cX8_first 20 = .ok (.iload_n 1, 1) := by decide +kernel
theorem dX8_first_21 : decode cX8_first 21 = .ok (.iload_n 2, 1) := by decide +kernel
theorem dX8_first_22 : decode cX8_first 22 = .ok (.aload_n 0, 1) := by decide +kernel
theorem dX8_first_23 : decode cX8_first 23 = .ok (.getfield 10, 3) := by decide +kernel
theorem dX8_first_26 : decode cX8_first 26 = .ok (.getfield 111, 3) := by decide +kernel
theorem dX8_first_29 : decode cX8_first 29 = .ok (.iconst 0, 1) := by decide +kernel
theorem dX8_first_30 : decode cX8_first 30 = .ok (.invokevirtual 137, 3) := by decide +kernel
theorem dX8_first_33 : decode cX8_first 33 = .ok (.istore 4, 2) := by decide +kernel
theorem dX8_first_35 : decode cX8_first 35 = .ok (.iload 4, 2) := by decide +kernel
theorem dX8_first_37 : decode cX8_first 37 = .ok (.sipush 9999, 3) := by decide +kernel
theorem dX8_first_40 : decode cX8_first 40 = .ok (.if_icmp .eq 17, 3) := by decide +kernel
theorem dX8_first_43 : decode cX8_first 43 = .ok (.aload_n 0, 1) := by decide +kernel
theorem dX8_first_44 : decode cX8_first 44 = .ok (.getfield 42, 3) := by decide +kernel
theorem dX8_first_47 : decode cX8_first 47 = .ok (.iload_n 1, 1) := by decide +kernel
theorem dX8_first_48 : decode cX8_first 48 = .ok (.iload_n 2, 1) := by decide +kernel
theorem dX8_first_49 : decode cX8_first 49 = .ok (.iload 4, 2) := by decide +kernel
theorem dX8_first_51 : decode cX8_first 51 = .ok (.invokevirtual 141, 3) := by decide +kernel
theorem dX8_first_54 : decode cX8_first 54 = .ok (.ifCond .ne 5, 3) := by decide +kernel
theorem dX8_first_57 : decode cX8_first 57 = .ok (.iconst (-1), 1) := by decide +kernel
theorem dX8_first_58 : decode cX8_first 58 = .ok (.ireturn, 1) := by decide +kernel
theorem dX8_first_59 : decode cX8_first 59 = .ok (.iload_n 3, 1) := by decide +kernel
theorem dX8_first_60 : decode cX8_first 60 = .ok (.iconst (-1), 1) := by decide +kernel
theorem dX8_first_61 : decode cX8_first 61 = .ok (.if_icmp .ne 13, 3) := by decide +kernel
theorem dX8_first_64 : decode cX8_first 64 = .ok (.aload_n 0, 1) := by decide +kernel
theorem dX8_first_65 : decode cX8_first 65 = .ok (.getfield 42, 3) := by decide +kernel
theorem dX8_first_68 : decode cX8_first 68 = .ok (.getfield 145, 3) := by decide +kernel
theorem dX8_first_71 : decode cX8_first 71 = .ok (.goto 11, 3) := by decide +kernel
theorem dX8_first_74 : decode cX8_first 74 = .ok (.aload_n 0, 1) := by decide +kernel
theorem dX8_first_75 : decode cX8_first 75 = .ok (.getfield 42, 3) := by decide +kernel
theorem dX8_first_78 : decode cX8_first 78 = .ok (.iload_n 3, 1) := by decide +kernel
theorem dX8_first_79 : decode cX8_first 79 = .ok (.invokevirtual 148, 3) := by decide +kernel
theorem dX8_first_82 : decode cX8_first 82 = .ok (.ireturn, 1) := by decide +kernel
theorem dX8_paths_0 : decode cX8_paths 0 = .ok (.iload_n 1, 1) := by decide +kernel
theorem dX8_paths_1 : decode cX8_paths 1 = .ok (.iload_n 2, 1) := by decide +kernel
theorem dX8_paths_2 : decode cX8_paths 2 = .ok (.invokestatic 75, 3) := by decide +kernel
theorem dX8_paths_5 : decode cX8_paths 5 = .ok (.ifCond .eq 7, 3) := by decide +kernel
theorem dX8_paths_8 : decode cX8_paths 8 = .ok (.iload_n 3, 1) := by decide +kernel
theorem dX8_paths_9 : decode cX8_paths 9 = .ok (.ifCond .ge 6, 3) := by decide +kernel
theorem dX8_paths_12 : decode cX8_paths 12 = .ok (.bipush (-2), 2) := by decide +kernel
theorem dX8_paths_14 : decode cX8_paths 14 = .ok (.ireturn, 1) := by decide +kernel
theorem dX8_paths_15 : decode cX8_paths 15 = .ok (.aload_n 0, 1) := by decide +kernel
theorem dX8_paths_16 : decode cX8_paths 16 = .ok (.getfield 42, 3) := by decide +kernel
theorem dX8_paths_19 : decode cX8_paths 19 = .ok (.iload_n 1, 1) := by decide +kernel
theorem dX8_paths_20 : decode cX8_paths 20 = .ok (.iload_n 2, 1) := by decide +kernel
theorem dX8_paths_21 : decode cX8_paths 21 = .ok (.iload_n 3, 1) := by decide +kernel
theorem dX8_paths_22 : decode cX8_paths 22 = .ok (.invokevirtual 151, 3) := by decide +kernel
theorem dX8_paths_25 : decode cX8_paths 25 = .ok (.ireturn, 1) := by decide +kernel
theorem dX8_pathLength_0 : decode cX8_pathLength 0 = .ok (.iload_n 1, 1) := by decide +kernel
theorem dX8_pathLength_1 : decode cX8_pathLength 1 = .ok (.iload_n 2, 1) := by decide +kernel
theorem dX8_pathLength_2 : decode cX8_pathLength 2 = .ok (.invokestatic 75, 3) := by decide +kernel
theorem dX8_pathLength_5 : decode cX8_pathLength 5 = .ok (.ifCond .eq 13, 3) := by decide +kernel
theorem dX8_pathLength_8 : decode cX8_pathLength 8 = .ok (.iload_n 3, 1) := by decide +kernel
theorem dX8_pathLength_9 : decode cX8_pathLength 9 = .ok (.ifCond .lt 9, 3) := by decide +kernel
theorem dX8_pathLength_12 : decode cX8_pathLength 12 = .ok (.iload_n 3, 1) := by decide +kernel
theorem dX8_pathLength_13 : decode cX8_pathLength 13 = .ok (.bipush 100, 2) := by decide +kernel
theorem dX8_pathLength_15 : decode cX8_pathLength 15 = .ok (.if_icmp .lt 6, 3) := by decide +kernel
theorem dX8_pathLength_18 : decode cX8_pathLength 18 = .ok (.bipush (-2), 2) := by decide +kernel
theorem dX8_pathLength_20 : decode cX8_pathLength 20 = .ok (.ireturn, 1) := by decide +kernel
theorem dX8_pathLength_21 : decode cX8_pathLength 21 = .ok (.aload_n 0, 1) := by decide +kernel
theorem dX8_pathLength_22 : decode cX8_pathLength 22 = .ok (.getfield 42, 3) := by decide +kernel
theorem dX8_pathLength_25 : decode cX8_pathLength 25 = .ok (.iload_n 1, 1) := by decide +kernel
theorem dX8_pathLength_26 : decode cX8_pathLength 26 = .ok (.iload_n 2, 1) := by decide +kernel
theorem dX8_pathLength_27 : decode cX8_pathLength 27 = .ok (.iload_n 3, 1) := by decide +kernel
theorem dX8_pathLength_28 : decode cX8_pathLength 28 = .ok (.invokevirtual 155, 3) := by decide +kernel
theorem dX8_pathLength_31 : decode cX8_pathLength 31 = .ok (.ireturn, 1) := by decide +kernel
theorem dX8_tight_0 : decode cX8_tight 0 = .ok (.iload_n 1, 1) := by decide +kernel
theorem dX8_tight_1 : decode cX8_tight 1 = .ok (.iload_n 2, 1) := by decide +kernel
theorem dX8_tight_2 : decode cX8_tight 2 = .ok (.invokestatic 75, 3) := by decide +kernel
theorem dX8_tight_5 : decode cX8_tight 5 = .ok (.ifCond .ne 6, 3) := by decide +kernel
theorem dX8_tight_8 : decode cX8_tight 8 = .ok (.bipush (-2), 2) := by decide +kernel
theorem dX8_tight_10 : decode cX8_tight 10 = .ok (.ireturn, 1) := by decide +kernel
theorem dX8_tight_11 : decode cX8_tight 11 = .ok (.iload_n 1, 1) := by decide +kernel
theorem dX8_tight_12 : decode cX8_tight 12 = .ok (.iload_n 2, 1) := by decide +kernel
theorem dX8_tight_13 : decode cX8_tight 13 = .ok (.if_icmp .ne 7, 3) := by decide +kernel
theorem dX8_tight_16 : decode cX8_tight 16 = .ok (.iconst 0, 1) := by decide +kernel
theorem dX8_tight_17 : decode cX8_tight 17 = .ok (.goto 19, 3) := by decide +kernel
theorem dX8_tight_20 : decode cX8_tight 20 = .ok (.aload_n 0, 1) := by decide +kernel
theorem dX8_tight_21 : decode cX8_tight 21 = .ok (.getfield 35, 3) := by decide +kernel
theorem dX8_tight_24 : decode cX8_tight 24 = .ok (.iload_n 1, 1) := by decide +kernel
theorem dX8_tight_25 : decode cX8_tight 25 = .ok (.iload_n 2, 1) := by decide +kernel
theorem dX8_tight_26 : decode cX8_tight 26 = .ok (.aload_n 0, 1) := by decide +kernel
theorem dX8_tight_27 : decode cX8_tight 27 = .ok (.getfield 10, 3) := by decide +kernel
theorem dX8_tight_30 : decode cX8_tight 30 = .ok (.getfield 111, 3) := by decide +kernel
theorem dX8_tight_33 : decode cX8_tight 33 = .ok (.invokevirtual 158, 3) := by decide +kernel
theorem dX8_tight_36 : decode cX8_tight 36 = .ok (.ireturn, 1) := by decide +kernel
theorem dX8_interdict_0 : decode cX8_interdict 0 = .ok (.aload_n 0, 1) := by decide +kernel
theorem dX8_interdict_1 : decode cX8_interdict 1 = .ok (.iload_n 1, 1) := by decide +kernel
theorem dX8_interdict_2 : decode cX8_interdict 2 = .ok (.iload_n 2, 1) := by decide +kernel
theorem dX8_interdict_3 : decode cX8_interdict 3 = .ok (.iload_n 3, 1) := by decide +kernel
theorem dX8_interdict_4 : decode cX8_interdict 4 = .ok (.iconst 0, 1) := by decide +kernel
theorem dX8_interdict_5 : decode cX8_interdict 5 = .ok (.invokevirtual 161, 3) := by decide +kernel
theorem dX8_interdict_8 : decode cX8_interdict 8 = .ok (.ireturn, 1) := by decide +kernel
theorem dX8_greedy_0 : decode cX8_greedy 0 = .ok (.iload_n 1, 1) := by decide +kernel
theorem dX8_greedy_1 : decode cX8_greedy 1 = .ok (.iload_n 2, 1) := by decide +kernel
theorem dX8_greedy_2 : decode cX8_greedy 2 = .ok (.invokestatic 75, 3) := by decide +kernel
theorem dX8_greedy_5 : decode cX8_greedy 5 = .ok (.ifCond .eq 12, 3) := by decide +kernel
theorem dX8_greedy_8 : decode cX8_greedy 8 = .ok (.iload_n 3, 1) := by decide +kernel
theorem dX8_greedy_9 : decode cX8_greedy 9 = .ok (.bipush 20, 2) := by decide +kernel
theorem dX8_greedy_11 : decode cX8_greedy 11 = .ok (.invokestatic 164, 3) := by decide +kernel
theorem dX8_greedy_14 : decode cX8_greedy 14 = .ok (.ifCond .ne 6, 3) := by decide +kernel
theorem dX8_greedy_17 : decode cX8_greedy 17 = .ok (.bipush (-2), 2) := by decide +kernel
theorem dX8_greedy_19 : decode cX8_greedy 19 = .ok (.ireturn, 1) := by decide +kernel
theorem dX8_greedy_20 : decode cX8_greedy 20 = .ok (.aload_n 0, 1) := by decide +kernel
theorem dX8_greedy_21 : decode cX8_greedy 21 = .ok (.getfield 58, 3) := by decide +kernel
theorem dX8_greedy_24 : decode cX8_greedy 24 = .ok (.iload_n 1, 1) := by decide +kernel
theorem dX8_greedy_25 : decode cX8_greedy 25 = .ok (.iload_n 2, 1) := by decide +kernel
theorem dX8_greedy_26 : decode cX8_greedy 26 = .ok (.iload_n 3, 1) := by decide +kernel
theorem dX8_greedy_27 : decode cX8_greedy 27 = .ok (.invokevirtual 167, 3) := by decide +kernel
theorem dX8_greedy_30 : decode cX8_greedy 30 = .ok (.istore 4, 2) := by decide +kernel
theorem dX8_greedy_32 : decode cX8_greedy 32 = .ok (.aload_n 0, 1) := by decide +kernel
theorem dX8_greedy_33 : decode cX8_greedy 33 = .ok (.aload_n 0, 1) := by decide +kernel
theorem dX8_greedy_34 : decode cX8_greedy 34 = .ok (.getfield 58, 3) := by decide +kernel
theorem dX8_greedy_37 : decode cX8_greedy 37 = .ok (.getfield 170, 3) := by decide +kernel
theorem dX8_greedy_40 : decode cX8_greedy 40 = .ok (.putfield 71, 3) := by decide +kernel
theorem dX8_greedy_43 : decode cX8_greedy 43 = .ok (.iload 4, 2) := by decide +kernel
theorem dX8_greedy_45 : decode cX8_greedy 45 = .ok (.ireturn, 1) := by decide +kernel
theorem dX8_budgetFor_0 : decode cX8_budgetFor 0 = .ok (.iload_n 1, 1) := by decide +kernel
theorem dX8_budgetFor_1 : decode cX8_budgetFor 1 = .ok (.iload_n 2, 1) := by decide +kernel
theorem dX8_budgetFor_2 : decode cX8_budgetFor 2 = .ok (.invokestatic 75, 3) := by decide +kernel
theorem dX8_budgetFor_5 : decode cX8_budgetFor 5 = .ok (.ifCond .eq 13, 3) := by decide +kernel
theorem dX8_budgetFor_8 : decode cX8_budgetFor 8 = .ok (.iload_n 3, 1) := by decide +kernel
theorem dX8_budgetFor_9 : decode cX8_budgetFor 9 = .ok (.sipush 9999, 3) := by decide +kernel
theorem dX8_budgetFor_12 : decode cX8_budgetFor 12 = .ok (.invokestatic 164, 3) := by decide +kernel
theorem dX8_budgetFor_15 : decode cX8_budgetFor 15 = .ok (.ifCond .ne 6, 3) := by decide +kernel
theorem dX8_budgetFor_18 : decode cX8_budgetFor 18 = .ok (.bipush (-2), 2) := by decide +kernel
theorem dX8_budgetFor_20 : decode cX8_budgetFor 20 = .ok (.ireturn, 1) := by decide +kernel
theorem dX8_budgetFor_21 : decode cX8_budgetFor 21 = .ok (.aload_n 0, 1) := by decide +kernel
theorem dX8_budgetFor_22 : decode cX8_budgetFor 22 = .ok (.getfield 51, 3) := by decide +kernel
theorem dX8_budgetFor_25 : decode cX8_budgetFor 25 = .ok (.iload_n 1, 1) := by decide +kernel
theorem dX8_budgetFor_26 : decode cX8_budgetFor 26 = .ok (.iload_n 2, 1) := by decide +kernel
theorem dX8_budgetFor_27 : decode cX8_budgetFor 27 = .ok (.iconst 5, 1) := by decide +kernel
theorem dX8_budgetFor_28 : decode cX8_budgetFor 28 = .ok (.iconst 0, 1) := by decide +kernel
theorem dX8_budgetFor_29 : decode cX8_budgetFor 29 = .ok (.iload_n 3, 1) := by decide +kernel
theorem dX8_budgetFor_30 : decode cX8_budgetFor 30 = .ok (.iconst 0, 1) := by decide +kernel
theorem dX8_budgetFor_31 : decode cX8_budgetFor 31 = .ok (.invokevirtual 173, 3) := by decide +kernel
theorem dX8_budgetFor_34 : decode cX8_budgetFor 34 = .ok (.aload_n 0, 1) := by decide +kernel
theorem dX8_budgetFor_35 : decode cX8_budgetFor 35 = .ok (.getfield 51, 3) := by decide +kernel
theorem dX8_budgetFor_38 : decode cX8_budgetFor 38 = .ok (.getfield 177, 3) := by decide +kernel
theorem dX8_budgetFor_41 : decode cX8_budgetFor 41 = .ok (.iload_n 3, 1) := by decide +kernel
theorem dX8_budgetFor_42 : decode cX8_budgetFor 42 = .ok (.if_icmp .ge 5, 3) := by decide +kernel
theorem dX8_budgetFor_45 : decode cX8_budgetFor 45 = .ok (.iconst (-1), 1) := by decide +kernel
theorem dX8_budgetFor_46 : decode cX8_budgetFor 46 = .ok (.ireturn, 1) := by decide +kernel
theorem dX8_budgetFor_47 : decode cX8_budgetFor 47 = .ok (.aload_n 0, 1) := by decide +kernel
theorem dX8_budgetFor_48 : decode cX8_budgetFor 48 = .ok (.aload_n 0, 1) := by decide +kernel
theorem dX8_budgetFor_49 : decode cX8_budgetFor 49 = .ok (.getfield 51, 3) := by decide +kernel
theorem dX8_budgetFor_52 : decode cX8_budgetFor 52 = .ok (.getfield 180, 3) := by decide +kernel
theorem dX8_budgetFor_55 : decode cX8_budgetFor 55 = .ok (.putfield 71, 3) := by decide +kernel
theorem dX8_budgetFor_58 : decode cX8_budgetFor 58 = .ok (.aload_n 0, 1) := by decide +kernel
theorem dX8_budgetFor_59 : decode cX8_budgetFor 59 = .ok (.getfield 51, 3) := by decide +kernel
theorem dX8_budgetFor_62 : decode cX8_budgetFor 62 = .ok (.getfield 181, 3) := by decide +kernel
theorem dX8_budgetFor_65 : decode cX8_budgetFor 65 = .ok (.ireturn, 1) := by decide +kernel
end
section
/-! decode rows -/
theorem dX8_blockade_0 : decode cX8_blockade 0 = .ok (.iload_n 1, 1) := by decide +kernel
theorem dX8_blockade_1 : decode cX8_blockade 1 = .ok (.iload_n 2, 1) := by decide +kernel
theorem dX8_blockade_2 : decode cX8_blockade 2 = .ok (.invokestatic 75, 3) := by decide +kernel
theorem dX8_blockade_5 : decode cX8_blockade 5 = .ok (.ifCond .ne 6, 3) := by decide +kernel
theorem dX8_blockade_8 : decode cX8_blockade 8 = .ok (.bipush (-2), 2) := by decide +kernel
theorem dX8_blockade_10 : decode cX8_blockade 10 = .ok (.ireturn, 1) := by decide +kernel
theorem dX8_blockade_11 : decode cX8_blockade 11 = .ok (.iconst (-1), 1) := by decide +kernel
theorem dX8_blockade_12 : decode cX8_blockade 12 = .ok (.istore_n 3, 1) := by decide +kernel
theorem dX8_blockade_13 : decode cX8_blockade 13 = .ok (.iconst 0, 1) := by decide +kernel
theorem dX8_blockade_14 : decode cX8_blockade 14 = .ok (.istore 4, 2) := by decide +kernel
theorem dX8_blockade_16 : decode cX8_blockade 16 = .ok (.iload 4, 2) := by decide +kernel
theorem dX8_blockade_18 : decode cX8_blockade 18 = .ok (.sipush 256, 3) := by decide +kernel
theorem dX8_blockade_21 : decode cX8_blockade 21 = .ok (.if_icmp .ge 58, 3) := by decide +kernel
theorem dX8_blockade_24 : decode cX8_blockade 24 = .ok (.iload 4, 2) := by decide +kernel
theorem dX8_blockade_26 : decode cX8_blockade 26 = .ok (.iload_n 1, 1) := by decide +kernel
theorem dX8_blockade_27 : decode cX8_blockade 27 = .ok (.ishr, 1) := by decide +kernel
theorem dX8_blockade_28 : decode cX8_blockade 28 = .ok (.iconst 1, 1) := by decide +kernel
theorem dX8_blockade_29 : decode cX8_blockade 29 = .ok (.iand, 1) := by decide +kernel
theorem dX8_blockade_30 : decode cX8_blockade 30 = .ok (.ifCond .eq 43, 3) := by decide +kernel
theorem dX8_blockade_33 : decode cX8_blockade 33 = .ok (.iload 4, 2) := by decide +kernel
theorem dX8_blockade_35 : decode cX8_blockade 35 = .ok (.iload_n 2, 1) := by decide +kernel
theorem dX8_blockade_36 : decode cX8_blockade 36 = .ok (.ishr, 1) := by decide +kernel
theorem dX8_blockade_37 : decode cX8_blockade 37 = .ok (.iconst 1, 1) := by decide +kernel
theorem dX8_blockade_38 : decode cX8_blockade 38 = .ok (.iand, 1) := by decide +kernel
theorem dX8_blockade_39 : decode cX8_blockade 39 = .ok (.ifCond .ne 34, 3) := by decide +kernel
theorem dX8_blockade_42 : decode cX8_blockade 42 = .ok (.aload_n 0, 1) := by decide +kernel
theorem dX8_blockade_43 : decode cX8_blockade 43 = .ok (.getfield 10, 3) := by decide +kernel
theorem dX8_blockade_46 : decode cX8_blockade 46 = .ok (.iload 4, 2) := by decide +kernel
theorem dX8_blockade_48 : decode cX8_blockade 48 = .ok (.invokevirtual 184, 3) := by decide +kernel
theorem dX8_blockade_51 : decode cX8_blockade 51 = .ok (.istore 5, 2) := by decide +kernel
theorem dX8_blockade_53 : decode cX8_blockade 53 = .ok (.iload 5, 2) := by decide +kernel
theorem dX8_blockade_55 : decode cX8_blockade 55 = .ok (.iconst (-1), 1) := by decide +kernel
theorem dX8_blockade_56 : decode cX8_blockade 56 = .ok (.if_icmp .eq 17, 3) := by decide +kernel
theorem dX8_blockade_59 : decode cX8_blockade 59 = .ok (.iload_n 3, 1) := by decide +kernel
theorem dX8_blockade_60 : decode cX8_blockade 60 = .ok (.iconst (-1), 1) := by decide +kernel
theorem dX8_blockade_61 : decode cX8_blockade 61 = .ok (.if_icmp .eq 9, 3) := by decide +kernel
theorem dX8_blockade_64 : decode cX8_blockade 64 = .ok (.iload 5, 2) := by decide +kernel
theorem dX8_blockade_66 : decode cX8_blockade 66 = .ok (.iload_n 3, 1) := by decide +kernel
theorem dX8_blockade_67 : decode cX8_blockade 67 = .ok (.if_icmp .ge 6, 3) := by decide +kernel
theorem dX8_blockade_70 : decode cX8_blockade 70 = .ok (.iload 5, 2) := by decide +kernel
theorem dX8_blockade_72 : decode cX8_blockade 72 = .ok (.istore_n 3, 1) := by decide +kernel
theorem dX8_blockade_73 : decode cX8_blockade 73 = .ok (.iinc 4 1, 3) := by decide +kernel
theorem dX8_blockade_76 : decode cX8_blockade 76 = .ok (.goto (-60), 3) := by decide +kernel
theorem dX8_blockade_79 : decode cX8_blockade 79 = .ok (.iload_n 3, 1) := by decide +kernel
theorem dX8_blockade_80 : decode cX8_blockade 80 = .ok (.ireturn, 1) := by decide +kernel
theorem dX8_respond_0 : decode cX8_respond 0 = .ok (.iload_n 1, 1) := by decide +kernel
theorem dX8_respond_1 : decode cX8_respond 1 = .ok (.iload_n 2, 1) := by decide +kernel
theorem dX8_respond_2 : decode cX8_respond 2 = .ok (.invokestatic 75, 3) := by decide +kernel
theorem dX8_respond_5 : decode cX8_respond 5 = .ok (.ifCond .eq 23, 3) := by decide +kernel
theorem dX8_respond_8 : decode cX8_respond 8 = .ok (.aload_n 0, 1) := by decide +kernel
theorem dX8_respond_9 : decode cX8_respond 9 = .ok (.getfield 10, 3) := by decide +kernel
theorem dX8_respond_12 : decode cX8_respond 12 = .ok (.iload_n 3, 1) := by decide +kernel
theorem dX8_respond_13 : decode cX8_respond 13 = .ok (.invokevirtual 134, 3) := by decide +kernel
theorem dX8_respond_16 : decode cX8_respond 16 = .ok (.ifCond .eq 12, 3) := by decide +kernel
theorem dX8_respond_19 : decode cX8_respond 19 = .ok (.iload 4, 2) := by decide +kernel
theorem dX8_respond_21 : decode cX8_respond 21 = .ok (.iconst 3, 1) := by decide +kernel
theorem dX8_respond_22 : decode cX8_respond 22 = .ok (.invokestatic 164, 3) := by decide +kernel
theorem dX8_respond_25 : decode cX8_respond 25 = .ok (.ifCond .ne 6, 3) := by decide +kernel
theorem dX8_respond_28 : decode cX8_respond 28 = .ok (.bipush (-2), 2) := by decide +kernel
theorem dX8_respond_30 : decode cX8_respond 30 = .ok (.ireturn, 1) := by decide +kernel
theorem dX8_respond_31 : decode cX8_respond 31 = .ok (.aload_n 0, 1) := by decide +kernel
theorem dX8_respond_32 : decode cX8_respond 32 = .ok (.getfield 35, 3) := by decide +kernel
theorem dX8_respond_35 : decode cX8_respond 35 = .ok (.iload_n 1, 1) := by decide +kernel
theorem dX8_respond_36 : decode cX8_respond 36 = .ok (.iload_n 2, 1) := by decide +kernel
theorem dX8_respond_37 : decode cX8_respond 37 = .ok (.iload_n 3, 1) := by decide +kernel
theorem dX8_respond_38 : decode cX8_respond 38 = .ok (.iload 4, 2) := by decide +kernel
theorem dX8_respond_40 : decode cX8_respond 40 = .ok (.invokevirtual 137, 3) := by decide +kernel
theorem dX8_respond_43 : decode cX8_respond 43 = .ok (.ireturn, 1) := by decide +kernel
theorem dX8_interdictResponse_0 : decode cX8_interdictResponse 0 = .ok (.iload_n 1, 1) := by decide +kernel
theorem dX8_interdictResponse_1 : decode cX8_interdictResponse 1 = .ok (.iload_n 2, 1) := by decide +kernel
theorem dX8_interdictResponse_2 : decode cX8_interdictResponse 2 = .ok (.invokestatic 75, 3) := by decide +kernel
theorem dX8_interdictResponse_5 : decode cX8_interdictResponse 5 = .ok (.ifCond .eq 20, 3) := by decide +kernel
theorem dX8_interdictResponse_8 : decode cX8_interdictResponse 8 = .ok (.iload_n 3, 1) := by decide +kernel
theorem dX8_interdictResponse_9 : decode cX8_interdictResponse 9 = .ok (.iconst 5, 1) := by decide +kernel
theorem dX8_interdictResponse_10 : decode cX8_interdictResponse 10 = .ok (.invokestatic 164, 3) := by decide +kernel
theorem dX8_interdictResponse_13 : decode cX8_interdictResponse 13 = .ok (.ifCond .eq 12, 3) := by decide +kernel
theorem dX8_interdictResponse_16 : decode cX8_interdictResponse 16 = .ok (.iload 4, 2) := by decide +kernel
theorem dX8_interdictResponse_18 : decode cX8_interdictResponse 18 = .ok (.iconst 3, 1) := by decide +kernel
theorem dX8_interdictResponse_19 : decode cX8_interdictResponse 19 = .ok (.invokestatic 164, 3) := by decide +kernel
theorem dX8_interdictResponse_22 : decode cX8_interdictResponse 22 = .ok (.ifCond .ne 6, 3) := by decide +kernel
theorem dX8_interdictResponse_25 : decode cX8_interdictResponse 25 = .ok (.bipush (-2), 2) := by decide +kernel
theorem dX8_interdictResponse_27 : decode cX8_interdictResponse 27 = .ok (.ireturn, 1) := by decide +kernel
theorem dX8_interdictResponse_28 : decode cX8_interdictResponse 28 = .ok (.aload_n 0, 1) := by decide +kernel
theorem dX8_interdictResponse_29 : decode cX8_interdictResponse 29 = .ok (.getfield 51, 3) := by decide +kernel
theorem dX8_interdictResponse_32 : decode cX8_interdictResponse 32 = .ok (.iload_n 1, 1) := by decide +kernel
theorem dX8_interdictResponse_33 : decode cX8_interdictResponse 33 = .ok (.iload_n 2, 1) := by decide +kernel
theorem dX8_interdictResponse_34 : decode cX8_interdictResponse 34 = .ok (.iload_n 3, 1) := by decide +kernel
theorem dX8_interdictResponse_35 : decode cX8_interdictResponse 35 = .ok (.iload 4, 2) := by decide +kernel
theorem dX8_interdictResponse_37 : decode cX8_interdictResponse 37 = .ok (.sipush 9999, 3) := by decide +kernel
theorem dX8_interdictResponse_40 : decode cX8_interdictResponse 40 = .ok (.iconst 0, 1) := by decide +kernel
theorem dX8_interdictResponse_41 : decode cX8_interdictResponse 41 = .ok (.invokevirtual 173, 3) := by decide +kernel
theorem dX8_interdictResponse_44 : decode cX8_interdictResponse 44 = .ok (.aload_n 0, 1) := by decide +kernel
theorem dX8_interdictResponse_45 : decode cX8_interdictResponse 45 = .ok (.aload_n 0, 1) := by decide +kernel
theorem dX8_interdictResponse_46 : decode cX8_interdictResponse 46 = .ok (.getfield 51, 3) := by decide +kernel
theorem dX8_interdictResponse_49 : decode cX8_interdictResponse 49 = .ok (.getfield 180, 3) := by decide +kernel
theorem dX8_interdictResponse_52 : decode cX8_interdictResponse 52 = .ok (.putfield 71, 3) := by decide +kernel
theorem dX8_interdictResponse_55 : decode cX8_interdictResponse 55 = .ok (.aload_n 0, 1) := by decide +kernel
theorem dX8_interdictResponse_56 : decode cX8_interdictResponse 56 = .ok (.getfield 51, 3) := by decide +kernel
theorem dX8_interdictResponse_59 : decode cX8_interdictResponse 59 = .ok (.getfield 177, 3) := by decide +kernel
theorem dX8_interdictResponse_62 : decode cX8_interdictResponse 62 = .ok (.ireturn, 1) := by decide +kernel
theorem dX8_fortify_0 : decode cX8_fortify 0 = .ok (.iload_n 1, 1) := by decide +kernel
theorem dX8_fortify_1 : decode cX8_fortify 1 = .ok (.iload_n 2, 1) := by decide +kernel
theorem dX8_fortify_2 : decode cX8_fortify 2 = .ok (.invokestatic 75, 3) := by decide +kernel
theorem dX8_fortify_5 : decode cX8_fortify 5 = .ok (.ifCond .eq 20, 3) := by decide +kernel
theorem dX8_fortify_8 : decode cX8_fortify 8 = .ok (.iload_n 3, 1) := by decide +kernel
theorem dX8_fortify_9 : decode cX8_fortify 9 = .ok (.iconst 3, 1) := by decide +kernel
theorem dX8_fortify_10 : decode cX8_fortify 10 = .ok (.invokestatic 164, 3) := by decide +kernel
theorem dX8_fortify_13 : decode cX8_fortify 13 = .ok (.ifCond .eq 12, 3) := by decide +kernel
theorem dX8_fortify_16 : decode cX8_fortify 16 = .ok (.iload 4, 2) := by decide +kernel
theorem dX8_fortify_18 : decode cX8_fortify 18 = .ok (.iconst 2, 1) := by decide +kernel
theorem dX8_fortify_19 : decode cX8_fortify 19 = .ok (.invokestatic 164, 3) := by decide +kernel
theorem dX8_fortify_22 : decode cX8_fortify 22 = .ok (.ifCond .ne 6, 3) := by decide +kernel
theorem dX8_fortify_25 : decode cX8_fortify 25 = .ok (.bipush (-2), 2) := by decide +kernel
theorem dX8_fortify_27 : decode cX8_fortify 27 = .ok (.ireturn, 1) := by decide +kernel
theorem dX8_fortify_28 : decode cX8_fortify 28 = .ok (.aload_n 0, 1) := by decide +kernel
theorem dX8_fortify_29 : decode cX8_fortify 29 = .ok (.getfield 67, 3) := by decide +kernel
theorem dX8_fortify_32 : decode cX8_fortify 32 = .ok (.iload_n 1, 1) := by decide +kernel
theorem dX8_fortify_33 : decode cX8_fortify 33 = .ok (.iload_n 2, 1) := by decide +kernel
theorem dX8_fortify_34 : decode cX8_fortify 34 = .ok (.iload_n 3, 1) := by decide +kernel
theorem dX8_fortify_35 : decode cX8_fortify 35 = .ok (.iload 4, 2) := by decide +kernel
theorem dX8_fortify_37 : decode cX8_fortify 37 = .ok (.invokevirtual 187, 3) := by decide +kernel
theorem dX8_fortify_40 : decode cX8_fortify 40 = .ok (.istore 5, 2) := by decide +kernel
theorem dX8_fortify_42 : decode cX8_fortify 42 = .ok (.aload_n 0, 1) := by decide +kernel
theorem dX8_fortify_43 : decode cX8_fortify 43 = .ok (.aload_n 0, 1) := by decide +kernel
theorem dX8_fortify_44 : decode cX8_fortify 44 = .ok (.getfield 67, 3) := by decide +kernel
theorem dX8_fortify_47 : decode cX8_fortify 47 = .ok (.getfield 189, 3) := by decide +kernel
theorem dX8_fortify_50 : decode cX8_fortify 50 = .ok (.putfield 71, 3) := by decide +kernel
theorem dX8_fortify_53 : decode cX8_fortify 53 = .ok (.iload 5, 2) := by decide +kernel
theorem dX8_fortify_55 : decode cX8_fortify 55 = .ok (.ireturn, 1) := by decide +kernel
theorem dX8_finding_0 : decode cX8_finding 0 = .ok (.aload_n 0, 1) := by decide +kernel
theorem dX8_finding_1 : decode cX8_finding 1 = .ok (.getfield 71, 3) := by decide +kernel
theorem dX8_finding_4 : decode cX8_finding 4 = .ok (.ireturn, 1) := by decide +kernel
theorem dX8_worth_0 : decode cX8_worth 0 = .ok (.iload_n 1, 1) := by decide +kernel
theorem dX8_worth_1 : decode cX8_worth 1 = .ok (.iload_n 2, 1) := by decide +kernel
theorem dX8_worth_2 : decode cX8_worth 2 = .ok (.invokestatic 75, 3) := by decide +kernel
theorem dX8_worth_5 : decode cX8_worth 5 = .ok (.ifCond .eq 14, 3) := by decide +kernel
theorem dX8_worth_8 : decode cX8_worth 8 = .ok (.aload_n 0, 1) := by decide +kernel
theorem dX8_worth_9 : decode cX8_worth 9 = .ok (.getfield 10, 3) := by decide +kernel
theorem dX8_worth_12 : decode cX8_worth 12 = .ok (.iload_n 3, 1) := by decide +kernel
theorem dX8_worth_13 : decode cX8_worth 13 = .ok (.invokevirtual 96, 3) := by decide +kernel
theorem dX8_worth_16 : decode cX8_worth 16 = .ok (.ifCond .ne 6, 3) := by decide +kernel
theorem dX8_worth_19 : decode cX8_worth 19 = .ok (.bipush (-2), 2) := by decide +kernel
theorem dX8_worth_21 : decode cX8_worth 21 = .ok (.ireturn, 1) := by decide +kernel
theorem dX8_worth_22 : decode cX8_worth 22 = .ok (.aload_n 0, 1) := by decide +kernel
theorem dX8_worth_23 : decode cX8_worth 23 = .ok (.getfield 10, 3) := by decide +kernel
theorem dX8_worth_26 : decode cX8_worth 26 = .ok (.getfield 111, 3) := by decide +kernel
theorem dX8_worth_29 : decode cX8_worth 29 = .ok (.iconst 1, 1) := by decide +kernel
theorem dX8_worth_30 : decode cX8_worth 30 = .ok (.iload_n 3, 1) := by decide +kernel
theorem dX8_worth_31 : decode cX8_worth 31 = .ok (.ishl, 1) := by decide +kernel
theorem dX8_worth_32 : decode cX8_worth 32 = .ok (.ior, 1) := by decide +kernel
theorem dX8_worth_33 : decode cX8_worth 33 = .ok (.istore 4, 2) := by decide +kernel
theorem dX8_worth_35 : decode cX8_worth 35 = .ok (.aload_n 0, 1) := by decide +kernel
theorem dX8_worth_36 : decode cX8_worth 36 = .ok (.getfield 10, 3) := by decide +kernel
theorem dX8_worth_39 : decode cX8_worth 39 = .ok (.getfield 111, 3) := by decide +kernel
theorem dX8_worth_42 : decode cX8_worth 42 = .ok (.iconst 1, 1) := by decide +kernel
theorem dX8_worth_43 : decode cX8_worth 43 = .ok (.iload_n 3, 1) := by decide +kernel
theorem dX8_worth_44 : decode cX8_worth 44 = .ok (.ishl, 1) := by decide +kernel
theorem dX8_worth_45 : decode cX8_worth 45 = .ok (.iconst (-1), 1) := by decide +kernel
theorem dX8_worth_46 : decode cX8_worth 46 = .ok (.ixor, 1) := by decide +kernel
theorem dX8_worth_47 : decode cX8_worth 47 = .ok (.iand, 1) := by decide +kernel
theorem dX8_worth_48 : decode cX8_worth 48 = .ok (.istore 5, 2) := by decide +kernel
theorem dX8_worth_50 : decode cX8_worth 50 = .ok (.aload_n 0, 1) := by decide +kernel
theorem dX8_worth_51 : decode cX8_worth 51 = .ok (.getfield 35, 3) := by decide +kernel
theorem dX8_worth_54 : decode cX8_worth 54 = .ok (.iload_n 1, 1) := by decide +kernel
theorem dX8_worth_55 : decode cX8_worth 55 = .ok (.iload_n 2, 1) := by decide +kernel
theorem dX8_worth_56 : decode cX8_worth 56 = .ok (.iload 4, 2) := by decide +kernel
theorem dX8_worth_58 : decode cX8_worth 58 = .ok (.iconst 0, 1) := by decide +kernel
theorem dX8_worth_59 : decode cX8_worth 59 = .ok (.invokevirtual 137, 3) := by decide +kernel
theorem dX8_worth_62 : decode cX8_worth 62 = .ok (.aload_n 0, 1) := by decide +kernel
theorem dX8_worth_63 : decode cX8_worth 63 = .ok (.getfield 35, 3) := by decide +kernel
theorem dX8_worth_66 : decode cX8_worth 66 = .ok (.iload_n 1, 1) := by decide +kernel
theorem dX8_worth_67 : decode cX8_worth 67 = .ok (.iload_n 2, 1) := by decide +kernel
theorem dX8_worth_68 : decode cX8_worth 68 = .ok (.iload 5, 2) := by decide +kernel
theorem dX8_worth_70 : decode cX8_worth 70 = .ok (.iconst 0, 1) := by decide +kernel
theorem dX8_worth_71 : decode cX8_worth 71 = .ok (.invokevirtual 137, 3) := by decide +kernel
theorem dX8_worth_74 : decode cX8_worth 74 = .ok (.isub, 1) := by decide +kernel
theorem dX8_worth_75 : decode cX8_worth 75 = .ok (.ireturn, 1) := by decide +kernel
theorem dX8_neverHelps_0 : decode cX8_neverHelps 0 = .ok (.iload_n 1, 1) := by decide +kernel
theorem dX8_neverHelps_1 : decode cX8_neverHelps 1 = .ok (.iload_n 2, 1) := by decide +kernel
theorem dX8_neverHelps_2 : decode cX8_neverHelps 2 = .ok (.invokestatic 75, 3) := by decide +kernel
theorem dX8_neverHelps_5 : decode cX8_neverHelps 5 = .ok (.ifCond .eq 11, 3) := by decide +kernel
theorem dX8_neverHelps_8 : decode cX8_neverHelps 8 = .ok (.iload_n 3, 1) := by decide +kernel
theorem dX8_neverHelps_9 : decode cX8_neverHelps 9 = .ok (.iconst 5, 1) := by decide +kernel
theorem dX8_neverHelps_10 : decode cX8_neverHelps 10 = .ok (.invokestatic 164, 3) := by decide +kernel
theorem dX8_neverHelps_13 : decode cX8_neverHelps 13 = .ok (.ifCond .ne 6, 3) := by decide +kernel
theorem dX8_neverHelps_16 : decode cX8_neverHelps 16 = .ok (.bipush (-2), 2) := by decide +kernel
theorem dX8_neverHelps_18 : decode cX8_neverHelps 18 = .ok (.ireturn, 1) := by decide +kernel
theorem dX8_neverHelps_19 : decode cX8_neverHelps 19 = .ok (.aload_n 0, 1) := by decide +kernel
theorem dX8_neverHelps_20 : decode cX8_neverHelps 20 = .ok (.getfield 51, 3) := by decide +kernel
theorem dX8_neverHelps_23 : decode cX8_neverHelps 23 = .ok (.iload_n 1, 1) := by decide +kernel
theorem dX8_neverHelps_24 : decode cX8_neverHelps 24 = .ok (.iload_n 2, 1) := by decide +kernel
theorem dX8_neverHelps_25 : decode cX8_neverHelps 25 = .ok (.iload_n 3, 1) := by decide +kernel
theorem dX8_neverHelps_26 : decode cX8_neverHelps 26 = .ok (.invokevirtual 190, 3) := by decide +kernel
theorem dX8_neverHelps_29 : decode cX8_neverHelps 29 = .ok (.aload_n 0, 1) := by decide +kernel
theorem dX8_neverHelps_30 : decode cX8_neverHelps 30 = .ok (.getfield 10, 3) := by decide +kernel
theorem dX8_neverHelps_33 : decode cX8_neverHelps 33 = .ok (.invokevirtual 193, 3) := by decide +kernel
theorem dX8_neverHelps_36 : decode cX8_neverHelps 36 = .ok (.aload_n 0, 1) := by decide +kernel
theorem dX8_neverHelps_37 : decode cX8_neverHelps 37 = .ok (.getfield 51, 3) := by decide +kernel
theorem dX8_neverHelps_40 : decode cX8_neverHelps 40 = .ok (.getfield 196, 3) := by decide +kernel
theorem dX8_neverHelps_43 : decode cX8_neverHelps 43 = .ok (.iconst (-1), 1) := by decide +kernel
theorem dX8_neverHelps_44 : decode cX8_neverHelps 44 = .ok (.ixor, 1) := by decide +kernel
theorem dX8_neverHelps_45 : decode cX8_neverHelps 45 = .ok (.iand, 1) := by decide +kernel
theorem dX8_neverHelps_46 : decode cX8_neverHelps 46 = .ok (.ireturn, 1) := by decide +kernel
theorem dX8_expected_0 : decode cX8_expected 0 = .ok (.aload_n 0, 1) := by decide +kernel
theorem dX8_expected_1 : decode cX8_expected 1 = .ok (.iload_n 1, 1) := by decide +kernel
theorem dX8_expected_2 : decode cX8_expected 2 = .ok (.iload_n 2, 1) := by decide +kernel
theorem dX8_expected_3 : decode cX8_expected 3 = .ok (.iload_n 3, 1) := by decide +kernel
theorem dX8_expected_4 : decode cX8_expected 4 = .ok (.iload 4, 2) := by decide +kernel
theorem dX8_expected_6 : decode cX8_expected 6 = .ok (.invokevirtual 199, 3) := by decide +kernel
theorem dX8_expected_9 : decode cX8_expected 9 = .ok (.ifCond .ne 7, 3) := by decide +kernel
theorem dX8_expected_12 : decode cX8_expected 12 = .ok (.ldc2_w 203, 3) := by decide +kernel
theorem dX8_expected_15 : decode cX8_expected 15 = .ok (.lreturn, 1) := by decide +kernel
theorem dX8_expected_16 : decode cX8_expected 16 = .ok (.aload_n 0, 1) := by decide +kernel
theorem dX8_expected_17 : decode cX8_expected 17 = .ok (.iload_n 1, 1) := by decide +kernel
theorem dX8_expected_18 : decode cX8_expected 18 = .ok (.iload_n 2, 1) := by decide +kernel
theorem dX8_expected_19 : decode cX8_expected 19 = .ok (.iload_n 3, 1) := by decide +kernel
theorem dX8_expected_20 : decode cX8_expected 20 = .ok (.iload 4, 2) := by decide +kernel
theorem dX8_expected_22 : decode cX8_expected 22 = .ok (.iconst 0, 1) := by decide +kernel
theorem dX8_expected_23 : decode cX8_expected 23 = .ok (.invokevirtual 205, 3) := by decide +kernel
theorem dX8_expected_26 : decode cX8_expected 26 = .ok (.lreturn, 1) := by decide +kernel
theorem dX8_lost_0 : decode cX8_lost 0 = .ok (.aload_n 0, 1) := by decide +kernel
theorem dX8_lost_1 : decode cX8_lost 1 = .ok (.iload_n 1, 1) := by decide +kernel
theorem dX8_lost_2 : decode cX8_lost 2 = .ok (.iload_n 2, 1) := by decide +kernel
theorem dX8_lost_3 : decode cX8_lost 3 = .ok (.iload_n 3, 1) := by decide +kernel
theorem dX8_lost_4 : decode cX8_lost 4 = .ok (.iload 4, 2) := by decide +kernel
theorem dX8_lost_6 : decode cX8_lost 6 = .ok (.invokevirtual 199, 3) := by decide +kernel
theorem dX8_lost_9 : decode cX8_lost 9 = .ok (.ifCond .ne 7, 3) := by decide +kernel
theorem dX8_lost_12 : decode cX8_lost 12 = .ok (.ldc2_w 203, 3) := by decide +kernel
theorem dX8_lost_15 : decode cX8_lost 15 = .ok (.lreturn, 1) := by decide +kernel
theorem dX8_lost_16 : decode cX8_lost 16 = .ok (.aload_n 0, 1) := by decide +kernel
theorem dX8_lost_17 : decode cX8_lost 17 = .ok (.iload_n 1, 1) := by decide +kernel
theorem dX8_lost_18 : decode cX8_lost 18 = .ok (.iload_n 2, 1) := by decide +kernel
theorem dX8_lost_19 : decode cX8_lost 19 = .ok (.iload_n 3, 1) := by decide +kernel
theorem dX8_lost_20 : decode cX8_lost 20 = .ok (.iload 4, 2) := by decide +kernel
theorem dX8_lost_22 : decode cX8_lost 22 = .ok (.iconst 1, 1) := by decide +kernel
theorem dX8_lost_23 : decode cX8_lost 23 = .ok (.invokevirtual 205, 3) := by decide +kernel
theorem dX8_lost_26 : decode cX8_lost 26 = .ok (.lreturn, 1) := by decide +kernel
theorem dX8_undo_0 : decode cX8_undo 0 = .ok (.aload_n 0, 1) := by decide +kernel
theorem dX8_undo_1 : decode cX8_undo 1 = .ok (.getfield 19, 3) := by decide +kernel
theorem dX8_undo_4 : decode cX8_undo 4 = .ok (.aload_n 0, 1) := by decide +kernel
theorem dX8_undo_5 : decode cX8_undo 5 = .ok (.getfield 10, 3) := by decide +kernel
theorem dX8_undo_8 : decode cX8_undo 8 = .ok (.invokevirtual 209, 3) := by decide +kernel
theorem dX8_undo_11 : decode cX8_undo 11 = .ok (.ifCond .eq 13, 3) := by decide +kernel
theorem dX8_undo_14 : decode cX8_undo 14 = .ok (.aload_n 0, 1) := by decide +kernel
theorem dX8_undo_15 : decode cX8_undo 15 = .ok (.getfield 19, 3) := by decide +kernel
theorem dX8_undo_18 : decode cX8_undo 18 = .ok (.getfield 213, 3) := by decide +kernel
theorem dX8_undo_21 : decode cX8_undo 21 = .ok (.goto 5, 3) := by decide +kernel
theorem dX8_undo_24 : decode cX8_undo 24 = .ok (.bipush (-3), 2) := by decide +kernel
theorem dX8_undo_26 : decode cX8_undo 26 = .ok (.ireturn, 1) := by decide +kernel
theorem dX8_count_0 : decode cX8_count 0 = .ok (.iload_n 1, 1) := by decide +kernel
theorem dX8_count_1 : decode cX8_count 1 = .ok (.tableswitch 116 0 6 #[43, 51, 62, 77, 85, 93, 101], 43) := by decide +kernel
theorem dX8_count_44 : decode cX8_count 44 = .ok (.aload_n 0, 1) := by decide +kernel
theorem dX8_count_45 : decode cX8_count 45 = .ok (.getfield 10, 3) := by decide +kernel
theorem dX8_count_48 : decode cX8_count 48 = .ok (.getfield 82, 3) := by decide +kernel
theorem dX8_count_51 : decode cX8_count 51 = .ok (.ireturn, 1) := by decide +kernel
theorem dX8_count_52 : decode cX8_count 52 = .ok (.aload_n 0, 1) := by decide +kernel
theorem dX8_count_53 : decode cX8_count 53 = .ok (.getfield 10, 3) := by decide +kernel
theorem dX8_count_56 : decode cX8_count 56 = .ok (.getfield 111, 3) := by decide +kernel
theorem dX8_count_59 : decode cX8_count 59 = .ok (.invokestatic 216, 3) := by decide +kernel
theorem dX8_count_62 : decode cX8_count 62 = .ok (.ireturn, 1) := by decide +kernel
theorem dX8_count_63 : decode cX8_count 63 = .ok (.aload_n 0, 1) := by decide +kernel
theorem dX8_count_64 : decode cX8_count 64 = .ok (.getfield 10, 3) := by decide +kernel
theorem dX8_count_67 : decode cX8_count 67 = .ok (.aload_n 0, 1) := by decide +kernel
theorem dX8_count_68 : decode cX8_count 68 = .ok (.getfield 10, 3) := by decide +kernel
theorem dX8_count_71 : decode cX8_count 71 = .ok (.getfield 111, 3) := by decide +kernel
theorem dX8_count_74 : decode cX8_count 74 = .ok (.invokevirtual 131, 3) := by decide +kernel
theorem dX8_count_77 : decode cX8_count 77 = .ok (.ireturn, 1) := by decide +kernel
theorem dX8_count_78 : decode cX8_count 78 = .ok (.aload_n 0, 1) := by decide +kernel
theorem dX8_count_79 : decode cX8_count 79 = .ok (.getfield 19, 3) := by decide +kernel
theorem dX8_count_82 : decode cX8_count 82 = .ok (.getfield 213, 3) := by decide +kernel
theorem dX8_count_85 : decode cX8_count 85 = .ok (.ireturn, 1) := by decide +kernel
theorem dX8_count_86 : decode cX8_count 86 = .ok (.aload_n 0, 1) := by decide +kernel
theorem dX8_count_87 : decode cX8_count 87 = .ok (.getfield 26, 3) := by decide +kernel
theorem dX8_count_90 : decode cX8_count 90 = .ok (.getfield 119, 3) := by decide +kernel
theorem dX8_count_93 : decode cX8_count 93 = .ok (.ireturn, 1) := by decide +kernel
theorem dX8_count_94 : decode cX8_count 94 = .ok (.aload_n 0, 1) := by decide +kernel
theorem dX8_count_95 : decode cX8_count 95 = .ok (.getfield 10, 3) := by decide +kernel
theorem dX8_count_98 : decode cX8_count 98 = .ok (.invokevirtual 221, 3) := by decide +kernel
theorem dX8_count_101 : decode cX8_count 101 = .ok (.ireturn, 1) := by decide +kernel
theorem dX8_count_102 : decode cX8_count 102 = .ok (.aload_n 0, 1) := by decide +kernel
theorem dX8_count_103 : decode cX8_count 103 = .ok (.getfield 35, 3) := by decide +kernel
theorem dX8_count_106 : decode cX8_count 106 = .ok (.aload_n 0, 1) := by decide +kernel
theorem dX8_count_107 : decode cX8_count 107 = .ok (.getfield 10, 3) := by decide +kernel
theorem dX8_count_110 : decode cX8_count 110 = .ok (.getfield 111, 3) := by decide +kernel
theorem dX8_count_113 : decode cX8_count 113 = .ok (.invokevirtual 224, 3) := by decide +kernel
theorem dX8_count_116 : decode cX8_count 116 = .ok (.ireturn, 1) := by decide +kernel
theorem dX8_count_117 : decode cX8_count 117 = .ok (.bipush (-2), 2) := by decide +kernel
theorem dX8_count_119 : decode cX8_count 119 = .ok (.ireturn, 1) := by decide +kernel
theorem dX8_digest_0 : decode cX8_digest 0 = .ok (.ldc2_w 227, 3) := by decide +kernel
theorem dX8_digest_3 : decode cX8_digest 3 = .ok (.lstore_n 1, 1) := by decide +kernel
theorem dX8_digest_4 : decode cX8_digest 4 = .ok (.iconst 0, 1) := by decide +kernel
theorem dX8_digest_5 : decode cX8_digest 5 = .ok (.istore_n 3, 1) := by decide +kernel
theorem dX8_digest_6 : decode cX8_digest 6 = .ok (.iload_n 3, 1) := by decide +kernel
theorem dX8_digest_7 : decode cX8_digest 7 = .ok (.bipush 7, 2) := by decide +kernel
theorem dX8_digest_9 : decode cX8_digest 9 = .ok (.if_icmp .ge 22, 3) := by decide +kernel
theorem dX8_digest_12 : decode cX8_digest 12 = .ok (.ldc2_w 229, 3) := by decide +kernel
theorem dX8_digest_15 : decode cX8_digest 15 = .ok (.lload_n 1, 1) := by decide +kernel
theorem dX8_digest_16 : decode cX8_digest 16 = .ok (.lmul, 1) := by decide +kernel
theorem dX8_digest_17 : decode cX8_digest 17 = .ok (.aload_n 0, 1) := by decide +kernel
theorem dX8_digest_18 : decode cX8_digest 18 = .ok (.iload_n 3, 1) := by decide +kernel
theorem dX8_digest_19 : decode cX8_digest 19 = .ok (.invokevirtual 231, 3) := by decide +kernel
theorem dX8_digest_22 : decode cX8_digest 22 = .ok (.i2l, 1) := by decide +kernel
theorem dX8_digest_23 : decode cX8_digest 23 = .ok (.ladd, 1) := by decide +kernel
theorem dX8_digest_24 : decode cX8_digest 24 = .ok (.lstore_n 1, 1) := by decide +kernel
theorem dX8_digest_25 : decode cX8_digest 25 = .ok (.iinc 3 1, 3) := by decide +kernel
theorem dX8_digest_28 : decode cX8_digest 28 = .ok (.goto (-22), 3) := by decide +kernel
theorem dX8_digest_31 : decode cX8_digest 31 = .ok (.iconst 0, 1) := by decide +kernel
theorem dX8_digest_32 : decode cX8_digest 32 = .ok (.istore_n 3, 1) := by decide +kernel
theorem dX8_digest_33 : decode cX8_digest 33 = .ok (.iload_n 3, 1) := by decide +kernel
theorem dX8_digest_34 : decode cX8_digest 34 = .ok (.aload_n 0, 1) := by decide +kernel
theorem dX8_digest_35 : decode cX8_digest 35 = .ok (.getfield 10, 3) := by decide +kernel
theorem dX8_digest_38 : decode cX8_digest 38 = .ok (.getfield 82, 3) := by decide +kernel
theorem dX8_digest_41 : decode cX8_digest 41 = .ok (.if_icmp .ge 39, 3) := by decide +kernel
theorem dX8_digest_44 : decode cX8_digest 44 = .ok (.iconst 0, 1) := by decide +kernel
theorem dX8_digest_45 : decode cX8_digest 45 = .ok (.istore 4, 2) := by decide +kernel
theorem dX8_digest_47 : decode cX8_digest 47 = .ok (.iload 4, 2) := by decide +kernel
theorem dX8_digest_49 : decode cX8_digest 49 = .ok (.iconst 5, 1) := by decide +kernel
theorem dX8_digest_50 : decode cX8_digest 50 = .ok (.if_icmp .gt 24, 3) := by decide +kernel
theorem dX8_digest_53 : decode cX8_digest 53 = .ok (.ldc2_w 229, 3) := by decide +kernel
theorem dX8_digest_56 : decode cX8_digest 56 = .ok (.lload_n 1, 1) := by decide +kernel
theorem dX8_digest_57 : decode cX8_digest 57 = .ok (.lmul, 1) := by decide +kernel
theorem dX8_digest_58 : decode cX8_digest 58 = .ok (.aload_n 0, 1) := by decide +kernel
theorem dX8_digest_59 : decode cX8_digest 59 = .ok (.iload_n 3, 1) := by decide +kernel
theorem dX8_digest_60 : decode cX8_digest 60 = .ok (.iload 4, 2) := by decide +kernel
theorem dX8_digest_62 : decode cX8_digest 62 = .ok (.invokevirtual 234, 3) := by decide +kernel
theorem dX8_digest_65 : decode cX8_digest 65 = .ok (.i2l, 1) := by decide +kernel
theorem dX8_digest_66 : decode cX8_digest 66 = .ok (.ladd, 1) := by decide +kernel
theorem dX8_digest_67 : decode cX8_digest 67 = .ok (.lstore_n 1, 1) := by decide +kernel
theorem dX8_digest_68 : decode cX8_digest 68 = .ok (.iinc 4 1, 3) := by decide +kernel
theorem dX8_digest_71 : decode cX8_digest 71 = .ok (.goto (-24), 3) := by decide +kernel
theorem dX8_digest_74 : decode cX8_digest 74 = .ok (.iinc 3 1, 3) := by decide +kernel
theorem dX8_digest_77 : decode cX8_digest 77 = .ok (.goto (-44), 3) := by decide +kernel
theorem dX8_digest_80 : decode cX8_digest 80 = .ok (.iconst 0, 1) := by decide +kernel
theorem dX8_digest_81 : decode cX8_digest 81 = .ok (.istore_n 3, 1) := by decide +kernel
theorem dX8_digest_82 : decode cX8_digest 82 = .ok (.iload_n 3, 1) := by decide +kernel
theorem dX8_digest_83 : decode cX8_digest 83 = .ok (.bipush 8, 2) := by decide +kernel
theorem dX8_digest_85 : decode cX8_digest 85 = .ok (.if_icmp .ge 58, 3) := by decide +kernel
theorem dX8_digest_88 : decode cX8_digest 88 = .ok (.aload_n 0, 1) := by decide +kernel
theorem dX8_digest_89 : decode cX8_digest 89 = .ok (.getfield 35, 3) := by decide +kernel
theorem dX8_digest_92 : decode cX8_digest 92 = .ok (.iload_n 3, 1) := by decide +kernel
theorem dX8_digest_93 : decode cX8_digest 93 = .ok (.aload_n 0, 1) := by decide +kernel
theorem dX8_digest_94 : decode cX8_digest 94 = .ok (.getfield 10, 3) := by decide +kernel
theorem dX8_digest_97 : decode cX8_digest 97 = .ok (.getfield 111, 3) := by decide +kernel
theorem dX8_digest_100 : decode cX8_digest 100 = .ok (.iconst 0, 1) := by decide +kernel
theorem dX8_digest_101 : decode cX8_digest 101 = .ok (.invokevirtual 237, 3) := by decide +kernel
theorem dX8_digest_104 : decode cX8_digest 104 = .ok (.iconst 0, 1) := by decide +kernel
theorem dX8_digest_105 : decode cX8_digest 105 = .ok (.istore 4, 2) := by decide +kernel
theorem dX8_digest_107 : decode cX8_digest 107 = .ok (.iload 4, 2) := by decide +kernel
theorem dX8_digest_109 : decode cX8_digest 109 = .ok (.bipush 8, 2) := by decide +kernel
theorem dX8_digest_111 : decode cX8_digest 111 = .ok (.if_icmp .ge 26, 3) := by decide +kernel
theorem dX8_digest_114 : decode cX8_digest 114 = .ok (.ldc2_w 229, 3) := by decide +kernel
theorem dX8_digest_117 : decode cX8_digest 117 = .ok (.lload_n 1, 1) := by decide +kernel
theorem dX8_digest_118 : decode cX8_digest 118 = .ok (.lmul, 1) := by decide +kernel
theorem dX8_digest_119 : decode cX8_digest 119 = .ok (.aload_n 0, 1) := by decide +kernel
theorem dX8_digest_120 : decode cX8_digest 120 = .ok (.getfield 35, 3) := by decide +kernel
theorem dX8_digest_123 : decode cX8_digest 123 = .ok (.iload 4, 2) := by decide +kernel
theorem dX8_digest_125 : decode cX8_digest 125 = .ok (.invokevirtual 240, 3) := by decide +kernel
theorem dX8_digest_128 : decode cX8_digest 128 = .ok (.i2l, 1) := by decide +kernel
theorem dX8_digest_129 : decode cX8_digest 129 = .ok (.ladd, 1) := by decide +kernel
theorem dX8_digest_130 : decode cX8_digest 130 = .ok (.lstore_n 1, 1) := by decide +kernel
theorem dX8_digest_131 : decode cX8_digest 131 = .ok (.iinc 4 1, 3) := by decide +kernel
theorem dX8_digest_134 : decode cX8_digest 134 = .ok (.goto (-27), 3) := by decide +kernel
theorem dX8_digest_137 : decode cX8_digest 137 = .ok (.iinc 3 1, 3) := by decide +kernel
theorem dX8_digest_140 : decode cX8_digest 140 = .ok (.goto (-58), 3) := by decide +kernel
theorem dX8_digest_143 : decode cX8_digest 143 = .ok (.ldc2_w 229, 3) := by decide +kernel
theorem dX8_digest_146 : decode cX8_digest 146 = .ok (.lload_n 1, 1) := by decide +kernel
theorem dX8_digest_147 : decode cX8_digest 147 = .ok (.lmul, 1) := by decide +kernel
theorem dX8_digest_148 : decode cX8_digest 148 = .ok (.aload_n 0, 1) := by decide +kernel
theorem dX8_digest_149 : decode cX8_digest 149 = .ok (.getfield 71, 3) := by decide +kernel
theorem dX8_digest_152 : decode cX8_digest 152 = .ok (.i2l, 1) := by decide +kernel
theorem dX8_digest_153 : decode cX8_digest 153 = .ok (.ladd, 1) := by decide +kernel
theorem dX8_digest_154 : decode cX8_digest 154 = .ok (.lstore_n 1, 1) := by decide +kernel
theorem dX8_digest_155 : decode cX8_digest 155 = .ok (.iconst 0, 1) := by decide +kernel
theorem dX8_digest_156 : decode cX8_digest 156 = .ok (.istore_n 3, 1) := by decide +kernel
theorem dX8_digest_157 : decode cX8_digest 157 = .ok (.iload_n 3, 1) := by decide +kernel
theorem dX8_digest_158 : decode cX8_digest 158 = .ok (.aload_n 0, 1) := by decide +kernel
theorem dX8_digest_159 : decode cX8_digest 159 = .ok (.getfield 26, 3) := by decide +kernel
theorem dX8_digest_162 : decode cX8_digest 162 = .ok (.getfield 119, 3) := by decide +kernel
theorem dX8_digest_165 : decode cX8_digest 165 = .ok (.if_icmp .ge 25, 3) := by decide +kernel
theorem dX8_digest_168 : decode cX8_digest 168 = .ok (.ldc2_w 229, 3) := by decide +kernel
theorem dX8_digest_171 : decode cX8_digest 171 = .ok (.lload_n 1, 1) := by decide +kernel
theorem dX8_digest_172 : decode cX8_digest 172 = .ok (.lmul, 1) := by decide +kernel
theorem dX8_digest_173 : decode cX8_digest 173 = .ok (.aload_n 0, 1) := by decide +kernel
theorem dX8_digest_174 : decode cX8_digest 174 = .ok (.getfield 26, 3) := by decide +kernel
theorem dX8_digest_177 : decode cX8_digest 177 = .ok (.iload_n 3, 1) := by decide +kernel
theorem dX8_digest_178 : decode cX8_digest 178 = .ok (.invokevirtual 243, 3) := by decide +kernel
theorem dX8_digest_181 : decode cX8_digest 181 = .ok (.i2l, 1) := by decide +kernel
theorem dX8_digest_182 : decode cX8_digest 182 = .ok (.ladd, 1) := by decide +kernel
theorem dX8_digest_183 : decode cX8_digest 183 = .ok (.lstore_n 1, 1) := by decide +kernel
theorem dX8_digest_184 : decode cX8_digest 184 = .ok (.iinc 3 1, 3) := by decide +kernel
theorem dX8_digest_187 : decode cX8_digest 187 = .ok (.goto (-30), 3) := by decide +kernel
theorem dX8_digest_190 : decode cX8_digest 190 = .ok (.lload_n 1, 1) := by decide +kernel
theorem dX8_digest_191 : decode cX8_digest 191 = .ok (.lreturn, 1) := by decide +kernel
theorem dX8_areNodes_0 : decode cX8_areNodes 0 = .ok (.iload_n 0, 1) := by decide +kernel
theorem dX8_areNodes_1 : decode cX8_areNodes 1 = .ok (.bipush 7, 2) := by decide +kernel
theorem dX8_areNodes_3 : decode cX8_areNodes 3 = .ok (.invokestatic 164, 3) := by decide +kernel
theorem dX8_areNodes_6 : decode cX8_areNodes 6 = .ok (.ifCond .eq 16, 3) := by decide +kernel
theorem dX8_areNodes_9 : decode cX8_areNodes 9 = .ok (.iload_n 1, 1) := by decide +kernel
theorem dX8_areNodes_10 : decode cX8_areNodes 10 = .ok (.bipush 7, 2) := by decide +kernel
theorem dX8_areNodes_12 : decode cX8_areNodes 12 = .ok (.invokestatic 164, 3) := by decide +kernel
theorem dX8_areNodes_15 : decode cX8_areNodes 15 = .ok (.ifCond .eq 7, 3) := by decide +kernel
theorem dX8_areNodes_18 : decode cX8_areNodes 18 = .ok (.iconst 1, 1) := by decide +kernel
theorem dX8_areNodes_19 : decode cX8_areNodes 19 = .ok (.goto 4, 3) := by decide +kernel
theorem dX8_areNodes_22 : decode cX8_areNodes 22 = .ok (.iconst 0, 1) := by decide +kernel
theorem dX8_areNodes_23 : decode cX8_areNodes 23 = .ok (.ireturn, 1) := by decide +kernel
theorem dX8_isWithin_0 : decode cX8_isWithin 0 = .ok (.iload_n 0, 1) := by decide +kernel
theorem dX8_isWithin_1 : decode cX8_isWithin 1 = .ok (.ifCond .lt 12, 3) := by decide +kernel
theorem dX8_isWithin_4 : decode cX8_isWithin 4 = .ok (.iload_n 0, 1) := by decide +kernel
theorem dX8_isWithin_5 : decode cX8_isWithin 5 = .ok (.iload_n 1, 1) := by decide +kernel
theorem dX8_isWithin_6 : decode cX8_isWithin 6 = .ok (.if_icmp .gt 7, 3) := by decide +kernel
theorem dX8_isWithin_9 : decode cX8_isWithin 9 = .ok (.iconst 1, 1) := by decide +kernel
theorem dX8_isWithin_10 : decode cX8_isWithin 10 = .ok (.goto 4, 3) := by decide +kernel
theorem dX8_isWithin_13 : decode cX8_isWithin 13 = .ok (.iconst 0, 1) := by decide +kernel
theorem dX8_isWithin_14 : decode cX8_isWithin 14 = .ok (.ireturn, 1) := by decide +kernel
theorem dX8_isChance_0 : decode cX8_isChance 0 = .ok (.iload_n 1, 1) := by decide +kernel
theorem dX8_isChance_1 : decode cX8_isChance 1 = .ok (.iload_n 2, 1) := by decide +kernel
theorem dX8_isChance_2 : decode cX8_isChance 2 = .ok (.invokestatic 75, 3) := by decide +kernel
theorem dX8_isChance_5 : decode cX8_isChance 5 = .ok (.ifCond .eq 37, 3) := by decide +kernel
theorem dX8_isChance_8 : decode cX8_isChance 8 = .ok (.aload_n 0, 1) := by decide +kernel
theorem dX8_isChance_9 : decode cX8_isChance 9 = .ok (.getfield 10, 3) := by decide +kernel
theorem dX8_isChance_12 : decode cX8_isChance 12 = .ok (.iload_n 3, 1) := by decide +kernel
theorem dX8_isChance_13 : decode cX8_isChance 13 = .ok (.invokevirtual 134, 3) := by decide +kernel
theorem dX8_isChance_16 : decode cX8_isChance 16 = .ok (.ifCond .eq 26, 3) := by decide +kernel
theorem dX8_isChance_19 : decode cX8_isChance 19 = .ok (.iload_n 3, 1) := by decide +kernel
theorem dX8_isChance_20 : decode cX8_isChance 20 = .ok (.invokestatic 216, 3) := by decide +kernel
theorem dX8_isChance_23 : decode cX8_isChance 23 = .ok (.bipush 6, 2) := by decide +kernel
theorem dX8_isChance_25 : decode cX8_isChance 25 = .ok (.if_icmp .gt 17, 3) := by decide +kernel
theorem dX8_isChance_28 : decode cX8_isChance 28 = .ok (.iload 4, 2) := by decide +kernel
theorem dX8_isChance_30 : decode cX8_isChance 30 = .ok (.bipush 12, 2) := by decide +kernel
theorem dX8_isChance_32 : decode cX8_isChance 32 = .ok (.invokestatic 164, 3) := by decide +kernel
theorem dX8_isChance_35 : decode cX8_isChance 35 = .ok (.ifCond .eq 7, 3) := by decide +kernel
theorem dX8_isChance_38 : decode cX8_isChance 38 = .ok (.iconst 1, 1) := by decide +kernel
theorem dX8_isChance_39 : decode cX8_isChance 39 = .ok (.goto 4, 3) := by decide +kernel
theorem dX8_isChance_42 : decode cX8_isChance 42 = .ok (.iconst 0, 1) := by decide +kernel
theorem dX8_isChance_43 : decode cX8_isChance 43 = .ok (.ireturn, 1) := by decide +kernel
theorem dX8_sumOfSubsets_0 : decode cX8_sumOfSubsets 0 = .ok (.iload_n 3, 1) := by decide +kernel
theorem dX8_sumOfSubsets_1 : decode cX8_sumOfSubsets 1 = .ok (.invokestatic 216, 3) := by decide +kernel
theorem dX8_sumOfSubsets_4 : decode cX8_sumOfSubsets 4 = .ok (.istore 6, 2) := by decide +kernel
theorem dX8_sumOfSubsets_6 : decode cX8_sumOfSubsets 6 = .ok (.lconst 0, 1) := by decide +kernel
theorem dX8_sumOfSubsets_7 : decode cX8_sumOfSubsets 7 = .ok (.lstore 7, 2) := by decide +kernel
theorem dX8_sumOfSubsets_9 : decode cX8_sumOfSubsets 9 = .ok (.iload_n 3, 1) := by decide +kernel
theorem dX8_sumOfSubsets_10 : decode cX8_sumOfSubsets 10 = .ok (.istore 9, 2) := by decide +kernel
theorem dX8_sumOfSubsets_12 : decode cX8_sumOfSubsets 12 = .ok (.iconst 0, 1) := by decide +kernel
theorem dX8_sumOfSubsets_13 : decode cX8_sumOfSubsets 13 = .ok (.istore 10, 2) := by decide +kernel
theorem dX8_sumOfSubsets_15 : decode cX8_sumOfSubsets 15 = .ok (.iload 10, 2) := by decide +kernel
theorem dX8_sumOfSubsets_17 : decode cX8_sumOfSubsets 17 = .ok (.iconst 1, 1) := by decide +kernel
theorem dX8_sumOfSubsets_18 : decode cX8_sumOfSubsets 18 = .ok (.iload 6, 2) := by decide +kernel
theorem dX8_sumOfSubsets_20 : decode cX8_sumOfSubsets 20 = .ok (.ishl, 1) := by decide +kernel
theorem dX8_sumOfSubsets_21 : decode cX8_sumOfSubsets 21 = .ok (.if_icmp .ge 102, 3) := by decide +kernel
theorem dX8_sumOfSubsets_24 : decode cX8_sumOfSubsets 24 = .ok (.aload_n 0, 1) := by decide +kernel
theorem dX8_sumOfSubsets_25 : decode cX8_sumOfSubsets 25 = .ok (.getfield 35, 3) := by decide +kernel
theorem dX8_sumOfSubsets_28 : decode cX8_sumOfSubsets 28 = .ok (.iload_n 1, 1) := by decide +kernel
theorem dX8_sumOfSubsets_29 : decode cX8_sumOfSubsets 29 = .ok (.iload_n 2, 1) := by decide +kernel
theorem dX8_sumOfSubsets_30 : decode cX8_sumOfSubsets 30 = .ok (.iload 9, 2) := by decide +kernel
theorem dX8_sumOfSubsets_32 : decode cX8_sumOfSubsets 32 = .ok (.iconst 0, 1) := by decide +kernel
theorem dX8_sumOfSubsets_33 : decode cX8_sumOfSubsets 33 = .ok (.invokevirtual 137, 3) := by decide +kernel
theorem dX8_sumOfSubsets_36 : decode cX8_sumOfSubsets 36 = .ok (.istore 11, 2) := by decide +kernel
theorem dX8_sumOfSubsets_38 : decode cX8_sumOfSubsets 38 = .ok (.iload 5, 2) := by decide +kernel
theorem dX8_sumOfSubsets_40 : decode cX8_sumOfSubsets 40 = .ok (.iload 11, 2) := by decide +kernel
theorem dX8_sumOfSubsets_42 : decode cX8_sumOfSubsets 42 = .ok (.sipush 9999, 3) := by decide +kernel
theorem dX8_sumOfSubsets_45 : decode cX8_sumOfSubsets 45 = .ok (.if_icmp .ne 7, 3) := by decide +kernel
theorem dX8_sumOfSubsets_48 : decode cX8_sumOfSubsets 48 = .ok (.iconst 1, 1) := by decide +kernel
theorem dX8_sumOfSubsets_49 : decode cX8_sumOfSubsets 49 = .ok (.goto 4, 3) := by decide +kernel
theorem dX8_sumOfSubsets_52 : decode cX8_sumOfSubsets 52 = .ok (.iconst 0, 1) := by decide +kernel
theorem dX8_sumOfSubsets_53 : decode cX8_sumOfSubsets 53 = .ok (.if_icmp .ne 56, 3) := by decide +kernel
theorem dX8_sumOfSubsets_56 : decode cX8_sumOfSubsets 56 = .ok (.iload 9, 2) := by decide +kernel
theorem dX8_sumOfSubsets_58 : decode cX8_sumOfSubsets 58 = .ok (.invokestatic 216, 3) := by decide +kernel
theorem dX8_sumOfSubsets_61 : decode cX8_sumOfSubsets 61 = .ok (.istore 12, 2) := by decide +kernel
theorem dX8_sumOfSubsets_63 : decode cX8_sumOfSubsets 63 = .ok (.iload 4, 2) := by decide +kernel
theorem dX8_sumOfSubsets_65 : decode cX8_sumOfSubsets 65 = .ok (.i2l, 1) := by decide +kernel
theorem dX8_sumOfSubsets_66 : decode cX8_sumOfSubsets 66 = .ok (.iload 12, 2) := by decide +kernel
theorem dX8_sumOfSubsets_68 : decode cX8_sumOfSubsets 68 = .ok (.invokestatic 246, 3) := by decide +kernel
theorem dX8_sumOfSubsets_71 : decode cX8_sumOfSubsets 71 = .ok (.bipush 12, 2) := by decide +kernel
theorem dX8_sumOfSubsets_73 : decode cX8_sumOfSubsets 73 = .ok (.iload 4, 2) := by decide +kernel
theorem dX8_sumOfSubsets_75 : decode cX8_sumOfSubsets 75 = .ok (.isub, 1) := by decide +kernel
theorem dX8_sumOfSubsets_76 : decode cX8_sumOfSubsets 76 = .ok (.i2l, 1) := by decide +kernel
theorem dX8_sumOfSubsets_77 : decode cX8_sumOfSubsets 77 = .ok (.iload 6, 2) := by decide +kernel
theorem dX8_sumOfSubsets_79 : decode cX8_sumOfSubsets 79 = .ok (.iload 12, 2) := by decide +kernel
theorem dX8_sumOfSubsets_81 : decode cX8_sumOfSubsets 81 = .ok (.isub, 1) := by decide +kernel
theorem dX8_sumOfSubsets_82 : decode cX8_sumOfSubsets 82 = .ok (.invokestatic 246, 3) := by decide +kernel
theorem dX8_sumOfSubsets_85 : decode cX8_sumOfSubsets 85 = .ok (.lmul, 1) := by decide +kernel
theorem dX8_sumOfSubsets_86 : decode cX8_sumOfSubsets 86 = .ok (.lstore 13, 2) := by decide +kernel
theorem dX8_sumOfSubsets_88 : decode cX8_sumOfSubsets 88 = .ok (.lload 7, 2) := by decide +kernel
theorem dX8_sumOfSubsets_90 : decode cX8_sumOfSubsets 90 = .ok (.iload 5, 2) := by decide +kernel
theorem dX8_sumOfSubsets_92 : decode cX8_sumOfSubsets 92 = .ok (.ifCond .eq 8, 3) := by decide +kernel
theorem dX8_sumOfSubsets_95 : decode cX8_sumOfSubsets 95 = .ok (.lload 13, 2) := by decide +kernel
theorem dX8_sumOfSubsets_97 : decode cX8_sumOfSubsets 97 = .ok (.goto 9, 3) := by decide +kernel
theorem dX8_sumOfSubsets_100 : decode cX8_sumOfSubsets 100 = .ok (.lload 13, 2) := by decide +kernel
theorem dX8_sumOfSubsets_102 : decode cX8_sumOfSubsets 102 = .ok (.iload 11, 2) := by decide +kernel
theorem dX8_sumOfSubsets_104 : decode cX8_sumOfSubsets 104 = .ok (.i2l, 1) := by decide +kernel
theorem dX8_sumOfSubsets_105 : decode cX8_sumOfSubsets 105 = .ok (.lmul, 1) := by decide +kernel
theorem dX8_sumOfSubsets_106 : decode cX8_sumOfSubsets 106 = .ok (.ladd, 1) := by decide +kernel
theorem dX8_sumOfSubsets_107 : decode cX8_sumOfSubsets 107 = .ok (.lstore 7, 2) := by decide +kernel
theorem dX8_sumOfSubsets_109 : decode cX8_sumOfSubsets 109 = .ok (.iload 9, 2) := by decide +kernel
theorem dX8_sumOfSubsets_111 : decode cX8_sumOfSubsets 111 = .ok (.iconst 1, 1) := by decide +kernel
theorem dX8_sumOfSubsets_112 : decode cX8_sumOfSubsets 112 = .ok (.isub, 1) := by decide +kernel
theorem dX8_sumOfSubsets_113 : decode cX8_sumOfSubsets 113 = .ok (.iload_n 3, 1) := by decide +kernel
theorem dX8_sumOfSubsets_114 : decode cX8_sumOfSubsets 114 = .ok (.iand, 1) := by decide +kernel
theorem dX8_sumOfSubsets_115 : decode cX8_sumOfSubsets 115 = .ok (.istore 9, 2) := by decide +kernel
theorem dX8_sumOfSubsets_117 : decode cX8_sumOfSubsets 117 = .ok (.iinc 10 1, 3) := by decide +kernel
theorem dX8_sumOfSubsets_120 : decode cX8_sumOfSubsets 120 = .ok (.goto (-105), 3) := by decide +kernel
theorem dX8_sumOfSubsets_123 : decode cX8_sumOfSubsets 123 = .ok (.lload 7, 2) := by decide +kernel
theorem dX8_sumOfSubsets_125 : decode cX8_sumOfSubsets 125 = .ok (.lreturn, 1) := by decide +kernel
theorem dX8_power_0 : decode cX8_power 0 = .ok (.lconst 1, 1) := by decide +kernel
theorem dX8_power_1 : decode cX8_power 1 = .ok (.lstore_n 3, 1) := by decide +kernel
theorem dX8_power_2 : decode cX8_power 2 = .ok (.iconst 0, 1) := by decide +kernel
theorem dX8_power_3 : decode cX8_power 3 = .ok (.istore 5, 2) := by decide +kernel
theorem dX8_power_5 : decode cX8_power 5 = .ok (.iload 5, 2) := by decide +kernel
theorem dX8_power_7 : decode cX8_power 7 = .ok (.iload_n 2, 1) := by decide +kernel
theorem dX8_power_8 : decode cX8_power 8 = .ok (.if_icmp .ge 13, 3) := by decide +kernel
theorem dX8_power_11 : decode cX8_power 11 = .ok (.lload_n 3, 1) := by decide +kernel
theorem dX8_power_12 : decode cX8_power 12 = .ok (.lload_n 0, 1) := by decide +kernel
theorem dX8_power_13 : decode cX8_power 13 = .ok (.lmul, 1) := by decide +kernel
theorem dX8_power_14 : decode cX8_power 14 = .ok (.lstore_n 3, 1) := by decide +kernel
theorem dX8_power_15 : decode cX8_power 15 = .ok (.iinc 5 1, 3) := by decide +kernel
theorem dX8_power_18 : decode cX8_power 18 = .ok (.goto (-13), 3) := by decide +kernel
theorem dX8_power_21 : decode cX8_power 21 = .ok (.lload_n 3, 1) := by decide +kernel
theorem dX8_power_22 : decode cX8_power 22 = .ok (.lreturn, 1) := by decide +kernel
theorem dX9_init_0 : decode cX9_init 0 = .ok (.aload_n 0, 1) := by decide +kernel
theorem dX9_init_1 : decode cX9_init 1 = .ok (.invokespecial 1, 3) := by decide +kernel
theorem dX9_init_4 : decode cX9_init 4 = .ok (.aload_n 0, 1) := by decide +kernel
theorem dX9_init_5 : decode cX9_init 5 = .ok (.bipush 82, 2) := by decide +kernel
theorem dX9_init_7 : decode cX9_init 7 = .ok (.newarray .int, 2) := by decide +kernel
theorem dX9_init_9 : decode cX9_init 9 = .ok (.putfield 7, 3) := by decide +kernel
theorem dX9_init_12 : decode cX9_init 12 = .ok (.aload_n 0, 1) := by decide +kernel
theorem dX9_init_13 : decode cX9_init 13 = .ok (.sipush 984, 3) := by decide +kernel
theorem dX9_init_16 : decode cX9_init 16 = .ok (.newarray .int, 2) := by decide +kernel
theorem dX9_init_18 : decode cX9_init 18 = .ok (.putfield 13, 3) := by decide +kernel
theorem dX9_init_21 : decode cX9_init 21 = .ok (.aload_n 0, 1) := by decide +kernel
theorem dX9_init_22 : decode cX9_init 22 = .ok (.iconst (-1), 1) := by decide +kernel
theorem dX9_init_23 : decode cX9_init 23 = .ok (.putfield 16, 3) := by decide +kernel
theorem dX9_init_26 : decode cX9_init 26 = .ok (.aload_n 0, 1) := by decide +kernel
theorem dX9_init_27 : decode cX9_init 27 = .ok (.bipush 110, 2) := by decide +kernel
theorem dX9_init_29 : decode cX9_init 29 = .ok (.newarray .int, 2) := by decide +kernel
theorem dX9_init_31 : decode cX9_init 31 = .ok (.putfield 20, 3) := by decide +kernel
theorem dX9_init_34 : decode cX9_init 34 = .ok (.aload_n 0, 1) := by decide +kernel
theorem dX9_init_35 : decode cX9_init 35 = .ok (.bipush 80, 2) := by decide +kernel
theorem dX9_init_37 : decode cX9_init 37 = .ok (.newarray .int, 2) := by decide +kernel
theorem dX9_init_39 : decode cX9_init 39 = .ok (.putfield 23, 3) := by decide +kernel
theorem dX9_init_42 : decode cX9_init 42 = .ok (.aload_n 0, 1) := by decide +kernel
theorem dX9_init_43 : decode cX9_init 43 = .ok (.bipush 32, 2) := by decide +kernel
theorem dX9_init_45 : decode cX9_init 45 = .ok (.newarray .int, 2) := by decide +kernel
theorem dX9_init_47 : decode cX9_init 47 = .ok (.putfield 26, 3) := by decide +kernel
theorem dX9_init_50 : decode cX9_init 50 = .ok (.aload_n 0, 1) := by decide +kernel
theorem dX9_init_51 : decode cX9_init 51 = .ok (.bipush 8, 2) := by decide +kernel
theorem dX9_init_53 : decode cX9_init 53 = .ok (.newarray .int, 2) := by decide +kernel
theorem dX9_init_55 : decode cX9_init 55 = .ok (.putfield 29, 3) := by decide +kernel
theorem dX9_init_58 : decode cX9_init 58 = .ok (.aload_n 0, 1) := by decide +kernel
theorem dX9_init_59 : decode cX9_init 59 = .ok (.bipush 100, 2) := by decide +kernel
theorem dX9_init_61 : decode cX9_init 61 = .ok (.newarray .int, 2) := by decide +kernel
theorem dX9_init_63 : decode cX9_init 63 = .ok (.putfield 32, 3) := by decide +kernel
theorem dX9_init_66 : decode cX9_init 66 = .ok (.aload_n 0, 1) := by decide +kernel
theorem dX9_init_67 : decode cX9_init 67 = .ok (.bipush 8, 2) := by decide +kernel
theorem dX9_init_69 : decode cX9_init 69 = .ok (.newarray .int, 2) := by decide +kernel
theorem dX9_init_71 : decode cX9_init 71 = .ok (.putfield 35, 3) := by decide +kernel
theorem dX9_init_74 : decode cX9_init 74 = .ok (.return_, 1) := by decide +kernel
theorem dX9_in_0 : decode cX9_in 0 = .ok (.iload_n 0, 1) := by decide +kernel
theorem dX9_in_1 : decode cX9_in 1 = .ok (.iload_n 1, 1) := by decide +kernel
theorem dX9_in_2 : decode cX9_in 2 = .ok (.if_icmp .lt 12, 3) := by decide +kernel
theorem dX9_in_5 : decode cX9_in 5 = .ok (.iload_n 0, 1) := by decide +kernel
theorem dX9_in_6 : decode cX9_in 6 = .ok (.iload_n 2, 1) := by decide +kernel
theorem dX9_in_7 : decode cX9_in 7 = .ok (.if_icmp .gt 7, 3) := by decide +kernel
theorem dX9_in_10 : decode cX9_in 10 = .ok (.iconst 1, 1) := by decide +kernel
theorem dX9_in_11 : decode cX9_in 11 = .ok (.goto 4, 3) := by decide +kernel
theorem dX9_in_14 : decode cX9_in 14 = .ok (.iconst 0, 1) := by decide +kernel
theorem dX9_in_15 : decode cX9_in 15 = .ok (.ireturn, 1) := by decide +kernel
theorem dX9_areNodes_0 : decode cX9_areNodes 0 = .ok (.iload_n 0, 1) := by decide +kernel
theorem dX9_areNodes_1 : decode cX9_areNodes 1 = .ok (.iconst 0, 1) := by decide +kernel
theorem dX9_areNodes_2 : decode cX9_areNodes 2 = .ok (.bipush 7, 2) := by decide +kernel
theorem dX9_areNodes_4 : decode cX9_areNodes 4 = .ok (.invokestatic 38, 3) := by decide +kernel
theorem dX9_areNodes_7 : decode cX9_areNodes 7 = .ok (.ifCond .eq 17, 3) := by decide +kernel
theorem dX9_areNodes_10 : decode cX9_areNodes 10 = .ok (.iload_n 1, 1) := by decide +kernel
theorem dX9_areNodes_11 : decode cX9_areNodes 11 = .ok (.iconst 0, 1) := by decide +kernel
theorem dX9_areNodes_12 : decode cX9_areNodes 12 = .ok (.bipush 7, 2) := by decide +kernel
theorem dX9_areNodes_14 : decode cX9_areNodes 14 = .ok (.invokestatic 38, 3) := by decide +kernel
theorem dX9_areNodes_17 : decode cX9_areNodes 17 = .ok (.ifCond .eq 7, 3) := by decide +kernel
theorem dX9_areNodes_20 : decode cX9_areNodes 20 = .ok (.iconst 1, 1) := by decide +kernel
theorem dX9_areNodes_21 : decode cX9_areNodes 21 = .ok (.goto 4, 3) := by decide +kernel
theorem dX9_areNodes_24 : decode cX9_areNodes 24 = .ok (.iconst 0, 1) := by decide +kernel
theorem dX9_areNodes_25 : decode cX9_areNodes 25 = .ok (.ireturn, 1) := by decide +kernel
theorem dX9_of_0 : decode cX9_of 0 = .ok (.aload_n 0, 1) := by decide +kernel
theorem dX9_of_1 : decode cX9_of 1 = .ok (.getfield 7, 3) := by decide +kernel
theorem dX9_of_4 : decode cX9_of 4 = .ok (.iconst 5, 1) := by decide +kernel
theorem dX9_of_5 : decode cX9_of 5 = .ok (.iload_n 1, 1) := by decide +kernel
theorem dX9_of_6 : decode cX9_of 6 = .ok (.imul, 1) := by decide +kernel
theorem dX9_of_7 : decode cX9_of 7 = .ok (.iload_n 2, 1) := by decide +kernel
theorem dX9_of_8 : decode cX9_of 8 = .ok (.iadd, 1) := by decide +kernel
theorem dX9_of_9 : decode cX9_of 9 = .ok (.iaload, 1) := by decide +kernel
theorem dX9_of_10 : decode cX9_of 10 = .ok (.ireturn, 1) := by decide +kernel
theorem dX9_isEdge_0 : decode cX9_isEdge 0 = .ok (.iload_n 1, 1) := by decide +kernel
theorem dX9_isEdge_1 : decode cX9_isEdge 1 = .ok (.iconst 0, 1) := by decide +kernel
theorem dX9_isEdge_2 : decode cX9_isEdge 2 = .ok (.aload_n 0, 1) := by decide +kernel
theorem dX9_isEdge_3 : decode cX9_isEdge 3 = .ok (.getfield 7, 3) := by decide +kernel
theorem dX9_isEdge_6 : decode cX9_isEdge 6 = .ok (.bipush 80, 2) := by decide +kernel
theorem dX9_isEdge_8 : decode cX9_isEdge 8 = .ok (.iaload, 1) := by decide +kernel
theorem dX9_isEdge_9 : decode cX9_isEdge 9 = .ok (.iconst 1, 1) := by decide +kernel
theorem dX9_isEdge_10 : decode cX9_isEdge 10 = .ok (.isub, 1) := by decide +kernel
theorem dX9_isEdge_11 : decode cX9_isEdge 11 = .ok (.invokestatic 38, 3) := by decide +kernel
theorem dX9_isEdge_14 : decode cX9_isEdge 14 = .ok (.ireturn, 1) := by decide +kernel
theorem dX9_isSet_0 : decode cX9_isSet 0 = .ok (.iload_n 1, 1) := by decide +kernel
theorem dX9_isSet_1 : decode cX9_isSet 1 = .ok (.ifCond .lt 19, 3) := by decide +kernel
theorem dX9_isSet_4 : decode cX9_isSet 4 = .ok (.iload_n 1, 1) := by decide +kernel
theorem dX9_isSet_5 : decode cX9_isSet 5 = .ok (.aload_n 0, 1) := by decide +kernel
theorem dX9_isSet_6 : decode cX9_isSet 6 = .ok (.getfield 7, 3) := by decide +kernel
theorem dX9_isSet_9 : decode cX9_isSet 9 = .ok (.bipush 80, 2) := by decide +kernel
theorem dX9_isSet_11 : decode cX9_isSet 11 = .ok (.iaload, 1) := by decide +kernel
theorem dX9_isSet_12 : decode cX9_isSet 12 = .ok (.ishr, 1) := by decide +kernel
theorem dX9_isSet_13 : decode cX9_isSet 13 = .ok (.ifCond .ne 7, 3) := by decide +kernel
theorem dX9_isSet_16 : decode cX9_isSet 16 = .ok (.iconst 1, 1) := by decide +kernel
theorem dX9_isSet_17 : decode cX9_isSet 17 = .ok (.goto 4, 3) := by decide +kernel
theorem dX9_isSet_20 : decode cX9_isSet 20 = .ok (.iconst 0, 1) := by decide +kernel
theorem dX9_isSet_21 : decode cX9_isSet 21 = .ok (.ireturn, 1) := by decide +kernel
theorem dX9_has_0 : decode cX9_has 0 = .ok (.iload_n 0, 1) := by decide +kernel
theorem dX9_has_1 : decode cX9_has 1 = .ok (.iload_n 1, 1) := by decide +kernel
theorem dX9_has_2 : decode cX9_has 2 = .ok (.ishr, 1) := by decide +kernel
theorem dX9_has_3 : decode cX9_has 3 = .ok (.iconst 1, 1) := by decide +kernel
theorem dX9_has_4 : decode cX9_has 4 = .ok (.iand, 1) := by decide +kernel
theorem dX9_has_5 : decode cX9_has 5 = .ok (.iconst 1, 1) := by decide +kernel
theorem dX9_has_6 : decode cX9_has 6 = .ok (.if_icmp .ne 7, 3) := by decide +kernel
theorem dX9_has_9 : decode cX9_has 9 = .ok (.iconst 1, 1) := by decide +kernel
theorem dX9_has_10 : decode cX9_has 10 = .ok (.goto 4, 3) := by decide +kernel
theorem dX9_has_13 : decode cX9_has 13 = .ok (.iconst 0, 1) := by decide +kernel
theorem dX9_has_14 : decode cX9_has 14 = .ok (.ireturn, 1) := by decide +kernel
theorem dX9_costOf_0 : decode cX9_costOf 0 = .ok (.iconst 0, 1) := by decide +kernel
theorem dX9_costOf_1 : decode cX9_costOf 1 = .ok (.istore_n 2, 1) := by decide +kernel
theorem dX9_costOf_2 : decode cX9_costOf 2 = .ok (.iconst 0, 1) := by decide +kernel
theorem dX9_costOf_3 : decode cX9_costOf 3 = .ok (.istore_n 3, 1) := by decide +kernel
theorem dX9_costOf_4 : decode cX9_costOf 4 = .ok (.iload_n 3, 1) := by decide +kernel
theorem dX9_costOf_5 : decode cX9_costOf 5 = .ok (.aload_n 0, 1) := by decide +kernel
theorem dX9_costOf_6 : decode cX9_costOf 6 = .ok (.getfield 7, 3) := by decide +kernel
theorem dX9_costOf_9 : decode cX9_costOf 9 = .ok (.bipush 80, 2) := by decide +kernel
theorem dX9_costOf_11 : decode cX9_costOf 11 = .ok (.iaload, 1) := by decide +kernel
theorem dX9_costOf_12 : decode cX9_costOf 12 = .ok (.if_icmp .ge 30, 3) := by decide +kernel
theorem dX9_costOf_15 : decode cX9_costOf 15 = .ok (.iload_n 2, 1) := by decide +kernel
theorem dX9_costOf_16 : decode cX9_costOf 16 = .ok (.iload_n 1, 1) := by decide +kernel
theorem dX9_costOf_17 : decode cX9_costOf 17 = .ok (.iload_n 3, 1) := by decide +kernel
theorem dX9_costOf_18 : decode cX9_costOf 18 = .ok (.invokestatic 42, 3) := by decide +kernel
theorem dX9_costOf_21 : decode cX9_costOf 21 = .ok (.ifCond .eq 12, 3) := by decide +kernel
theorem dX9_costOf_24 : decode cX9_costOf 24 = .ok (.aload_n 0, 1) := by decide +kernel
theorem dX9_costOf_25 : decode cX9_costOf 25 = .ok (.iload_n 3, 1) := by decide +kernel
theorem dX9_costOf_26 : decode cX9_costOf 26 = .ok (.iconst 4, 1) := by decide +kernel
theorem dX9_costOf_27 : decode cX9_costOf 27 = .ok (.invokevirtual 46, 3) := by decide +kernel
theorem dX9_costOf_30 : decode cX9_costOf 30 = .ok (.goto 4, 3) := by decide +kernel
theorem dX9_costOf_33 : decode cX9_costOf 33 = .ok (.iconst 0, 1) := by decide +kernel
theorem dX9_costOf_34 : decode cX9_costOf 34 = .ok (.iadd, 1) := by decide +kernel
theorem dX9_costOf_35 : decode cX9_costOf 35 = .ok (.istore_n 2, 1) := by decide +kernel
theorem dX9_costOf_36 : decode cX9_costOf 36 = .ok (.iinc 3 1, 3) := by decide +kernel
theorem dX9_costOf_39 : decode cX9_costOf 39 = .ok (.goto (-35), 3) := by decide +kernel
theorem dX9_costOf_42 : decode cX9_costOf 42 = .ok (.iload_n 2, 1) := by decide +kernel
theorem dX9_costOf_43 : decode cX9_costOf 43 = .ok (.ireturn, 1) := by decide +kernel
theorem dX9_many_0 : decode cX9_many 0 = .ok (.iconst 0, 1) := by decide +kernel
theorem dX9_many_1 : decode cX9_many 1 = .ok (.istore_n 1, 1) := by decide +kernel
theorem dX9_many_2 : decode cX9_many 2 = .ok (.iconst 0, 1) := by decide +kernel
theorem dX9_many_3 : decode cX9_many 3 = .ok (.istore_n 2, 1) := by decide +kernel
theorem dX9_many_4 : decode cX9_many 4 = .ok (.iload_n 2, 1) := by decide +kernel
theorem dX9_many_5 : decode cX9_many 5 = .ok (.bipush 16, 2) := by decide +kernel
theorem dX9_many_7 : decode cX9_many 7 = .ok (.if_icmp .ge 17, 3) := by decide +kernel
theorem dX9_many_10 : decode cX9_many 10 = .ok (.iload_n 1, 1) := by decide +kernel
theorem dX9_many_11 : decode cX9_many 11 = .ok (.iload_n 0, 1) := by decide +kernel
theorem dX9_many_12 : decode cX9_many 12 = .ok (.iload_n 2, 1) := by decide +kernel
theorem dX9_many_13 : decode cX9_many 13 = .ok (.ishr, 1) := by decide +kernel
theorem dX9_many_14 : decode cX9_many 14 = .ok (.iconst 1, 1) := by decide +kernel
theorem dX9_many_15 : decode cX9_many 15 = .ok (.iand, 1) := by decide +kernel
theorem dX9_many_16 : decode cX9_many 16 = .ok (.iadd, 1) := by decide +kernel
theorem dX9_many_17 : decode cX9_many 17 = .ok (.istore_n 1, 1) := by decide +kernel
theorem dX9_many_18 : decode cX9_many 18 = .ok (.iinc 2 1, 3) := by decide +kernel
theorem dX9_many_21 : decode cX9_many 21 = .ok (.goto (-17), 3) := by decide +kernel
theorem dX9_many_24 : decode cX9_many 24 = .ok (.iload_n 1, 1) := by decide +kernel
theorem dX9_many_25 : decode cX9_many 25 = .ok (.ireturn, 1) := by decide +kernel
theorem dX9_keeps_0 : decode cX9_keeps 0 = .ok (.aload_n 0, 1) := by decide +kernel
theorem dX9_keeps_1 : decode cX9_keeps 1 = .ok (.getfield 50, 3) := by decide +kernel
theorem dX9_keeps_4 : decode cX9_keeps 4 = .ok (.bipush 12, 2) := by decide +kernel
theorem dX9_keeps_6 : decode cX9_keeps 6 = .ok (.if_icmp .ne 43, 3) := by decide +kernel
theorem dX9_keeps_9 : decode cX9_keeps 9 = .ok (.iconst 0, 1) := by decide +kernel
theorem dX9_keeps_10 : decode cX9_keeps 10 = .ok (.istore_n 1, 1) := by decide +kernel
theorem dX9_keeps_11 : decode cX9_keeps 11 = .ok (.iload_n 1, 1) := by decide +kernel
theorem dX9_keeps_12 : decode cX9_keeps 12 = .ok (.sipush 902, 3) := by decide +kernel
theorem dX9_keeps_15 : decode cX9_keeps 15 = .ok (.if_icmp .ge 24, 3) := by decide +kernel
theorem dX9_keeps_18 : decode cX9_keeps 18 = .ok (.aload_n 0, 1) := by decide +kernel
theorem dX9_keeps_19 : decode cX9_keeps 19 = .ok (.getfield 13, 3) := by decide +kernel
theorem dX9_keeps_22 : decode cX9_keeps 22 = .ok (.iload_n 1, 1) := by decide +kernel
theorem dX9_keeps_23 : decode cX9_keeps 23 = .ok (.aload_n 0, 1) := by decide +kernel
theorem dX9_keeps_24 : decode cX9_keeps 24 = .ok (.getfield 13, 3) := by decide +kernel
theorem dX9_keeps_27 : decode cX9_keeps 27 = .ok (.iload_n 1, 1) := by decide +kernel
theorem dX9_keeps_28 : decode cX9_keeps 28 = .ok (.bipush 82, 2) := by decide +kernel
theorem dX9_keeps_30 : decode cX9_keeps 30 = .ok (.iadd, 1) := by decide +kernel
theorem dX9_keeps_31 : decode cX9_keeps 31 = .ok (.iaload, 1) := by decide +kernel
theorem dX9_keeps_32 : decode cX9_keeps 32 = .ok (.iastore, 1) := by decide +kernel
theorem dX9_keeps_33 : decode cX9_keeps 33 = .ok (.iinc 1 1, 3) := by decide +kernel
theorem dX9_keeps_36 : decode cX9_keeps 36 = .ok (.goto (-25), 3) := by decide +kernel
theorem dX9_keeps_39 : decode cX9_keeps 39 = .ok (.aload_n 0, 1) := by decide +kernel
theorem dX9_keeps_40 : decode cX9_keeps 40 = .ok (.dup, 1) := by decide +kernel
theorem dX9_keeps_41 : decode cX9_keeps 41 = .ok (.getfield 50, 3) := by decide +kernel
theorem dX9_keeps_44 : decode cX9_keeps 44 = .ok (.iconst 1, 1) := by decide +kernel
theorem dX9_keeps_45 : decode cX9_keeps 45 = .ok (.isub, 1) := by decide +kernel
theorem dX9_keeps_46 : decode cX9_keeps 46 = .ok (.putfield 50, 3) := by decide +kernel
theorem dX9_keeps_49 : decode cX9_keeps 49 = .ok (.iconst 0, 1) := by decide +kernel
theorem dX9_keeps_50 : decode cX9_keeps 50 = .ok (.istore_n 1, 1) := by decide +kernel
theorem dX9_keeps_51 : decode cX9_keeps 51 = .ok (.iload_n 1, 1) := by decide +kernel
theorem dX9_keeps_52 : decode cX9_keeps 52 = .ok (.bipush 82, 2) := by decide +kernel
theorem dX9_keeps_54 : decode cX9_keeps 54 = .ok (.if_icmp .ge 29, 3) := by decide +kernel
theorem dX9_keeps_57 : decode cX9_keeps 57 = .ok (.aload_n 0, 1) := by decide +kernel
theorem dX9_keeps_58 : decode cX9_keeps 58 = .ok (.getfield 13, 3) := by decide +kernel
theorem dX9_keeps_61 : decode cX9_keeps 61 = .ok (.bipush 82, 2) := by decide +kernel
theorem dX9_keeps_63 : decode cX9_keeps 63 = .ok (.aload_n 0, 1) := by decide +kernel
theorem dX9_keeps_64 : decode cX9_keeps 64 = .ok (.getfield 50, 3) := by decide +kernel
theorem dX9_keeps_67 : decode cX9_keeps 67 = .ok (.imul, 1) := by decide +kernel
theorem dX9_keeps_68 : decode cX9_keeps 68 = .ok (.iload_n 1, 1) := by decide +kernel
theorem dX9_keeps_69 : decode cX9_keeps 69 = .ok (.iadd, 1) := by decide +kernel
theorem dX9_keeps_70 : decode cX9_keeps 70 = .ok (.aload_n 0, 1) := by decide +kernel
theorem dX9_keeps_71 : decode cX9_keeps 71 = .ok (.getfield 7, 3) := by decide +kernel
theorem dX9_keeps_74 : decode cX9_keeps 74 = .ok (.iload_n 1, 1) := by decide +kernel
theorem dX9_keeps_75 : decode cX9_keeps 75 = .ok (.iaload, 1) := by decide +kernel
theorem dX9_keeps_76 : decode cX9_keeps 76 = .ok (.iastore, 1) := by decide +kernel
theorem dX9_keeps_77 : decode cX9_keeps 77 = .ok (.iinc 1 1, 3) := by decide +kernel
theorem dX9_keeps_80 : decode cX9_keeps 80 = .ok (.goto (-29), 3) := by decide +kernel
theorem dX9_keeps_83 : decode cX9_keeps 83 = .ok (.aload_n 0, 1) := by decide +kernel
theorem dX9_keeps_84 : decode cX9_keeps 84 = .ok (.dup, 1) := by decide +kernel
theorem dX9_keeps_85 : decode cX9_keeps 85 = .ok (.getfield 50, 3) := by decide +kernel
theorem dX9_keeps_88 : decode cX9_keeps 88 = .ok (.iconst 1, 1) := by decide +kernel
theorem dX9_keeps_89 : decode cX9_keeps 89 = .ok (.iadd, 1) := by decide +kernel
theorem dX9_keeps_90 : decode cX9_keeps 90 = .ok (.putfield 50, 3) := by decide +kernel
theorem dX9_keeps_93 : decode cX9_keeps 93 = .ok (.return_, 1) := by decide +kernel
theorem dX9_undo_0 : decode cX9_undo 0 = .ok (.aload_n 0, 1) := by decide +kernel
theorem dX9_undo_1 : decode cX9_undo 1 = .ok (.getfield 50, 3) := by decide +kernel
theorem dX9_undo_4 : decode cX9_undo 4 = .ok (.ifCond .ne 6, 3) := by decide +kernel
theorem dX9_undo_7 : decode cX9_undo 7 = .ok (.bipush (-3), 2) := by decide +kernel
theorem dX9_undo_9 : decode cX9_undo 9 = .ok (.ireturn, 1) := by decide +kernel
theorem dX9_undo_10 : decode cX9_undo 10 = .ok (.aload_n 0, 1) := by decide +kernel
theorem dX9_undo_11 : decode cX9_undo 11 = .ok (.dup, 1) := by decide +kernel
theorem dX9_undo_12 : decode cX9_undo 12 = .ok (.getfield 50, 3) := by decide +kernel
theorem dX9_undo_15 : decode cX9_undo 15 = .ok (.iconst 1, 1) := by decide +kernel
theorem dX9_undo_16 : decode cX9_undo 16 = .ok (.isub, 1) := by decide +kernel
theorem dX9_undo_17 : decode cX9_undo 17 = .ok (.putfield 50, 3) := by decide +kernel
theorem dX9_undo_20 : decode cX9_undo 20 = .ok (.iconst 0, 1) := by decide +kernel
theorem dX9_undo_21 : decode cX9_undo 21 = .ok (.istore_n 1, 1) := by decide +kernel
theorem dX9_undo_22 : decode cX9_undo 22 = .ok (.iload_n 1, 1) := by decide +kernel
theorem dX9_undo_23 : decode cX9_undo 23 = .ok (.bipush 82, 2) := by decide +kernel
theorem dX9_undo_25 : decode cX9_undo 25 = .ok (.if_icmp .ge 29, 3) := by decide +kernel
theorem dX9_undo_28 : decode cX9_undo 28 = .ok (.aload_n 0, 1) := by decide +kernel
theorem dX9_undo_29 : decode cX9_undo 29 = .ok (.getfield 7, 3) := by decide +kernel
theorem dX9_undo_32 : decode cX9_undo 32 = .ok (.iload_n 1, 1) := by decide +kernel
theorem dX9_undo_33 : decode cX9_undo 33 = .ok (.aload_n 0, 1) := by decide +kernel
theorem dX9_undo_34 : decode cX9_undo 34 = .ok (.getfield 13, 3) := by decide +kernel
theorem dX9_undo_37 : decode cX9_undo 37 = .ok (.bipush 82, 2) := by decide +kernel
theorem dX9_undo_39 : decode cX9_undo 39 = .ok (.aload_n 0, 1) := by decide +kernel
theorem dX9_undo_40 : decode cX9_undo 40 = .ok (.getfield 50, 3) := by decide +kernel
theorem dX9_undo_43 : decode cX9_undo 43 = .ok (.imul, 1) := by decide +kernel
theorem dX9_undo_44 : decode cX9_undo 44 = .ok (.iload_n 1, 1) := by decide +kernel
theorem dX9_undo_45 : decode cX9_undo 45 = .ok (.iadd, 1) := by decide +kernel
theorem dX9_undo_46 : decode cX9_undo 46 = .ok (.iaload, 1) := by decide +kernel
theorem dX9_undo_47 : decode cX9_undo 47 = .ok (.iastore, 1) := by decide +kernel
theorem dX9_undo_48 : decode cX9_undo 48 = .ok (.iinc 1 1, 3) := by decide +kernel
theorem dX9_undo_51 : decode cX9_undo 51 = .ok (.goto (-29), 3) := by decide +kernel
theorem dX9_undo_54 : decode cX9_undo 54 = .ok (.aload_n 0, 1) := by decide +kernel
theorem dX9_undo_55 : decode cX9_undo 55 = .ok (.getfield 50, 3) := by decide +kernel
theorem dX9_undo_58 : decode cX9_undo 58 = .ok (.ireturn, 1) := by decide +kernel
theorem dX9_isValue_0 : decode cX9_isValue 0 = .ok (.iload_n 0, 1) := by decide +kernel
theorem dX9_isValue_1 : decode cX9_isValue 1 = .ok (.iconst 2, 1) := by decide +kernel
theorem dX9_isValue_2 : decode cX9_isValue 2 = .ok (.if_icmp .ne 13, 3) := by decide +kernel
theorem dX9_isValue_5 : decode cX9_isValue 5 = .ok (.iload_n 1, 1) := by decide +kernel
theorem dX9_isValue_6 : decode cX9_isValue 6 = .ok (.iconst 0, 1) := by decide +kernel
theorem dX9_isValue_7 : decode cX9_isValue 7 = .ok (.bipush 99, 2) := by decide +kernel
theorem dX9_isValue_9 : decode cX9_isValue 9 = .ok (.invokestatic 38, 3) := by decide +kernel
theorem dX9_isValue_12 : decode cX9_isValue 12 = .ok (.goto 38, 3) := by decide +kernel
theorem dX9_isValue_15 : decode cX9_isValue 15 = .ok (.iload_n 0, 1) := by decide +kernel
theorem dX9_isValue_16 : decode cX9_isValue 16 = .ok (.iconst 3, 1) := by decide +kernel
theorem dX9_isValue_17 : decode cX9_isValue 17 = .ok (.if_icmp .ne 13, 3) := by decide +kernel
theorem dX9_isValue_20 : decode cX9_isValue 20 = .ok (.iload_n 1, 1) := by decide +kernel
theorem dX9_isValue_21 : decode cX9_isValue 21 = .ok (.iconst 1, 1) := by decide +kernel
theorem dX9_isValue_22 : decode cX9_isValue 22 = .ok (.bipush 100, 2) := by decide +kernel
theorem dX9_isValue_24 : decode cX9_isValue 24 = .ok (.invokestatic 38, 3) := by decide +kernel
theorem dX9_isValue_27 : decode cX9_isValue 27 = .ok (.goto 23, 3) := by decide +kernel
theorem dX9_isValue_30 : decode cX9_isValue 30 = .ok (.iload_n 0, 1) := by decide +kernel
theorem dX9_isValue_31 : decode cX9_isValue 31 = .ok (.iconst 4, 1) := by decide +kernel
theorem dX9_isValue_32 : decode cX9_isValue 32 = .ok (.if_icmp .ne 17, 3) := by decide +kernel
theorem dX9_isValue_35 : decode cX9_isValue 35 = .ok (.iload_n 1, 1) := by decide +kernel
theorem dX9_isValue_36 : decode cX9_isValue 36 = .ok (.iconst 1, 1) := by decide +kernel
theorem dX9_isValue_37 : decode cX9_isValue 37 = .ok (.bipush 9, 2) := by decide +kernel
theorem dX9_isValue_39 : decode cX9_isValue 39 = .ok (.invokestatic 38, 3) := by decide +kernel
theorem dX9_isValue_42 : decode cX9_isValue 42 = .ok (.ifCond .eq 7, 3) := by decide +kernel
theorem dX9_isValue_45 : decode cX9_isValue 45 = .ok (.iconst 1, 1) := by decide +kernel
theorem dX9_isValue_46 : decode cX9_isValue 46 = .ok (.goto 4, 3) := by decide +kernel
theorem dX9_isValue_49 : decode cX9_isValue 49 = .ok (.iconst 0, 1) := by decide +kernel
theorem dX9_isValue_50 : decode cX9_isValue 50 = .ok (.ireturn, 1) := by decide +kernel
theorem dX9_lays_0 : decode cX9_lays 0 = .ok (.aload_n 0, 1) := by decide +kernel
theorem dX9_lays_1 : decode cX9_lays 1 = .ok (.getfield 7, 3) := by decide +kernel
theorem dX9_lays_4 : decode cX9_lays 4 = .ok (.iconst 5, 1) := by decide +kernel
theorem dX9_lays_5 : decode cX9_lays 5 = .ok (.iload_n 1, 1) := by decide +kernel
theorem dX9_lays_6 : decode cX9_lays 6 = .ok (.imul, 1) := by decide +kernel
theorem dX9_lays_7 : decode cX9_lays 7 = .ok (.iload_n 2, 1) := by decide +kernel
theorem dX9_lays_8 : decode cX9_lays 8 = .ok (.iastore, 1) := by decide +kernel
theorem dX9_lays_9 : decode cX9_lays 9 = .ok (.aload_n 0, 1) := by decide +kernel
theorem dX9_lays_10 : decode cX9_lays 10 = .ok (.getfield 7, 3) := by decide +kernel
theorem dX9_lays_13 : decode cX9_lays 13 = .ok (.iconst 5, 1) := by decide +kernel
theorem dX9_lays_14 : decode cX9_lays 14 = .ok (.iload_n 1, 1) := by decide +kernel
theorem dX9_lays_15 : decode cX9_lays 15 = .ok (.imul, 1) := by decide +kernel
theorem dX9_lays_16 : decode cX9_lays 16 = .ok (.iconst 1, 1) := by decide +kernel
theorem dX9_lays_17 : decode cX9_lays 17 = .ok (.iadd, 1) := by decide +kernel
theorem dX9_lays_18 : decode cX9_lays 18 = .ok (.iload_n 3, 1) := by decide +kernel
theorem dX9_lays_19 : decode cX9_lays 19 = .ok (.iastore, 1) := by decide +kernel
theorem dX9_lays_20 : decode cX9_lays 20 = .ok (.aload_n 0, 1) := by decide +kernel
theorem dX9_lays_21 : decode cX9_lays 21 = .ok (.getfield 7, 3) := by decide +kernel
theorem dX9_lays_24 : decode cX9_lays 24 = .ok (.iconst 5, 1) := by decide +kernel
theorem dX9_lays_25 : decode cX9_lays 25 = .ok (.iload_n 1, 1) := by decide +kernel
theorem dX9_lays_26 : decode cX9_lays 26 = .ok (.imul, 1) := by decide +kernel
theorem dX9_lays_27 : decode cX9_lays 27 = .ok (.iconst 2, 1) := by decide +kernel
theorem dX9_lays_28 : decode cX9_lays 28 = .ok (.iadd, 1) := by decide +kernel
theorem dX9_lays_29 : decode cX9_lays 29 = .ok (.iload 4, 2) := by decide +kernel
theorem dX9_lays_31 : decode cX9_lays 31 = .ok (.iastore, 1) := by decide +kernel
theorem dX9_lays_32 : decode cX9_lays 32 = .ok (.aload_n 0, 1) := by decide +kernel
theorem dX9_lays_33 : decode cX9_lays 33 = .ok (.getfield 7, 3) := by decide +kernel
theorem dX9_lays_36 : decode cX9_lays 36 = .ok (.iconst 5, 1) := by decide +kernel
theorem dX9_lays_37 : decode cX9_lays 37 = .ok (.iload_n 1, 1) := by decide +kernel
theorem dX9_lays_38 : decode cX9_lays 38 = .ok (.imul, 1) := by decide +kernel
theorem dX9_lays_39 : decode cX9_lays 39 = .ok (.iconst 3, 1) := by decide +kernel
theorem dX9_lays_40 : decode cX9_lays 40 = .ok (.iadd, 1) := by decide +kernel
theorem dX9_lays_41 : decode cX9_lays 41 = .ok (.iload 5, 2) := by decide +kernel
theorem dX9_lays_43 : decode cX9_lays 43 = .ok (.iastore, 1) := by decide +kernel
theorem dX9_lays_44 : decode cX9_lays 44 = .ok (.aload_n 0, 1) := by decide +kernel
theorem dX9_lays_45 : decode cX9_lays 45 = .ok (.getfield 7, 3) := by decide +kernel
theorem dX9_lays_48 : decode cX9_lays 48 = .ok (.iconst 5, 1) := by decide +kernel
theorem dX9_lays_49 : decode cX9_lays 49 = .ok (.iload_n 1, 1) := by decide +kernel
theorem dX9_lays_50 : decode cX9_lays 50 = .ok (.imul, 1) := by decide +kernel
theorem dX9_lays_51 : decode cX9_lays 51 = .ok (.iconst 4, 1) := by decide +kernel
theorem dX9_lays_52 : decode cX9_lays 52 = .ok (.iadd, 1) := by decide +kernel
theorem dX9_lays_53 : decode cX9_lays 53 = .ok (.iload 6, 2) := by decide +kernel
theorem dX9_lays_55 : decode cX9_lays 55 = .ok (.iastore, 1) := by decide +kernel
theorem dX9_lays_56 : decode cX9_lays 56 = .ok (.return_, 1) := by decide +kernel
theorem dX9_addEdge_0 : decode cX9_addEdge 0 = .ok (.iload_n 1, 1) := by decide +kernel
theorem dX9_addEdge_1 : decode cX9_addEdge 1 = .ok (.iload_n 2, 1) := by decide +kernel
theorem dX9_addEdge_2 : decode cX9_addEdge 2 = .ok (.invokestatic 53, 3) := by decide +kernel
theorem dX9_addEdge_5 : decode cX9_addEdge 5 = .ok (.ifCond .eq 34, 3) := by decide +kernel
theorem dX9_addEdge_8 : decode cX9_addEdge 8 = .ok (.iload_n 1, 1) := by decide +kernel
theorem dX9_addEdge_9 : decode cX9_addEdge 9 = .ok (.iload_n 2, 1) := by decide +kernel
theorem dX9_addEdge_10 : decode cX9_addEdge 10 = .ok (.if_icmp .eq 29, 3) := by decide +kernel
theorem dX9_addEdge_13 : decode cX9_addEdge 13 = .ok (.iconst 2, 1) := by decide +kernel
theorem dX9_addEdge_14 : decode cX9_addEdge 14 = .ok (.iload_n 3, 1) := by decide +kernel
theorem dX9_addEdge_15 : decode cX9_addEdge 15 = .ok (.invokestatic 56, 3) := by decide +kernel
theorem dX9_addEdge_18 : decode cX9_addEdge 18 = .ok (.ifCond .eq 21, 3) := by decide +kernel
theorem dX9_addEdge_21 : decode cX9_addEdge 21 = .ok (.iconst 3, 1) := by decide +kernel
theorem dX9_addEdge_22 : decode cX9_addEdge 22 = .ok (.iload 4, 2) := by decide +kernel
theorem dX9_addEdge_24 : decode cX9_addEdge 24 = .ok (.invokestatic 56, 3) := by decide +kernel
theorem dX9_addEdge_27 : decode cX9_addEdge 27 = .ok (.ifCond .eq 12, 3) := by decide +kernel
theorem dX9_addEdge_30 : decode cX9_addEdge 30 = .ok (.iconst 4, 1) := by decide +kernel
theorem dX9_addEdge_31 : decode cX9_addEdge 31 = .ok (.iload 5, 2) := by decide +kernel
theorem dX9_addEdge_33 : decode cX9_addEdge 33 = .ok (.invokestatic 56, 3) := by decide +kernel
theorem dX9_addEdge_36 : decode cX9_addEdge 36 = .ok (.ifCond .ne 6, 3) := by decide +kernel
theorem dX9_addEdge_39 : decode cX9_addEdge 39 = .ok (.bipush (-2), 2) := by decide +kernel
theorem dX9_addEdge_41 : decode cX9_addEdge 41 = .ok (.ireturn, 1) := by decide +kernel
theorem dX9_addEdge_42 : decode cX9_addEdge 42 = .ok (.aload_n 0, 1) := by decide +kernel
theorem dX9_addEdge_43 : decode cX9_addEdge 43 = .ok (.getfield 7, 3) := by decide +kernel
theorem dX9_addEdge_46 : decode cX9_addEdge 46 = .ok (.bipush 80, 2) := by decide +kernel
theorem dX9_addEdge_48 : decode cX9_addEdge 48 = .ok (.iaload, 1) := by decide +kernel
theorem dX9_addEdge_49 : decode cX9_addEdge 49 = .ok (.bipush 16, 2) := by decide +kernel
theorem dX9_addEdge_51 : decode cX9_addEdge 51 = .ok (.if_icmp .ne 6, 3) := by decide +kernel
theorem dX9_addEdge_54 : decode cX9_addEdge 54 = .ok (.bipush (-4), 2) := by decide +kernel
theorem dX9_addEdge_56 : decode cX9_addEdge 56 = .ok (.ireturn, 1) := by decide +kernel
theorem dX9_addEdge_57 : decode cX9_addEdge 57 = .ok (.aload_n 0, 1) := by decide +kernel
theorem dX9_addEdge_58 : decode cX9_addEdge 58 = .ok (.invokevirtual 59, 3) := by decide +kernel
theorem dX9_addEdge_61 : decode cX9_addEdge 61 = .ok (.aload_n 0, 1) := by decide +kernel
theorem dX9_addEdge_62 : decode cX9_addEdge 62 = .ok (.aload_n 0, 1) := by decide +kernel
theorem dX9_addEdge_63 : decode cX9_addEdge 63 = .ok (.getfield 7, 3) := by decide +kernel
theorem dX9_addEdge_66 : decode cX9_addEdge 66 = .ok (.bipush 80, 2) := by decide +kernel
theorem dX9_addEdge_68 : decode cX9_addEdge 68 = .ok (.iaload, 1) := by decide +kernel
theorem dX9_addEdge_69 : decode cX9_addEdge 69 = .ok (.iload_n 1, 1) := by decide +kernel
theorem dX9_addEdge_70 : decode cX9_addEdge 70 = .ok (.iload_n 2, 1) := by decide +kernel
theorem dX9_addEdge_71 : decode cX9_addEdge 71 = .ok (.iload_n 3, 1) := by decide +kernel
theorem dX9_addEdge_72 : decode cX9_addEdge 72 = .ok (.iload 4, 2) := by decide +kernel
theorem dX9_addEdge_74 : decode cX9_addEdge 74 = .ok (.iload 5, 2) := by decide +kernel
theorem dX9_addEdge_76 : decode cX9_addEdge 76 = .ok (.invokevirtual 62, 3) := by decide +kernel
theorem dX9_addEdge_79 : decode cX9_addEdge 79 = .ok (.aload_n 0, 1) := by decide +kernel
theorem dX9_addEdge_80 : decode cX9_addEdge 80 = .ok (.getfield 7, 3) := by decide +kernel
theorem dX9_addEdge_83 : decode cX9_addEdge 83 = .ok (.bipush 80, 2) := by decide +kernel
theorem dX9_addEdge_85 : decode cX9_addEdge 85 = .ok (.dup2, 1) := by decide +kernel
theorem dX9_addEdge_86 : decode cX9_addEdge 86 = .ok (.iaload, 1) := by decide +kernel
theorem dX9_addEdge_87 : decode cX9_addEdge 87 = .ok (.iconst 1, 1) := by decide +kernel
theorem dX9_addEdge_88 : decode cX9_addEdge 88 = .ok (.iadd, 1) := by decide +kernel
theorem dX9_addEdge_89 : decode cX9_addEdge 89 = .ok (.iastore, 1) := by decide +kernel
theorem dX9_addEdge_90 : decode cX9_addEdge 90 = .ok (.aload_n 0, 1) := by decide +kernel
theorem dX9_addEdge_91 : decode cX9_addEdge 91 = .ok (.getfield 7, 3) := by decide +kernel
theorem dX9_addEdge_94 : decode cX9_addEdge 94 = .ok (.bipush 80, 2) := by decide +kernel
theorem dX9_addEdge_96 : decode cX9_addEdge 96 = .ok (.iaload, 1) := by decide +kernel
theorem dX9_addEdge_97 : decode cX9_addEdge 97 = .ok (.iconst 1, 1) := by decide +kernel
theorem dX9_addEdge_98 : decode cX9_addEdge 98 = .ok (.isub, 1) := by decide +kernel
theorem dX9_addEdge_99 : decode cX9_addEdge 99 = .ok (.ireturn, 1) := by decide +kernel
end
section
/-! decode rows -/
theorem dX9_removeEdge_0 : decode cX9_removeEdge 0 = .ok (.aload_n 0, 1) := by decide +kernel
theorem dX9_removeEdge_1 : decode cX9_removeEdge 1 = .ok (.iload_n 1, 1) := by decide +kernel
theorem dX9_removeEdge_2 : decode cX9_removeEdge 2 = .ok (.invokevirtual 66, 3) := by decide +kernel
theorem dX9_removeEdge_5 : decode cX9_removeEdge 5 = .ok (.ifCond .ne 6, 3) := by decide +kernel
theorem dX9_removeEdge_8 : decode cX9_removeEdge 8 = .ok (.bipush (-2), 2) := by decide +kernel
theorem dX9_removeEdge_10 : decode cX9_removeEdge 10 = .ok (.ireturn, 1) := by decide +kernel
theorem dX9_removeEdge_11 : decode cX9_removeEdge 11 = .ok (.aload_n 0, 1) := by decide +kernel
theorem dX9_removeEdge_12 : decode cX9_removeEdge 12 = .ok (.invokevirtual 59, 3) := by decide +kernel
theorem dX9_removeEdge_15 : decode cX9_removeEdge 15 = .ok (.iconst 0, 1) := by decide +kernel
theorem dX9_removeEdge_16 : decode cX9_removeEdge 16 = .ok (.istore_n 2, 1) := by decide +kernel
theorem dX9_removeEdge_17 : decode cX9_removeEdge 17 = .ok (.iconst 0, 1) := by decide +kernel
theorem dX9_removeEdge_18 : decode cX9_removeEdge 18 = .ok (.istore_n 3, 1) := by decide +kernel
theorem dX9_removeEdge_19 : decode cX9_removeEdge 19 = .ok (.iload_n 3, 1) := by decide +kernel
theorem dX9_removeEdge_20 : decode cX9_removeEdge 20 = .ok (.aload_n 0, 1) := by decide +kernel
theorem dX9_removeEdge_21 : decode cX9_removeEdge 21 = .ok (.getfield 7, 3) := by decide +kernel
theorem dX9_removeEdge_24 : decode cX9_removeEdge 24 = .ok (.bipush 80, 2) := by decide +kernel
theorem dX9_removeEdge_26 : decode cX9_removeEdge 26 = .ok (.iaload, 1) := by decide +kernel
theorem dX9_removeEdge_27 : decode cX9_removeEdge 27 = .ok (.if_icmp .ge 53, 3) := by decide +kernel
theorem dX9_removeEdge_30 : decode cX9_removeEdge 30 = .ok (.iload_n 3, 1) := by decide +kernel
theorem dX9_removeEdge_31 : decode cX9_removeEdge 31 = .ok (.iload_n 1, 1) := by decide +kernel
theorem dX9_removeEdge_32 : decode cX9_removeEdge 32 = .ok (.if_icmp .ge 7, 3) := by decide +kernel
theorem dX9_removeEdge_35 : decode cX9_removeEdge 35 = .ok (.iload_n 3, 1) := by decide +kernel
theorem dX9_removeEdge_36 : decode cX9_removeEdge 36 = .ok (.goto 6, 3) := by decide +kernel
theorem dX9_removeEdge_39 : decode cX9_removeEdge 39 = .ok (.iload_n 3, 1) := by decide +kernel
theorem dX9_removeEdge_40 : decode cX9_removeEdge 40 = .ok (.iconst 1, 1) := by decide +kernel
theorem dX9_removeEdge_41 : decode cX9_removeEdge 41 = .ok (.isub, 1) := by decide +kernel
theorem dX9_removeEdge_42 : decode cX9_removeEdge 42 = .ok (.istore 4, 2) := by decide +kernel
theorem dX9_removeEdge_44 : decode cX9_removeEdge 44 = .ok (.iload_n 2, 1) := by decide +kernel
theorem dX9_removeEdge_45 : decode cX9_removeEdge 45 = .ok (.iload_n 3, 1) := by decide +kernel
theorem dX9_removeEdge_46 : decode cX9_removeEdge 46 = .ok (.iload_n 1, 1) := by decide +kernel
theorem dX9_removeEdge_47 : decode cX9_removeEdge 47 = .ok (.if_icmp .eq 24, 3) := by decide +kernel
theorem dX9_removeEdge_50 : decode cX9_removeEdge 50 = .ok (.aload_n 0, 1) := by decide +kernel
theorem dX9_removeEdge_51 : decode cX9_removeEdge 51 = .ok (.getfield 7, 3) := by decide +kernel
theorem dX9_removeEdge_54 : decode cX9_removeEdge 54 = .ok (.bipush 81, 2) := by decide +kernel
theorem dX9_removeEdge_56 : decode cX9_removeEdge 56 = .ok (.iaload, 1) := by decide +kernel
theorem dX9_removeEdge_57 : decode cX9_removeEdge 57 = .ok (.iload_n 3, 1) := by decide +kernel
theorem dX9_removeEdge_58 : decode cX9_removeEdge 58 = .ok (.invokestatic 42, 3) := by decide +kernel
theorem dX9_removeEdge_61 : decode cX9_removeEdge 61 = .ok (.ifCond .eq 10, 3) := by decide +kernel
theorem dX9_removeEdge_64 : decode cX9_removeEdge 64 = .ok (.iconst 1, 1) := by decide +kernel
theorem dX9_removeEdge_65 : decode cX9_removeEdge 65 = .ok (.iload 4, 2) := by decide +kernel
theorem dX9_removeEdge_67 : decode cX9_removeEdge 67 = .ok (.ishl, 1) := by decide +kernel
theorem dX9_removeEdge_68 : decode cX9_removeEdge 68 = .ok (.goto 4, 3) := by decide +kernel
theorem dX9_removeEdge_71 : decode cX9_removeEdge 71 = .ok (.iconst 0, 1) := by decide +kernel
theorem dX9_removeEdge_72 : decode cX9_removeEdge 72 = .ok (.ior, 1) := by decide +kernel
theorem dX9_removeEdge_73 : decode cX9_removeEdge 73 = .ok (.istore_n 2, 1) := by decide +kernel
theorem dX9_removeEdge_74 : decode cX9_removeEdge 74 = .ok (.iinc 3 1, 3) := by decide +kernel
theorem dX9_removeEdge_77 : decode cX9_removeEdge 77 = .ok (.goto (-58), 3) := by decide +kernel
theorem dX9_removeEdge_80 : decode cX9_removeEdge 80 = .ok (.aload_n 0, 1) := by decide +kernel
theorem dX9_removeEdge_81 : decode cX9_removeEdge 81 = .ok (.getfield 7, 3) := by decide +kernel
theorem dX9_removeEdge_84 : decode cX9_removeEdge 84 = .ok (.bipush 80, 2) := by decide +kernel
theorem dX9_removeEdge_86 : decode cX9_removeEdge 86 = .ok (.dup2, 1) := by decide +kernel
theorem dX9_removeEdge_87 : decode cX9_removeEdge 87 = .ok (.iaload, 1) := by decide +kernel
theorem dX9_removeEdge_88 : decode cX9_removeEdge 88 = .ok (.iconst 1, 1) := by decide +kernel
theorem dX9_removeEdge_89 : decode cX9_removeEdge 89 = .ok (.isub, 1) := by decide +kernel
theorem dX9_removeEdge_90 : decode cX9_removeEdge 90 = .ok (.iastore, 1) := by decide +kernel
theorem dX9_removeEdge_91 : decode cX9_removeEdge 91 = .ok (.iconst 5, 1) := by decide +kernel
theorem dX9_removeEdge_92 : decode cX9_removeEdge 92 = .ok (.iload_n 1, 1) := by decide +kernel
theorem dX9_removeEdge_93 : decode cX9_removeEdge 93 = .ok (.imul, 1) := by decide +kernel
theorem dX9_removeEdge_94 : decode cX9_removeEdge 94 = .ok (.istore_n 3, 1) := by decide +kernel
theorem dX9_removeEdge_95 : decode cX9_removeEdge 95 = .ok (.iload_n 3, 1) := by decide +kernel
theorem dX9_removeEdge_96 : decode cX9_removeEdge 96 = .ok (.iconst 5, 1) := by decide +kernel
theorem dX9_removeEdge_97 : decode cX9_removeEdge 97 = .ok (.aload_n 0, 1) := by decide +kernel
theorem dX9_removeEdge_98 : decode cX9_removeEdge 98 = .ok (.getfield 7, 3) := by decide +kernel
theorem dX9_removeEdge_101 : decode cX9_removeEdge 101 = .ok (.bipush 80, 2) := by decide +kernel
theorem dX9_removeEdge_103 : decode cX9_removeEdge 103 = .ok (.iaload, 1) := by decide +kernel
theorem dX9_removeEdge_104 : decode cX9_removeEdge 104 = .ok (.imul, 1) := by decide +kernel
theorem dX9_removeEdge_105 : decode cX9_removeEdge 105 = .ok (.if_icmp .ge 23, 3) := by decide +kernel
theorem dX9_removeEdge_108 : decode cX9_removeEdge 108 = .ok (.aload_n 0, 1) := by decide +kernel
theorem dX9_removeEdge_109 : decode cX9_removeEdge 109 = .ok (.getfield 7, 3) := by decide +kernel
theorem dX9_removeEdge_112 : decode cX9_removeEdge 112 = .ok (.iload_n 3, 1) := by decide +kernel
theorem dX9_removeEdge_113 : decode cX9_removeEdge 113 = .ok (.aload_n 0, 1) := by decide +kernel
theorem dX9_removeEdge_114 : decode cX9_removeEdge 114 = .ok (.getfield 7, 3) := by decide +kernel
theorem dX9_removeEdge_117 : decode cX9_removeEdge 117 = .ok (.iload_n 3, 1) := by decide +kernel
theorem dX9_removeEdge_118 : decode cX9_removeEdge 118 = .ok (.iconst 5, 1) := by decide +kernel
theorem dX9_removeEdge_119 : decode cX9_removeEdge 119 = .ok (.iadd, 1) := by decide +kernel
theorem dX9_removeEdge_120 : decode cX9_removeEdge 120 = .ok (.iaload, 1) := by decide +kernel
theorem dX9_removeEdge_121 : decode cX9_removeEdge 121 = .ok (.iastore, 1) := by decide +kernel
theorem dX9_removeEdge_122 : decode cX9_removeEdge 122 = .ok (.iinc 3 1, 3) := by decide +kernel
theorem dX9_removeEdge_125 : decode cX9_removeEdge 125 = .ok (.goto (-30), 3) := by decide +kernel
theorem dX9_removeEdge_128 : decode cX9_removeEdge 128 = .ok (.aload_n 0, 1) := by decide +kernel
theorem dX9_removeEdge_129 : decode cX9_removeEdge 129 = .ok (.getfield 7, 3) := by decide +kernel
theorem dX9_removeEdge_132 : decode cX9_removeEdge 132 = .ok (.bipush 81, 2) := by decide +kernel
theorem dX9_removeEdge_134 : decode cX9_removeEdge 134 = .ok (.iload_n 2, 1) := by decide +kernel
theorem dX9_removeEdge_135 : decode cX9_removeEdge 135 = .ok (.iastore, 1) := by decide +kernel
theorem dX9_removeEdge_136 : decode cX9_removeEdge 136 = .ok (.aload_n 0, 1) := by decide +kernel
theorem dX9_removeEdge_137 : decode cX9_removeEdge 137 = .ok (.getfield 7, 3) := by decide +kernel
theorem dX9_removeEdge_140 : decode cX9_removeEdge 140 = .ok (.bipush 80, 2) := by decide +kernel
theorem dX9_removeEdge_142 : decode cX9_removeEdge 142 = .ok (.iaload, 1) := by decide +kernel
theorem dX9_removeEdge_143 : decode cX9_removeEdge 143 = .ok (.ireturn, 1) := by decide +kernel
theorem dX9_setEdge_0 : decode cX9_setEdge 0 = .ok (.aload_n 0, 1) := by decide +kernel
theorem dX9_setEdge_1 : decode cX9_setEdge 1 = .ok (.iload_n 1, 1) := by decide +kernel
theorem dX9_setEdge_2 : decode cX9_setEdge 2 = .ok (.invokevirtual 66, 3) := by decide +kernel
theorem dX9_setEdge_5 : decode cX9_setEdge 5 = .ok (.ifCond .eq 11, 3) := by decide +kernel
theorem dX9_setEdge_8 : decode cX9_setEdge 8 = .ok (.iload_n 2, 1) := by decide +kernel
theorem dX9_setEdge_9 : decode cX9_setEdge 9 = .ok (.iload_n 3, 1) := by decide +kernel
theorem dX9_setEdge_10 : decode cX9_setEdge 10 = .ok (.invokestatic 56, 3) := by decide +kernel
theorem dX9_setEdge_13 : decode cX9_setEdge 13 = .ok (.ifCond .ne 6, 3) := by decide +kernel
theorem dX9_setEdge_16 : decode cX9_setEdge 16 = .ok (.bipush (-2), 2) := by decide +kernel
theorem dX9_setEdge_18 : decode cX9_setEdge 18 = .ok (.ireturn, 1) := by decide +kernel
theorem dX9_setEdge_19 : decode cX9_setEdge 19 = .ok (.aload_n 0, 1) := by decide +kernel
theorem dX9_setEdge_20 : decode cX9_setEdge 20 = .ok (.invokevirtual 59, 3) := by decide +kernel
theorem dX9_setEdge_23 : decode cX9_setEdge 23 = .ok (.aload_n 0, 1) := by decide +kernel
theorem dX9_setEdge_24 : decode cX9_setEdge 24 = .ok (.iload_n 1, 1) := by decide +kernel
theorem dX9_setEdge_25 : decode cX9_setEdge 25 = .ok (.iload_n 2, 1) := by decide +kernel
theorem dX9_setEdge_26 : decode cX9_setEdge 26 = .ok (.invokevirtual 46, 3) := by decide +kernel
theorem dX9_setEdge_29 : decode cX9_setEdge 29 = .ok (.istore 4, 2) := by decide +kernel
theorem dX9_setEdge_31 : decode cX9_setEdge 31 = .ok (.aload_n 0, 1) := by decide +kernel
theorem dX9_setEdge_32 : decode cX9_setEdge 32 = .ok (.getfield 7, 3) := by decide +kernel
theorem dX9_setEdge_35 : decode cX9_setEdge 35 = .ok (.iconst 5, 1) := by decide +kernel
theorem dX9_setEdge_36 : decode cX9_setEdge 36 = .ok (.iload_n 1, 1) := by decide +kernel
theorem dX9_setEdge_37 : decode cX9_setEdge 37 = .ok (.imul, 1) := by decide +kernel
theorem dX9_setEdge_38 : decode cX9_setEdge 38 = .ok (.iload_n 2, 1) := by decide +kernel
theorem dX9_setEdge_39 : decode cX9_setEdge 39 = .ok (.iadd, 1) := by decide +kernel
theorem dX9_setEdge_40 : decode cX9_setEdge 40 = .ok (.iload_n 3, 1) := by decide +kernel
theorem dX9_setEdge_41 : decode cX9_setEdge 41 = .ok (.iastore, 1) := by decide +kernel
theorem dX9_setEdge_42 : decode cX9_setEdge 42 = .ok (.iload 4, 2) := by decide +kernel
theorem dX9_setEdge_44 : decode cX9_setEdge 44 = .ok (.ireturn, 1) := by decide +kernel
theorem dX9_edge_0 : decode cX9_edge 0 = .ok (.aload_n 0, 1) := by decide +kernel
theorem dX9_edge_1 : decode cX9_edge 1 = .ok (.iload_n 1, 1) := by decide +kernel
theorem dX9_edge_2 : decode cX9_edge 2 = .ok (.invokevirtual 66, 3) := by decide +kernel
theorem dX9_edge_5 : decode cX9_edge 5 = .ok (.ifCond .eq 12, 3) := by decide +kernel
theorem dX9_edge_8 : decode cX9_edge 8 = .ok (.iload_n 2, 1) := by decide +kernel
theorem dX9_edge_9 : decode cX9_edge 9 = .ok (.iconst 0, 1) := by decide +kernel
theorem dX9_edge_10 : decode cX9_edge 10 = .ok (.iconst 5, 1) := by decide +kernel
theorem dX9_edge_11 : decode cX9_edge 11 = .ok (.invokestatic 38, 3) := by decide +kernel
theorem dX9_edge_14 : decode cX9_edge 14 = .ok (.ifCond .ne 6, 3) := by decide +kernel
theorem dX9_edge_17 : decode cX9_edge 17 = .ok (.bipush (-2), 2) := by decide +kernel
theorem dX9_edge_19 : decode cX9_edge 19 = .ok (.ireturn, 1) := by decide +kernel
theorem dX9_edge_20 : decode cX9_edge 20 = .ok (.iload_n 2, 1) := by decide +kernel
theorem dX9_edge_21 : decode cX9_edge 21 = .ok (.iconst 5, 1) := by decide +kernel
theorem dX9_edge_22 : decode cX9_edge 22 = .ok (.if_icmp .ge 12, 3) := by decide +kernel
theorem dX9_edge_25 : decode cX9_edge 25 = .ok (.aload_n 0, 1) := by decide +kernel
theorem dX9_edge_26 : decode cX9_edge 26 = .ok (.iload_n 1, 1) := by decide +kernel
theorem dX9_edge_27 : decode cX9_edge 27 = .ok (.iload_n 2, 1) := by decide +kernel
theorem dX9_edge_28 : decode cX9_edge 28 = .ok (.invokevirtual 46, 3) := by decide +kernel
theorem dX9_edge_31 : decode cX9_edge 31 = .ok (.goto 14, 3) := by decide +kernel
theorem dX9_edge_34 : decode cX9_edge 34 = .ok (.aload_n 0, 1) := by decide +kernel
theorem dX9_edge_35 : decode cX9_edge 35 = .ok (.getfield 7, 3) := by decide +kernel
theorem dX9_edge_38 : decode cX9_edge 38 = .ok (.bipush 81, 2) := by decide +kernel
theorem dX9_edge_40 : decode cX9_edge 40 = .ok (.iaload, 1) := by decide +kernel
theorem dX9_edge_41 : decode cX9_edge 41 = .ok (.iload_n 1, 1) := by decide +kernel
theorem dX9_edge_42 : decode cX9_edge 42 = .ok (.ishr, 1) := by decide +kernel
theorem dX9_edge_43 : decode cX9_edge 43 = .ok (.iconst 1, 1) := by decide +kernel
theorem dX9_edge_44 : decode cX9_edge 44 = .ok (.iand, 1) := by decide +kernel
theorem dX9_edge_45 : decode cX9_edge 45 = .ok (.ireturn, 1) := by decide +kernel
theorem dX9_clear_0 : decode cX9_clear 0 = .ok (.aload_n 0, 1) := by decide +kernel
theorem dX9_clear_1 : decode cX9_clear 1 = .ok (.invokevirtual 59, 3) := by decide +kernel
theorem dX9_clear_4 : decode cX9_clear 4 = .ok (.aload_n 0, 1) := by decide +kernel
theorem dX9_clear_5 : decode cX9_clear 5 = .ok (.getfield 7, 3) := by decide +kernel
theorem dX9_clear_8 : decode cX9_clear 8 = .ok (.bipush 80, 2) := by decide +kernel
theorem dX9_clear_10 : decode cX9_clear 10 = .ok (.iaload, 1) := by decide +kernel
theorem dX9_clear_11 : decode cX9_clear 11 = .ok (.istore_n 1, 1) := by decide +kernel
theorem dX9_clear_12 : decode cX9_clear 12 = .ok (.aload_n 0, 1) := by decide +kernel
theorem dX9_clear_13 : decode cX9_clear 13 = .ok (.getfield 7, 3) := by decide +kernel
theorem dX9_clear_16 : decode cX9_clear 16 = .ok (.bipush 80, 2) := by decide +kernel
theorem dX9_clear_18 : decode cX9_clear 18 = .ok (.iconst 0, 1) := by decide +kernel
theorem dX9_clear_19 : decode cX9_clear 19 = .ok (.iastore, 1) := by decide +kernel
theorem dX9_clear_20 : decode cX9_clear 20 = .ok (.aload_n 0, 1) := by decide +kernel
theorem dX9_clear_21 : decode cX9_clear 21 = .ok (.getfield 7, 3) := by decide +kernel
theorem dX9_clear_24 : decode cX9_clear 24 = .ok (.bipush 81, 2) := by decide +kernel
theorem dX9_clear_26 : decode cX9_clear 26 = .ok (.iconst 0, 1) := by decide +kernel
theorem dX9_clear_27 : decode cX9_clear 27 = .ok (.iastore, 1) := by decide +kernel
theorem dX9_clear_28 : decode cX9_clear 28 = .ok (.iload_n 1, 1) := by decide +kernel
theorem dX9_clear_29 : decode cX9_clear 29 = .ok (.ireturn, 1) := by decide +kernel
theorem dX9_type_0 : decode cX9_type 0 = .ok (.iload_n 1, 1) := by decide +kernel
theorem dX9_type_1 : decode cX9_type 1 = .ok (.iconst 0, 1) := by decide +kernel
theorem dX9_type_2 : decode cX9_type 2 = .ok (.bipush 127, 2) := by decide +kernel
theorem dX9_type_4 : decode cX9_type 4 = .ok (.invokestatic 38, 3) := by decide +kernel
theorem dX9_type_7 : decode cX9_type 7 = .ok (.ifCond .ne 6, 3) := by decide +kernel
theorem dX9_type_10 : decode cX9_type 10 = .ok (.bipush (-2), 2) := by decide +kernel
theorem dX9_type_12 : decode cX9_type 12 = .ok (.ireturn, 1) := by decide +kernel
theorem dX9_type_13 : decode cX9_type 13 = .ok (.aload_n 0, 1) := by decide +kernel
theorem dX9_type_14 : decode cX9_type 14 = .ok (.getfield 70, 3) := by decide +kernel
theorem dX9_type_17 : decode cX9_type 17 = .ok (.bipush 110, 2) := by decide +kernel
theorem dX9_type_19 : decode cX9_type 19 = .ok (.if_icmp .ne 6, 3) := by decide +kernel
theorem dX9_type_22 : decode cX9_type 22 = .ok (.bipush (-4), 2) := by decide +kernel
theorem dX9_type_24 : decode cX9_type 24 = .ok (.ireturn, 1) := by decide +kernel
theorem dX9_type_25 : decode cX9_type 25 = .ok (.aload_n 0, 1) := by decide +kernel
theorem dX9_type_26 : decode cX9_type 26 = .ok (.getfield 20, 3) := by decide +kernel
theorem dX9_type_29 : decode cX9_type 29 = .ok (.aload_n 0, 1) := by decide +kernel
theorem dX9_type_30 : decode cX9_type 30 = .ok (.getfield 70, 3) := by decide +kernel
theorem dX9_type_33 : decode cX9_type 33 = .ok (.iload_n 1, 1) := by decide +kernel
theorem dX9_type_34 : decode cX9_type 34 = .ok (.iastore, 1) := by decide +kernel
theorem dX9_type_35 : decode cX9_type 35 = .ok (.aload_n 0, 1) := by decide +kernel
theorem dX9_type_36 : decode cX9_type 36 = .ok (.dup, 1) := by decide +kernel
theorem dX9_type_37 : decode cX9_type 37 = .ok (.getfield 70, 3) := by decide +kernel
theorem dX9_type_40 : decode cX9_type 40 = .ok (.iconst 1, 1) := by decide +kernel
theorem dX9_type_41 : decode cX9_type 41 = .ok (.iadd, 1) := by decide +kernel
theorem dX9_type_42 : decode cX9_type 42 = .ok (.putfield 70, 3) := by decide +kernel
theorem dX9_type_45 : decode cX9_type 45 = .ok (.aload_n 0, 1) := by decide +kernel
theorem dX9_type_46 : decode cX9_type 46 = .ok (.getfield 70, 3) := by decide +kernel
theorem dX9_type_49 : decode cX9_type 49 = .ok (.ireturn, 1) := by decide +kernel
theorem dX9_clearText_0 : decode cX9_clearText 0 = .ok (.aload_n 0, 1) := by decide +kernel
theorem dX9_clearText_1 : decode cX9_clearText 1 = .ok (.getfield 70, 3) := by decide +kernel
theorem dX9_clearText_4 : decode cX9_clearText 4 = .ok (.istore_n 1, 1) := by decide +kernel
theorem dX9_clearText_5 : decode cX9_clearText 5 = .ok (.aload_n 0, 1) := by decide +kernel
theorem dX9_clearText_6 : decode cX9_clearText 6 = .ok (.iconst 0, 1) := by decide +kernel
theorem dX9_clearText_7 : decode cX9_clearText 7 = .ok (.putfield 70, 3) := by decide +kernel
theorem dX9_clearText_10 : decode cX9_clearText 10 = .ok (.iload_n 1, 1) := by decide +kernel
theorem dX9_clearText_11 : decode cX9_clearText 11 = .ok (.ireturn, 1) := by decide +kernel
theorem dX9_next_0 : decode cX9_next 0 = .ok (.aload_n 0, 1) := by decide +kernel
theorem dX9_next_1 : decode cX9_next 1 = .ok (.getfield 73, 3) := by decide +kernel
theorem dX9_next_4 : decode cX9_next 4 = .ok (.aload_n 0, 1) := by decide +kernel
theorem dX9_next_5 : decode cX9_next 5 = .ok (.getfield 70, 3) := by decide +kernel
theorem dX9_next_8 : decode cX9_next 8 = .ok (.if_icmp .ge 15, 3) := by decide +kernel
theorem dX9_next_11 : decode cX9_next 11 = .ok (.aload_n 0, 1) := by decide +kernel
theorem dX9_next_12 : decode cX9_next 12 = .ok (.getfield 20, 3) := by decide +kernel
theorem dX9_next_15 : decode cX9_next 15 = .ok (.aload_n 0, 1) := by decide +kernel
theorem dX9_next_16 : decode cX9_next 16 = .ok (.getfield 73, 3) := by decide +kernel
theorem dX9_next_19 : decode cX9_next 19 = .ok (.iaload, 1) := by decide +kernel
theorem dX9_next_20 : decode cX9_next 20 = .ok (.goto 4, 3) := by decide +kernel
theorem dX9_next_23 : decode cX9_next 23 = .ok (.iconst (-1), 1) := by decide +kernel
theorem dX9_next_24 : decode cX9_next 24 = .ok (.ireturn, 1) := by decide +kernel
theorem dX9_passes_0 : decode cX9_passes 0 = .ok (.aload_n 0, 1) := by decide +kernel
theorem dX9_passes_1 : decode cX9_passes 1 = .ok (.dup, 1) := by decide +kernel
theorem dX9_passes_2 : decode cX9_passes 2 = .ok (.getfield 73, 3) := by decide +kernel
theorem dX9_passes_5 : decode cX9_passes 5 = .ok (.iconst 1, 1) := by decide +kernel
theorem dX9_passes_6 : decode cX9_passes 6 = .ok (.iadd, 1) := by decide +kernel
theorem dX9_passes_7 : decode cX9_passes 7 = .ok (.putfield 73, 3) := by decide +kernel
theorem dX9_passes_10 : decode cX9_passes 10 = .ok (.aload_n 0, 1) := by decide +kernel
theorem dX9_passes_11 : decode cX9_passes 11 = .ok (.invokevirtual 76, 3) := by decide +kernel
theorem dX9_passes_14 : decode cX9_passes 14 = .ok (.return_, 1) := by decide +kernel
theorem dX9_blanks_0 : decode cX9_blanks 0 = .ok (.aload_n 0, 1) := by decide +kernel
theorem dX9_blanks_1 : decode cX9_blanks 1 = .ok (.invokevirtual 79, 3) := by decide +kernel
theorem dX9_blanks_4 : decode cX9_blanks 4 = .ok (.bipush 32, 2) := by decide +kernel
theorem dX9_blanks_6 : decode cX9_blanks 6 = .ok (.if_icmp .ne 16, 3) := by decide +kernel
theorem dX9_blanks_9 : decode cX9_blanks 9 = .ok (.aload_n 0, 1) := by decide +kernel
theorem dX9_blanks_10 : decode cX9_blanks 10 = .ok (.dup, 1) := by decide +kernel
theorem dX9_blanks_11 : decode cX9_blanks 11 = .ok (.getfield 73, 3) := by decide +kernel
theorem dX9_blanks_14 : decode cX9_blanks 14 = .ok (.iconst 1, 1) := by decide +kernel
theorem dX9_blanks_15 : decode cX9_blanks 15 = .ok (.iadd, 1) := by decide +kernel
theorem dX9_blanks_16 : decode cX9_blanks 16 = .ok (.putfield 73, 3) := by decide +kernel
theorem dX9_blanks_19 : decode cX9_blanks 19 = .ok (.goto (-19), 3) := by decide +kernel
theorem dX9_blanks_22 : decode cX9_blanks 22 = .ok (.return_, 1) := by decide +kernel
theorem dX9_node_0 : decode cX9_node 0 = .ok (.aload_n 0, 1) := by decide +kernel
theorem dX9_node_1 : decode cX9_node 1 = .ok (.invokevirtual 79, 3) := by decide +kernel
theorem dX9_node_4 : decode cX9_node 4 = .ok (.bipush 97, 2) := by decide +kernel
theorem dX9_node_6 : decode cX9_node 6 = .ok (.isub, 1) := by decide +kernel
theorem dX9_node_7 : decode cX9_node 7 = .ok (.istore_n 2, 1) := by decide +kernel
theorem dX9_node_8 : decode cX9_node 8 = .ok (.aload_n 0, 1) := by decide +kernel
theorem dX9_node_9 : decode cX9_node 9 = .ok (.aload_n 0, 1) := by decide +kernel
theorem dX9_node_10 : decode cX9_node 10 = .ok (.getfield 83, 3) := by decide +kernel
theorem dX9_node_13 : decode cX9_node 13 = .ok (.ifCond .eq 22, 3) := by decide +kernel
theorem dX9_node_16 : decode cX9_node 16 = .ok (.iload_n 2, 1) := by decide +kernel
theorem dX9_node_17 : decode cX9_node 17 = .ok (.iconst 0, 1) := by decide +kernel
theorem dX9_node_18 : decode cX9_node 18 = .ok (.bipush 7, 2) := by decide +kernel
theorem dX9_node_20 : decode cX9_node 20 = .ok (.invokestatic 38, 3) := by decide +kernel
theorem dX9_node_23 : decode cX9_node 23 = .ok (.ifCond .eq 12, 3) := by decide +kernel
theorem dX9_node_26 : decode cX9_node 26 = .ok (.iload_n 2, 1) := by decide +kernel
theorem dX9_node_27 : decode cX9_node 27 = .ok (.iload_n 1, 1) := by decide +kernel
theorem dX9_node_28 : decode cX9_node 28 = .ok (.if_icmp .eq 7, 3) := by decide +kernel
theorem dX9_node_31 : decode cX9_node 31 = .ok (.iconst 1, 1) := by decide +kernel
theorem dX9_node_32 : decode cX9_node 32 = .ok (.goto 4, 3) := by decide +kernel
theorem dX9_node_35 : decode cX9_node 35 = .ok (.iconst 0, 1) := by decide +kernel
theorem dX9_node_36 : decode cX9_node 36 = .ok (.putfield 83, 3) := by decide +kernel
theorem dX9_node_39 : decode cX9_node 39 = .ok (.aload_n 0, 1) := by decide +kernel
theorem dX9_node_40 : decode cX9_node 40 = .ok (.getfield 83, 3) := by decide +kernel
theorem dX9_node_43 : decode cX9_node 43 = .ok (.ifCond .eq 7, 3) := by decide +kernel
theorem dX9_node_46 : decode cX9_node 46 = .ok (.aload_n 0, 1) := by decide +kernel
theorem dX9_node_47 : decode cX9_node 47 = .ok (.invokevirtual 87, 3) := by decide +kernel
theorem dX9_node_50 : decode cX9_node 50 = .ok (.iload_n 2, 1) := by decide +kernel
theorem dX9_node_51 : decode cX9_node 51 = .ok (.ireturn, 1) := by decide +kernel
theorem dX9_isDigit_0 : decode cX9_isDigit 0 = .ok (.aload_n 0, 1) := by decide +kernel
theorem dX9_isDigit_1 : decode cX9_isDigit 1 = .ok (.invokevirtual 79, 3) := by decide +kernel
theorem dX9_isDigit_4 : decode cX9_isDigit 4 = .ok (.bipush 48, 2) := by decide +kernel
theorem dX9_isDigit_6 : decode cX9_isDigit 6 = .ok (.bipush 57, 2) := by decide +kernel
theorem dX9_isDigit_8 : decode cX9_isDigit 8 = .ok (.invokestatic 38, 3) := by decide +kernel
theorem dX9_isDigit_11 : decode cX9_isDigit 11 = .ok (.ireturn, 1) := by decide +kernel
theorem dX9_number_0 : decode cX9_number 0 = .ok (.aload_n 0, 1) := by decide +kernel
theorem dX9_number_1 : decode cX9_number 1 = .ok (.aload_n 0, 1) := by decide +kernel
theorem dX9_number_2 : decode cX9_number 2 = .ok (.getfield 83, 3) := by decide +kernel
theorem dX9_number_5 : decode cX9_number 5 = .ok (.ifCond .eq 14, 3) := by decide +kernel
theorem dX9_number_8 : decode cX9_number 8 = .ok (.aload_n 0, 1) := by decide +kernel
theorem dX9_number_9 : decode cX9_number 9 = .ok (.invokevirtual 90, 3) := by decide +kernel
theorem dX9_number_12 : decode cX9_number 12 = .ok (.ifCond .eq 7, 3) := by decide +kernel
theorem dX9_number_15 : decode cX9_number 15 = .ok (.iconst 1, 1) := by decide +kernel
theorem dX9_number_16 : decode cX9_number 16 = .ok (.goto 4, 3) := by decide +kernel
theorem dX9_number_19 : decode cX9_number 19 = .ok (.iconst 0, 1) := by decide +kernel
theorem dX9_number_20 : decode cX9_number 20 = .ok (.putfield 83, 3) := by decide +kernel
theorem dX9_number_23 : decode cX9_number 23 = .ok (.aload_n 0, 1) := by decide +kernel
theorem dX9_number_24 : decode cX9_number 24 = .ok (.getfield 83, 3) := by decide +kernel
theorem dX9_number_27 : decode cX9_number 27 = .ok (.ifCond .ne 5, 3) := by decide +kernel
theorem dX9_number_30 : decode cX9_number 30 = .ok (.iconst 0, 1) := by decide +kernel
theorem dX9_number_31 : decode cX9_number 31 = .ok (.ireturn, 1) := by decide +kernel
theorem dX9_number_32 : decode cX9_number 32 = .ok (.aload_n 0, 1) := by decide +kernel
theorem dX9_number_33 : decode cX9_number 33 = .ok (.invokevirtual 79, 3) := by decide +kernel
theorem dX9_number_36 : decode cX9_number 36 = .ok (.bipush 48, 2) := by decide +kernel
theorem dX9_number_38 : decode cX9_number 38 = .ok (.isub, 1) := by decide +kernel
theorem dX9_number_39 : decode cX9_number 39 = .ok (.istore_n 2, 1) := by decide +kernel
theorem dX9_number_40 : decode cX9_number 40 = .ok (.aload_n 0, 1) := by decide +kernel
theorem dX9_number_41 : decode cX9_number 41 = .ok (.dup, 1) := by decide +kernel
theorem dX9_number_42 : decode cX9_number 42 = .ok (.getfield 73, 3) := by decide +kernel
theorem dX9_number_45 : decode cX9_number 45 = .ok (.iconst 1, 1) := by decide +kernel
theorem dX9_number_46 : decode cX9_number 46 = .ok (.iadd, 1) := by decide +kernel
theorem dX9_number_47 : decode cX9_number 47 = .ok (.putfield 73, 3) := by decide +kernel
theorem dX9_number_50 : decode cX9_number 50 = .ok (.aload_n 0, 1) := by decide +kernel
theorem dX9_number_51 : decode cX9_number 51 = .ok (.invokevirtual 90, 3) := by decide +kernel
theorem dX9_number_54 : decode cX9_number 54 = .ok (.ifCond .eq 26, 3) := by decide +kernel
theorem dX9_number_57 : decode cX9_number 57 = .ok (.bipush 10, 2) := by decide +kernel
theorem dX9_number_59 : decode cX9_number 59 = .ok (.iload_n 2, 1) := by decide +kernel
theorem dX9_number_60 : decode cX9_number 60 = .ok (.imul, 1) := by decide +kernel
theorem dX9_number_61 : decode cX9_number 61 = .ok (.aload_n 0, 1) := by decide +kernel
theorem dX9_number_62 : decode cX9_number 62 = .ok (.invokevirtual 79, 3) := by decide +kernel
theorem dX9_number_65 : decode cX9_number 65 = .ok (.iadd, 1) := by decide +kernel
theorem dX9_number_66 : decode cX9_number 66 = .ok (.bipush 48, 2) := by decide +kernel
theorem dX9_number_68 : decode cX9_number 68 = .ok (.isub, 1) := by decide +kernel
theorem dX9_number_69 : decode cX9_number 69 = .ok (.istore_n 2, 1) := by decide +kernel
theorem dX9_number_70 : decode cX9_number 70 = .ok (.aload_n 0, 1) := by decide +kernel
theorem dX9_number_71 : decode cX9_number 71 = .ok (.dup, 1) := by decide +kernel
theorem dX9_number_72 : decode cX9_number 72 = .ok (.getfield 73, 3) := by decide +kernel
theorem dX9_number_75 : decode cX9_number 75 = .ok (.iconst 1, 1) := by decide +kernel
theorem dX9_number_76 : decode cX9_number 76 = .ok (.iadd, 1) := by decide +kernel
theorem dX9_number_77 : decode cX9_number 77 = .ok (.putfield 73, 3) := by decide +kernel
theorem dX9_number_80 : decode cX9_number 80 = .ok (.iload_n 1, 1) := by decide +kernel
theorem dX9_number_81 : decode cX9_number 81 = .ok (.ifCond .eq 24, 3) := by decide +kernel
theorem dX9_number_84 : decode cX9_number 84 = .ok (.iload_n 2, 1) := by decide +kernel
theorem dX9_number_85 : decode cX9_number 85 = .ok (.ifCond .ne 20, 3) := by decide +kernel
theorem dX9_number_88 : decode cX9_number 88 = .ok (.aload_n 0, 1) := by decide +kernel
theorem dX9_number_89 : decode cX9_number 89 = .ok (.dup, 1) := by decide +kernel
theorem dX9_number_90 : decode cX9_number 90 = .ok (.getfield 73, 3) := by decide +kernel
theorem dX9_number_93 : decode cX9_number 93 = .ok (.iconst 1, 1) := by decide +kernel
theorem dX9_number_94 : decode cX9_number 94 = .ok (.isub, 1) := by decide +kernel
theorem dX9_number_95 : decode cX9_number 95 = .ok (.putfield 73, 3) := by decide +kernel
theorem dX9_number_98 : decode cX9_number 98 = .ok (.aload_n 0, 1) := by decide +kernel
theorem dX9_number_99 : decode cX9_number 99 = .ok (.iconst 0, 1) := by decide +kernel
theorem dX9_number_100 : decode cX9_number 100 = .ok (.putfield 83, 3) := by decide +kernel
theorem dX9_number_103 : decode cX9_number 103 = .ok (.iconst 0, 1) := by decide +kernel
theorem dX9_number_104 : decode cX9_number 104 = .ok (.ireturn, 1) := by decide +kernel
theorem dX9_number_105 : decode cX9_number 105 = .ok (.aload_n 0, 1) := by decide +kernel
theorem dX9_number_106 : decode cX9_number 106 = .ok (.invokevirtual 76, 3) := by decide +kernel
theorem dX9_number_109 : decode cX9_number 109 = .ok (.iload_n 2, 1) := by decide +kernel
theorem dX9_number_110 : decode cX9_number 110 = .ok (.ireturn, 1) := by decide +kernel
theorem dX9_sign_0 : decode cX9_sign 0 = .ok (.aload_n 0, 1) := by decide +kernel
theorem dX9_sign_1 : decode cX9_sign 1 = .ok (.aload_n 0, 1) := by decide +kernel
theorem dX9_sign_2 : decode cX9_sign 2 = .ok (.getfield 83, 3) := by decide +kernel
theorem dX9_sign_5 : decode cX9_sign 5 = .ok (.ifCond .eq 15, 3) := by decide +kernel
theorem dX9_sign_8 : decode cX9_sign 8 = .ok (.aload_n 0, 1) := by decide +kernel
theorem dX9_sign_9 : decode cX9_sign 9 = .ok (.invokevirtual 79, 3) := by decide +kernel
theorem dX9_sign_12 : decode cX9_sign 12 = .ok (.iload_n 1, 1) := by decide +kernel
theorem dX9_sign_13 : decode cX9_sign 13 = .ok (.if_icmp .ne 7, 3) := by decide +kernel
theorem dX9_sign_16 : decode cX9_sign 16 = .ok (.iconst 1, 1) := by decide +kernel
theorem dX9_sign_17 : decode cX9_sign 17 = .ok (.goto 4, 3) := by decide +kernel
theorem dX9_sign_20 : decode cX9_sign 20 = .ok (.iconst 0, 1) := by decide +kernel
theorem dX9_sign_21 : decode cX9_sign 21 = .ok (.putfield 83, 3) := by decide +kernel
theorem dX9_sign_24 : decode cX9_sign 24 = .ok (.aload_n 0, 1) := by decide +kernel
theorem dX9_sign_25 : decode cX9_sign 25 = .ok (.getfield 83, 3) := by decide +kernel
theorem dX9_sign_28 : decode cX9_sign 28 = .ok (.ifCond .eq 7, 3) := by decide +kernel
theorem dX9_sign_31 : decode cX9_sign 31 = .ok (.aload_n 0, 1) := by decide +kernel
theorem dX9_sign_32 : decode cX9_sign 32 = .ok (.invokevirtual 87, 3) := by decide +kernel
theorem dX9_sign_35 : decode cX9_sign 35 = .ok (.return_, 1) := by decide +kernel
theorem dX9_delay_0 : decode cX9_delay 0 = .ok (.aload_n 0, 1) := by decide +kernel
theorem dX9_delay_1 : decode cX9_delay 1 = .ok (.getfield 83, 3) := by decide +kernel
theorem dX9_delay_4 : decode cX9_delay 4 = .ok (.ifCond .eq 19, 3) := by decide +kernel
theorem dX9_delay_7 : decode cX9_delay 7 = .ok (.aload_n 0, 1) := by decide +kernel
theorem dX9_delay_8 : decode cX9_delay 8 = .ok (.invokevirtual 79, 3) := by decide +kernel
theorem dX9_delay_11 : decode cX9_delay 11 = .ok (.bipush 120, 2) := by decide +kernel
theorem dX9_delay_13 : decode cX9_delay 13 = .ok (.if_icmp .ne 10, 3) := by decide +kernel
theorem dX9_delay_16 : decode cX9_delay 16 = .ok (.aload_n 0, 1) := by decide +kernel
theorem dX9_delay_17 : decode cX9_delay 17 = .ok (.invokevirtual 87, 3) := by decide +kernel
theorem dX9_delay_20 : decode cX9_delay 20 = .ok (.bipush 100, 2) := by decide +kernel
theorem dX9_delay_22 : decode cX9_delay 22 = .ok (.ireturn, 1) := by decide +kernel
theorem dX9_delay_23 : decode cX9_delay 23 = .ok (.aload_n 0, 1) := by decide +kernel
theorem dX9_delay_24 : decode cX9_delay 24 = .ok (.iconst 1, 1) := by decide +kernel
theorem dX9_delay_25 : decode cX9_delay 25 = .ok (.invokevirtual 94, 3) := by decide +kernel
theorem dX9_delay_28 : decode cX9_delay 28 = .ok (.ireturn, 1) := by decide +kernel
theorem dX9_digit_0 : decode cX9_digit 0 = .ok (.aload_n 0, 1) := by decide +kernel
theorem dX9_digit_1 : decode cX9_digit 1 = .ok (.invokevirtual 79, 3) := by decide +kernel
theorem dX9_digit_4 : decode cX9_digit 4 = .ok (.bipush 48, 2) := by decide +kernel
theorem dX9_digit_6 : decode cX9_digit 6 = .ok (.isub, 1) := by decide +kernel
theorem dX9_digit_7 : decode cX9_digit 7 = .ok (.istore_n 1, 1) := by decide +kernel
theorem dX9_digit_8 : decode cX9_digit 8 = .ok (.aload_n 0, 1) := by decide +kernel
theorem dX9_digit_9 : decode cX9_digit 9 = .ok (.aload_n 0, 1) := by decide +kernel
theorem dX9_digit_10 : decode cX9_digit 10 = .ok (.getfield 83, 3) := by decide +kernel
theorem dX9_digit_13 : decode cX9_digit 13 = .ok (.ifCond .eq 17, 3) := by decide +kernel
theorem dX9_digit_16 : decode cX9_digit 16 = .ok (.iload_n 1, 1) := by decide +kernel
theorem dX9_digit_17 : decode cX9_digit 17 = .ok (.iconst 1, 1) := by decide +kernel
theorem dX9_digit_18 : decode cX9_digit 18 = .ok (.bipush 9, 2) := by decide +kernel
theorem dX9_digit_20 : decode cX9_digit 20 = .ok (.invokestatic 38, 3) := by decide +kernel
theorem dX9_digit_23 : decode cX9_digit 23 = .ok (.ifCond .eq 7, 3) := by decide +kernel
theorem dX9_digit_26 : decode cX9_digit 26 = .ok (.iconst 1, 1) := by decide +kernel
theorem dX9_digit_27 : decode cX9_digit 27 = .ok (.goto 4, 3) := by decide +kernel
theorem dX9_digit_30 : decode cX9_digit 30 = .ok (.iconst 0, 1) := by decide +kernel
theorem dX9_digit_31 : decode cX9_digit 31 = .ok (.putfield 83, 3) := by decide +kernel
theorem dX9_digit_34 : decode cX9_digit 34 = .ok (.aload_n 0, 1) := by decide +kernel
theorem dX9_digit_35 : decode cX9_digit 35 = .ok (.getfield 83, 3) := by decide +kernel
theorem dX9_digit_38 : decode cX9_digit 38 = .ok (.ifCond .eq 7, 3) := by decide +kernel
theorem dX9_digit_41 : decode cX9_digit 41 = .ok (.aload_n 0, 1) := by decide +kernel
theorem dX9_digit_42 : decode cX9_digit 42 = .ok (.invokevirtual 87, 3) := by decide +kernel
theorem dX9_digit_45 : decode cX9_digit 45 = .ok (.iload_n 1, 1) := by decide +kernel
theorem dX9_digit_46 : decode cX9_digit 46 = .ok (.ireturn, 1) := by decide +kernel
theorem dX9_fault_0 : decode cX9_fault 0 = .ok (.aload_n 0, 1) := by decide +kernel
theorem dX9_fault_1 : decode cX9_fault 1 = .ok (.iconst 0, 1) := by decide +kernel
theorem dX9_fault_2 : decode cX9_fault 2 = .ok (.putfield 73, 3) := by decide +kernel
theorem dX9_fault_5 : decode cX9_fault 5 = .ok (.aload_n 0, 1) := by decide +kernel
theorem dX9_fault_6 : decode cX9_fault 6 = .ok (.iconst 0, 1) := by decide +kernel
theorem dX9_fault_7 : decode cX9_fault 7 = .ok (.putfield 98, 3) := by decide +kernel
theorem dX9_fault_10 : decode cX9_fault 10 = .ok (.aload_n 0, 1) := by decide +kernel
theorem dX9_fault_11 : decode cX9_fault 11 = .ok (.iconst 1, 1) := by decide +kernel
theorem dX9_fault_12 : decode cX9_fault 12 = .ok (.putfield 83, 3) := by decide +kernel
theorem dX9_fault_15 : decode cX9_fault 15 = .ok (.aload_n 0, 1) := by decide +kernel
theorem dX9_fault_16 : decode cX9_fault 16 = .ok (.invokevirtual 76, 3) := by decide +kernel
theorem dX9_fault_19 : decode cX9_fault 19 = .ok (.aload_n 0, 1) := by decide +kernel
theorem dX9_fault_20 : decode cX9_fault 20 = .ok (.getfield 83, 3) := by decide +kernel
theorem dX9_fault_23 : decode cX9_fault 23 = .ok (.ifCond .eq 160, 3) := by decide +kernel
theorem dX9_fault_26 : decode cX9_fault 26 = .ok (.aload_n 0, 1) := by decide +kernel
theorem dX9_fault_27 : decode cX9_fault 27 = .ok (.getfield 73, 3) := by decide +kernel
theorem dX9_fault_30 : decode cX9_fault 30 = .ok (.aload_n 0, 1) := by decide +kernel
theorem dX9_fault_31 : decode cX9_fault 31 = .ok (.getfield 70, 3) := by decide +kernel
theorem dX9_fault_34 : decode cX9_fault 34 = .ok (.if_icmp .ge 149, 3) := by decide +kernel
theorem dX9_fault_37 : decode cX9_fault 37 = .ok (.aload_n 0, 1) := by decide +kernel
theorem dX9_fault_38 : decode cX9_fault 38 = .ok (.aload_n 0, 1) := by decide +kernel
theorem dX9_fault_39 : decode cX9_fault 39 = .ok (.getfield 98, 3) := by decide +kernel
theorem dX9_fault_42 : decode cX9_fault 42 = .ok (.bipush 16, 2) := by decide +kernel
theorem dX9_fault_44 : decode cX9_fault 44 = .ok (.if_icmp .ge 7, 3) := by decide +kernel
theorem dX9_fault_47 : decode cX9_fault 47 = .ok (.iconst 1, 1) := by decide +kernel
theorem dX9_fault_48 : decode cX9_fault 48 = .ok (.goto 4, 3) := by decide +kernel
theorem dX9_fault_51 : decode cX9_fault 51 = .ok (.iconst 0, 1) := by decide +kernel
theorem dX9_fault_52 : decode cX9_fault 52 = .ok (.putfield 83, 3) := by decide +kernel
theorem dX9_fault_55 : decode cX9_fault 55 = .ok (.aload_n 0, 1) := by decide +kernel
theorem dX9_fault_56 : decode cX9_fault 56 = .ok (.getfield 83, 3) := by decide +kernel
theorem dX9_fault_59 : decode cX9_fault 59 = .ok (.ifCond .eq (-40), 3) := by decide +kernel
theorem dX9_fault_62 : decode cX9_fault 62 = .ok (.aload_n 0, 1) := by decide +kernel
theorem dX9_fault_63 : decode cX9_fault 63 = .ok (.getfield 23, 3) := by decide +kernel
theorem dX9_fault_66 : decode cX9_fault 66 = .ok (.iconst 5, 1) := by decide +kernel
theorem dX9_fault_67 : decode cX9_fault 67 = .ok (.aload_n 0, 1) := by decide +kernel
theorem dX9_fault_68 : decode cX9_fault 68 = .ok (.getfield 98, 3) := by decide +kernel
theorem dX9_fault_71 : decode cX9_fault 71 = .ok (.imul, 1) := by decide +kernel
theorem dX9_fault_72 : decode cX9_fault 72 = .ok (.aload_n 0, 1) := by decide +kernel
theorem dX9_fault_73 : decode cX9_fault 73 = .ok (.iconst (-1), 1) := by decide +kernel
theorem dX9_fault_74 : decode cX9_fault 74 = .ok (.invokevirtual 101, 3) := by decide +kernel
theorem dX9_fault_77 : decode cX9_fault 77 = .ok (.iastore, 1) := by decide +kernel
theorem dX9_fault_78 : decode cX9_fault 78 = .ok (.aload_n 0, 1) := by decide +kernel
theorem dX9_fault_79 : decode cX9_fault 79 = .ok (.getfield 23, 3) := by decide +kernel
theorem dX9_fault_82 : decode cX9_fault 82 = .ok (.iconst 5, 1) := by decide +kernel
theorem dX9_fault_83 : decode cX9_fault 83 = .ok (.aload_n 0, 1) := by decide +kernel
theorem dX9_fault_84 : decode cX9_fault 84 = .ok (.getfield 98, 3) := by decide +kernel
theorem dX9_fault_87 : decode cX9_fault 87 = .ok (.imul, 1) := by decide +kernel
theorem dX9_fault_88 : decode cX9_fault 88 = .ok (.iconst 1, 1) := by decide +kernel
theorem dX9_fault_89 : decode cX9_fault 89 = .ok (.iadd, 1) := by decide +kernel
theorem dX9_fault_90 : decode cX9_fault 90 = .ok (.aload_n 0, 1) := by decide +kernel
theorem dX9_fault_91 : decode cX9_fault 91 = .ok (.aload_n 0, 1) := by decide +kernel
theorem dX9_fault_92 : decode cX9_fault 92 = .ok (.getfield 23, 3) := by decide +kernel
theorem dX9_fault_95 : decode cX9_fault 95 = .ok (.iconst 5, 1) := by decide +kernel
theorem dX9_fault_96 : decode cX9_fault 96 = .ok (.aload_n 0, 1) := by decide +kernel
theorem dX9_fault_97 : decode cX9_fault 97 = .ok (.getfield 98, 3) := by decide +kernel
theorem dX9_fault_100 : decode cX9_fault 100 = .ok (.imul, 1) := by decide +kernel
theorem dX9_fault_101 : decode cX9_fault 101 = .ok (.iaload, 1) := by decide +kernel
theorem dX9_fault_102 : decode cX9_fault 102 = .ok (.invokevirtual 101, 3) := by decide +kernel
theorem dX9_fault_105 : decode cX9_fault 105 = .ok (.iastore, 1) := by decide +kernel
theorem dX9_fault_106 : decode cX9_fault 106 = .ok (.aload_n 0, 1) := by decide +kernel
theorem dX9_fault_107 : decode cX9_fault 107 = .ok (.getfield 23, 3) := by decide +kernel
theorem dX9_fault_110 : decode cX9_fault 110 = .ok (.iconst 5, 1) := by decide +kernel
theorem dX9_fault_111 : decode cX9_fault 111 = .ok (.aload_n 0, 1) := by decide +kernel
theorem dX9_fault_112 : decode cX9_fault 112 = .ok (.getfield 98, 3) := by decide +kernel
theorem dX9_fault_115 : decode cX9_fault 115 = .ok (.imul, 1) := by decide +kernel
theorem dX9_fault_116 : decode cX9_fault 116 = .ok (.iconst 2, 1) := by decide +kernel
theorem dX9_fault_117 : decode cX9_fault 117 = .ok (.iadd, 1) := by decide +kernel
theorem dX9_fault_118 : decode cX9_fault 118 = .ok (.aload_n 0, 1) := by decide +kernel
theorem dX9_fault_119 : decode cX9_fault 119 = .ok (.iconst 0, 1) := by decide +kernel
theorem dX9_fault_120 : decode cX9_fault 120 = .ok (.invokevirtual 94, 3) := by decide +kernel
theorem dX9_fault_123 : decode cX9_fault 123 = .ok (.iastore, 1) := by decide +kernel
theorem dX9_fault_124 : decode cX9_fault 124 = .ok (.aload_n 0, 1) := by decide +kernel
theorem dX9_fault_125 : decode cX9_fault 125 = .ok (.bipush 43, 2) := by decide +kernel
theorem dX9_fault_127 : decode cX9_fault 127 = .ok (.invokevirtual 105, 3) := by decide +kernel
theorem dX9_fault_130 : decode cX9_fault 130 = .ok (.aload_n 0, 1) := by decide +kernel
theorem dX9_fault_131 : decode cX9_fault 131 = .ok (.getfield 23, 3) := by decide +kernel
theorem dX9_fault_134 : decode cX9_fault 134 = .ok (.iconst 5, 1) := by decide +kernel
theorem dX9_fault_135 : decode cX9_fault 135 = .ok (.aload_n 0, 1) := by decide +kernel
theorem dX9_fault_136 : decode cX9_fault 136 = .ok (.getfield 98, 3) := by decide +kernel
theorem dX9_fault_139 : decode cX9_fault 139 = .ok (.imul, 1) := by decide +kernel
theorem dX9_fault_140 : decode cX9_fault 140 = .ok (.iconst 3, 1) := by decide +kernel
theorem dX9_fault_141 : decode cX9_fault 141 = .ok (.iadd, 1) := by decide +kernel
theorem dX9_fault_142 : decode cX9_fault 142 = .ok (.aload_n 0, 1) := by decide +kernel
theorem dX9_fault_143 : decode cX9_fault 143 = .ok (.invokevirtual 109, 3) := by decide +kernel
theorem dX9_fault_146 : decode cX9_fault 146 = .ok (.iastore, 1) := by decide +kernel
theorem dX9_fault_147 : decode cX9_fault 147 = .ok (.aload_n 0, 1) := by decide +kernel
theorem dX9_fault_148 : decode cX9_fault 148 = .ok (.bipush 58, 2) := by decide +kernel
theorem dX9_fault_150 : decode cX9_fault 150 = .ok (.invokevirtual 105, 3) := by decide +kernel
theorem dX9_fault_153 : decode cX9_fault 153 = .ok (.aload_n 0, 1) := by decide +kernel
theorem dX9_fault_154 : decode cX9_fault 154 = .ok (.getfield 23, 3) := by decide +kernel
theorem dX9_fault_157 : decode cX9_fault 157 = .ok (.iconst 5, 1) := by decide +kernel
theorem dX9_fault_158 : decode cX9_fault 158 = .ok (.aload_n 0, 1) := by decide +kernel
theorem dX9_fault_159 : decode cX9_fault 159 = .ok (.getfield 98, 3) := by decide +kernel
theorem dX9_fault_162 : decode cX9_fault 162 = .ok (.imul, 1) := by decide +kernel
theorem dX9_fault_163 : decode cX9_fault 163 = .ok (.iconst 4, 1) := by decide +kernel
theorem dX9_fault_164 : decode cX9_fault 164 = .ok (.iadd, 1) := by decide +kernel
theorem dX9_fault_165 : decode cX9_fault 165 = .ok (.aload_n 0, 1) := by decide +kernel
theorem dX9_fault_166 : decode cX9_fault 166 = .ok (.invokevirtual 112, 3) := by decide +kernel
theorem dX9_fault_169 : decode cX9_fault 169 = .ok (.iastore, 1) := by decide +kernel
theorem dX9_fault_170 : decode cX9_fault 170 = .ok (.aload_n 0, 1) := by decide +kernel
theorem dX9_fault_171 : decode cX9_fault 171 = .ok (.dup, 1) := by decide +kernel
theorem dX9_fault_172 : decode cX9_fault 172 = .ok (.getfield 98, 3) := by decide +kernel
theorem dX9_fault_175 : decode cX9_fault 175 = .ok (.iconst 1, 1) := by decide +kernel
theorem dX9_fault_176 : decode cX9_fault 176 = .ok (.iadd, 1) := by decide +kernel
theorem dX9_fault_177 : decode cX9_fault 177 = .ok (.putfield 98, 3) := by decide +kernel
theorem dX9_fault_180 : decode cX9_fault 180 = .ok (.goto (-161), 3) := by decide +kernel
theorem dX9_fault_183 : decode cX9_fault 183 = .ok (.aload_n 0, 1) := by decide +kernel
theorem dX9_fault_184 : decode cX9_fault 184 = .ok (.getfield 83, 3) := by decide +kernel
theorem dX9_fault_187 : decode cX9_fault 187 = .ok (.ifCond .eq 7, 3) := by decide +kernel
theorem dX9_fault_190 : decode cX9_fault 190 = .ok (.iconst (-1), 1) := by decide +kernel
theorem dX9_fault_191 : decode cX9_fault 191 = .ok (.goto 7, 3) := by decide +kernel
theorem dX9_fault_194 : decode cX9_fault 194 = .ok (.aload_n 0, 1) := by decide +kernel
theorem dX9_fault_195 : decode cX9_fault 195 = .ok (.getfield 73, 3) := by decide +kernel
theorem dX9_fault_198 : decode cX9_fault 198 = .ok (.ireturn, 1) := by decide +kernel
theorem dX9_load_0 : decode cX9_load 0 = .ok (.aload_n 0, 1) := by decide +kernel
theorem dX9_load_1 : decode cX9_load 1 = .ok (.invokevirtual 115, 3) := by decide +kernel
theorem dX9_load_4 : decode cX9_load 4 = .ok (.iconst (-1), 1) := by decide +kernel
theorem dX9_load_5 : decode cX9_load 5 = .ok (.if_icmp .eq 6, 3) := by decide +kernel
theorem dX9_load_8 : decode cX9_load 8 = .ok (.bipush (-3), 2) := by decide +kernel
theorem dX9_load_10 : decode cX9_load 10 = .ok (.ireturn, 1) := by decide +kernel
theorem dX9_load_11 : decode cX9_load 11 = .ok (.aload_n 0, 1) := by decide +kernel
theorem dX9_load_12 : decode cX9_load 12 = .ok (.invokevirtual 59, 3) := by decide +kernel
theorem dX9_load_15 : decode cX9_load 15 = .ok (.iconst 0, 1) := by decide +kernel
theorem dX9_load_16 : decode cX9_load 16 = .ok (.istore_n 1, 1) := by decide +kernel
theorem dX9_load_17 : decode cX9_load 17 = .ok (.iload_n 1, 1) := by decide +kernel
theorem dX9_load_18 : decode cX9_load 18 = .ok (.iconst 5, 1) := by decide +kernel
theorem dX9_load_19 : decode cX9_load 19 = .ok (.aload_n 0, 1) := by decide +kernel
theorem dX9_load_20 : decode cX9_load 20 = .ok (.getfield 98, 3) := by decide +kernel
theorem dX9_load_23 : decode cX9_load 23 = .ok (.imul, 1) := by decide +kernel
theorem dX9_load_24 : decode cX9_load 24 = .ok (.if_icmp .ge 21, 3) := by decide +kernel
theorem dX9_load_27 : decode cX9_load 27 = .ok (.aload_n 0, 1) := by decide +kernel
theorem dX9_load_28 : decode cX9_load 28 = .ok (.getfield 7, 3) := by decide +kernel
theorem dX9_load_31 : decode cX9_load 31 = .ok (.iload_n 1, 1) := by decide +kernel
theorem dX9_load_32 : decode cX9_load 32 = .ok (.aload_n 0, 1) := by decide +kernel
theorem dX9_load_33 : decode cX9_load 33 = .ok (.getfield 23, 3) := by decide +kernel
theorem dX9_load_36 : decode cX9_load 36 = .ok (.iload_n 1, 1) := by decide +kernel
theorem dX9_load_37 : decode cX9_load 37 = .ok (.iaload, 1) := by decide +kernel
theorem dX9_load_38 : decode cX9_load 38 = .ok (.iastore, 1) := by decide +kernel
theorem dX9_load_39 : decode cX9_load 39 = .ok (.iinc 1 1, 3) := by decide +kernel
theorem dX9_load_42 : decode cX9_load 42 = .ok (.goto (-25), 3) := by decide +kernel
theorem dX9_load_45 : decode cX9_load 45 = .ok (.aload_n 0, 1) := by decide +kernel
theorem dX9_load_46 : decode cX9_load 46 = .ok (.getfield 7, 3) := by decide +kernel
theorem dX9_load_49 : decode cX9_load 49 = .ok (.bipush 80, 2) := by decide +kernel
theorem dX9_load_51 : decode cX9_load 51 = .ok (.aload_n 0, 1) := by decide +kernel
theorem dX9_load_52 : decode cX9_load 52 = .ok (.getfield 98, 3) := by decide +kernel
theorem dX9_load_55 : decode cX9_load 55 = .ok (.iastore, 1) := by decide +kernel
theorem dX9_load_56 : decode cX9_load 56 = .ok (.aload_n 0, 1) := by decide +kernel
theorem dX9_load_57 : decode cX9_load 57 = .ok (.getfield 7, 3) := by decide +kernel
theorem dX9_load_60 : decode cX9_load 60 = .ok (.bipush 81, 2) := by decide +kernel
theorem dX9_load_62 : decode cX9_load 62 = .ok (.iconst 0, 1) := by decide +kernel
theorem dX9_load_63 : decode cX9_load 63 = .ok (.iastore, 1) := by decide +kernel
theorem dX9_load_64 : decode cX9_load 64 = .ok (.aload_n 0, 1) := by decide +kernel
theorem dX9_load_65 : decode cX9_load 65 = .ok (.iconst 0, 1) := by decide +kernel
theorem dX9_load_66 : decode cX9_load 66 = .ok (.putfield 70, 3) := by decide +kernel
theorem dX9_load_69 : decode cX9_load 69 = .ok (.aload_n 0, 1) := by decide +kernel
theorem dX9_load_70 : decode cX9_load 70 = .ok (.getfield 98, 3) := by decide +kernel
theorem dX9_load_73 : decode cX9_load 73 = .ok (.ireturn, 1) := by decide +kernel
theorem dX9_attack_0 : decode cX9_attack 0 = .ok (.aload_n 0, 1) := by decide +kernel
theorem dX9_attack_1 : decode cX9_attack 1 = .ok (.iload_n 1, 1) := by decide +kernel
theorem dX9_attack_2 : decode cX9_attack 2 = .ok (.invokevirtual 66, 3) := by decide +kernel
theorem dX9_attack_5 : decode cX9_attack 5 = .ok (.ifCond .ne 6, 3) := by decide +kernel
theorem dX9_attack_8 : decode cX9_attack 8 = .ok (.bipush (-2), 2) := by decide +kernel
theorem dX9_attack_10 : decode cX9_attack 10 = .ok (.ireturn, 1) := by decide +kernel
theorem dX9_attack_11 : decode cX9_attack 11 = .ok (.aload_n 0, 1) := by decide +kernel
theorem dX9_attack_12 : decode cX9_attack 12 = .ok (.getfield 7, 3) := by decide +kernel
theorem dX9_attack_15 : decode cX9_attack 15 = .ok (.bipush 81, 2) := by decide +kernel
theorem dX9_attack_17 : decode cX9_attack 17 = .ok (.iaload, 1) := by decide +kernel
theorem dX9_attack_18 : decode cX9_attack 18 = .ok (.iload_n 1, 1) := by decide +kernel
theorem dX9_attack_19 : decode cX9_attack 19 = .ok (.invokestatic 42, 3) := by decide +kernel
theorem dX9_attack_22 : decode cX9_attack 22 = .ok (.iload_n 2, 1) := by decide +kernel
theorem dX9_attack_23 : decode cX9_attack 23 = .ok (.if_icmp .ne 6, 3) := by decide +kernel
theorem dX9_attack_26 : decode cX9_attack 26 = .ok (.bipush (-3), 2) := by decide +kernel
theorem dX9_attack_28 : decode cX9_attack 28 = .ok (.ireturn, 1) := by decide +kernel
theorem dX9_attack_29 : decode cX9_attack 29 = .ok (.aload_n 0, 1) := by decide +kernel
theorem dX9_attack_30 : decode cX9_attack 30 = .ok (.invokevirtual 59, 3) := by decide +kernel
theorem dX9_attack_33 : decode cX9_attack 33 = .ok (.aload_n 0, 1) := by decide +kernel
theorem dX9_attack_34 : decode cX9_attack 34 = .ok (.getfield 7, 3) := by decide +kernel
theorem dX9_attack_37 : decode cX9_attack 37 = .ok (.bipush 81, 2) := by decide +kernel
theorem dX9_attack_39 : decode cX9_attack 39 = .ok (.aload_n 0, 1) := by decide +kernel
theorem dX9_attack_40 : decode cX9_attack 40 = .ok (.getfield 7, 3) := by decide +kernel
theorem dX9_attack_43 : decode cX9_attack 43 = .ok (.bipush 81, 2) := by decide +kernel
theorem dX9_attack_45 : decode cX9_attack 45 = .ok (.iaload, 1) := by decide +kernel
theorem dX9_attack_46 : decode cX9_attack 46 = .ok (.iconst 1, 1) := by decide +kernel
theorem dX9_attack_47 : decode cX9_attack 47 = .ok (.iload_n 1, 1) := by decide +kernel
theorem dX9_attack_48 : decode cX9_attack 48 = .ok (.ishl, 1) := by decide +kernel
theorem dX9_attack_49 : decode cX9_attack 49 = .ok (.ixor, 1) := by decide +kernel
theorem dX9_attack_50 : decode cX9_attack 50 = .ok (.iastore, 1) := by decide +kernel
theorem dX9_attack_51 : decode cX9_attack 51 = .ok (.aload_n 0, 1) := by decide +kernel
theorem dX9_attack_52 : decode cX9_attack 52 = .ok (.aload_n 0, 1) := by decide +kernel
theorem dX9_attack_53 : decode cX9_attack 53 = .ok (.getfield 7, 3) := by decide +kernel
theorem dX9_attack_56 : decode cX9_attack 56 = .ok (.bipush 81, 2) := by decide +kernel
theorem dX9_attack_58 : decode cX9_attack 58 = .ok (.iaload, 1) := by decide +kernel
theorem dX9_attack_59 : decode cX9_attack 59 = .ok (.invokevirtual 118, 3) := by decide +kernel
theorem dX9_attack_62 : decode cX9_attack 62 = .ok (.ireturn, 1) := by decide +kernel
theorem dX9_setAttack_0 : decode cX9_setAttack 0 = .ok (.aload_n 0, 1) := by decide +kernel
theorem dX9_setAttack_1 : decode cX9_setAttack 1 = .ok (.iload_n 1, 1) := by decide +kernel
theorem dX9_setAttack_2 : decode cX9_setAttack 2 = .ok (.invokevirtual 121, 3) := by decide +kernel
theorem dX9_setAttack_5 : decode cX9_setAttack 5 = .ok (.ifCond .ne 6, 3) := by decide +kernel
theorem dX9_setAttack_8 : decode cX9_setAttack 8 = .ok (.bipush (-2), 2) := by decide +kernel
theorem dX9_setAttack_10 : decode cX9_setAttack 10 = .ok (.ireturn, 1) := by decide +kernel
theorem dX9_setAttack_11 : decode cX9_setAttack 11 = .ok (.aload_n 0, 1) := by decide +kernel
theorem dX9_setAttack_12 : decode cX9_setAttack 12 = .ok (.invokevirtual 59, 3) := by decide +kernel
theorem dX9_setAttack_15 : decode cX9_setAttack 15 = .ok (.aload_n 0, 1) := by decide +kernel
theorem dX9_setAttack_16 : decode cX9_setAttack 16 = .ok (.getfield 7, 3) := by decide +kernel
theorem dX9_setAttack_19 : decode cX9_setAttack 19 = .ok (.bipush 81, 2) := by decide +kernel
theorem dX9_setAttack_21 : decode cX9_setAttack 21 = .ok (.iload_n 1, 1) := by decide +kernel
theorem dX9_setAttack_22 : decode cX9_setAttack 22 = .ok (.iastore, 1) := by decide +kernel
theorem dX9_setAttack_23 : decode cX9_setAttack 23 = .ok (.aload_n 0, 1) := by decide +kernel
theorem dX9_setAttack_24 : decode cX9_setAttack 24 = .ok (.iload_n 1, 1) := by decide +kernel
theorem dX9_setAttack_25 : decode cX9_setAttack 25 = .ok (.invokevirtual 118, 3) := by decide +kernel
theorem dX9_setAttack_28 : decode cX9_setAttack 28 = .ok (.ireturn, 1) := by decide +kernel
theorem dX9_lengthOf_0 : decode cX9_lengthOf 0 = .ok (.iload_n 2, 1) := by decide +kernel
theorem dX9_lengthOf_1 : decode cX9_lengthOf 1 = .ok (.iload_n 1, 1) := by decide +kernel
theorem dX9_lengthOf_2 : decode cX9_lengthOf 2 = .ok (.invokestatic 42, 3) := by decide +kernel
theorem dX9_lengthOf_5 : decode cX9_lengthOf 5 = .ok (.ifCond .ne 10, 3) := by decide +kernel
theorem dX9_lengthOf_8 : decode cX9_lengthOf 8 = .ok (.aload_n 0, 1) := by decide +kernel
theorem dX9_lengthOf_9 : decode cX9_lengthOf 9 = .ok (.iload_n 1, 1) := by decide +kernel
theorem dX9_lengthOf_10 : decode cX9_lengthOf 10 = .ok (.iconst 2, 1) := by decide +kernel
theorem dX9_lengthOf_11 : decode cX9_lengthOf 11 = .ok (.invokevirtual 46, 3) := by decide +kernel
theorem dX9_lengthOf_14 : decode cX9_lengthOf 14 = .ok (.ireturn, 1) := by decide +kernel
theorem dX9_lengthOf_15 : decode cX9_lengthOf 15 = .ok (.aload_n 0, 1) := by decide +kernel
theorem dX9_lengthOf_16 : decode cX9_lengthOf 16 = .ok (.iload_n 1, 1) := by decide +kernel
theorem dX9_lengthOf_17 : decode cX9_lengthOf 17 = .ok (.iconst 3, 1) := by decide +kernel
theorem dX9_lengthOf_18 : decode cX9_lengthOf 18 = .ok (.invokevirtual 46, 3) := by decide +kernel
theorem dX9_lengthOf_21 : decode cX9_lengthOf 21 = .ok (.bipush 100, 2) := by decide +kernel
theorem dX9_lengthOf_23 : decode cX9_lengthOf 23 = .ok (.if_icmp .ne 9, 3) := by decide +kernel
theorem dX9_lengthOf_26 : decode cX9_lengthOf 26 = .ok (.sipush 9999, 3) := by decide +kernel
theorem dX9_lengthOf_29 : decode cX9_lengthOf 29 = .ok (.goto 16, 3) := by decide +kernel
theorem dX9_lengthOf_32 : decode cX9_lengthOf 32 = .ok (.aload_n 0, 1) := by decide +kernel
theorem dX9_lengthOf_33 : decode cX9_lengthOf 33 = .ok (.iload_n 1, 1) := by decide +kernel
theorem dX9_lengthOf_34 : decode cX9_lengthOf 34 = .ok (.iconst 2, 1) := by decide +kernel
theorem dX9_lengthOf_35 : decode cX9_lengthOf 35 = .ok (.invokevirtual 46, 3) := by decide +kernel
theorem dX9_lengthOf_38 : decode cX9_lengthOf 38 = .ok (.aload_n 0, 1) := by decide +kernel
theorem dX9_lengthOf_39 : decode cX9_lengthOf 39 = .ok (.iload_n 1, 1) := by decide +kernel
theorem dX9_lengthOf_40 : decode cX9_lengthOf 40 = .ok (.iconst 3, 1) := by decide +kernel
theorem dX9_lengthOf_41 : decode cX9_lengthOf 41 = .ok (.invokevirtual 46, 3) := by decide +kernel
theorem dX9_lengthOf_44 : decode cX9_lengthOf 44 = .ok (.iadd, 1) := by decide +kernel
theorem dX9_lengthOf_45 : decode cX9_lengthOf 45 = .ok (.ireturn, 1) := by decide +kernel
theorem dX9_lessens_0 : decode cX9_lessens 0 = .ok (.iload_n 2, 1) := by decide +kernel
theorem dX9_lessens_1 : decode cX9_lessens 1 = .ok (.aload_n 0, 1) := by decide +kernel
theorem dX9_lessens_2 : decode cX9_lessens 2 = .ok (.getfield 26, 3) := by decide +kernel
theorem dX9_lessens_5 : decode cX9_lessens 5 = .ok (.iload_n 1, 1) := by decide +kernel
theorem dX9_lessens_6 : decode cX9_lessens 6 = .ok (.iaload, 1) := by decide +kernel
theorem dX9_lessens_7 : decode cX9_lessens 7 = .ok (.if_icmp .ge 7, 3) := by decide +kernel
theorem dX9_lessens_10 : decode cX9_lessens 10 = .ok (.iconst 1, 1) := by decide +kernel
theorem dX9_lessens_11 : decode cX9_lessens 11 = .ok (.goto 4, 3) := by decide +kernel
theorem dX9_lessens_14 : decode cX9_lessens 14 = .ok (.iconst 0, 1) := by decide +kernel
theorem dX9_lessens_15 : decode cX9_lessens 15 = .ok (.istore_n 3, 1) := by decide +kernel
theorem dX9_lessens_16 : decode cX9_lessens 16 = .ok (.aload_n 0, 1) := by decide +kernel
theorem dX9_lessens_17 : decode cX9_lessens 17 = .ok (.getfield 26, 3) := by decide +kernel
theorem dX9_lessens_20 : decode cX9_lessens 20 = .ok (.iload_n 1, 1) := by decide +kernel
theorem dX9_lessens_21 : decode cX9_lessens 21 = .ok (.iload_n 3, 1) := by decide +kernel
theorem dX9_lessens_22 : decode cX9_lessens 22 = .ok (.ifCond .eq 7, 3) := by decide +kernel
theorem dX9_lessens_25 : decode cX9_lessens 25 = .ok (.iload_n 2, 1) := by decide +kernel
theorem dX9_lessens_26 : decode cX9_lessens 26 = .ok (.goto 9, 3) := by decide +kernel
theorem dX9_lessens_29 : decode cX9_lessens 29 = .ok (.aload_n 0, 1) := by decide +kernel
theorem dX9_lessens_30 : decode cX9_lessens 30 = .ok (.getfield 26, 3) := by decide +kernel
theorem dX9_lessens_33 : decode cX9_lessens 33 = .ok (.iload_n 1, 1) := by decide +kernel
theorem dX9_lessens_34 : decode cX9_lessens 34 = .ok (.iaload, 1) := by decide +kernel
theorem dX9_lessens_35 : decode cX9_lessens 35 = .ok (.iastore, 1) := by decide +kernel
theorem dX9_lessens_36 : decode cX9_lessens 36 = .ok (.iload_n 3, 1) := by decide +kernel
theorem dX9_lessens_37 : decode cX9_lessens 37 = .ok (.ireturn, 1) := by decide +kernel
theorem dX9_ways_0 : decode cX9_ways 0 = .ok (.iconst 0, 1) := by decide +kernel
theorem dX9_ways_1 : decode cX9_ways 1 = .ok (.istore 4, 2) := by decide +kernel
theorem dX9_ways_3 : decode cX9_ways 3 = .ok (.iload 4, 2) := by decide +kernel
theorem dX9_ways_5 : decode cX9_ways 5 = .ok (.bipush 32, 2) := by decide +kernel
theorem dX9_ways_7 : decode cX9_ways 7 = .ok (.if_icmp .ge 19, 3) := by decide +kernel
theorem dX9_ways_10 : decode cX9_ways 10 = .ok (.aload_n 0, 1) := by decide +kernel
theorem dX9_ways_11 : decode cX9_ways 11 = .ok (.getfield 26, 3) := by decide +kernel
theorem dX9_ways_14 : decode cX9_ways 14 = .ok (.iload 4, 2) := by decide +kernel
theorem dX9_ways_16 : decode cX9_ways 16 = .ok (.sipush 9999, 3) := by decide +kernel
theorem dX9_ways_19 : decode cX9_ways 19 = .ok (.iastore, 1) := by decide +kernel
theorem dX9_ways_20 : decode cX9_ways 20 = .ok (.iinc 4 1, 3) := by decide +kernel
theorem dX9_ways_23 : decode cX9_ways 23 = .ok (.goto (-20), 3) := by decide +kernel
theorem dX9_ways_26 : decode cX9_ways 26 = .ok (.aload_n 0, 1) := by decide +kernel
theorem dX9_ways_27 : decode cX9_ways 27 = .ok (.getfield 26, 3) := by decide +kernel
theorem dX9_ways_30 : decode cX9_ways 30 = .ok (.iconst 4, 1) := by decide +kernel
theorem dX9_ways_31 : decode cX9_ways 31 = .ok (.iload_n 1, 1) := by decide +kernel
theorem dX9_ways_32 : decode cX9_ways 32 = .ok (.imul, 1) := by decide +kernel
theorem dX9_ways_33 : decode cX9_ways 33 = .ok (.iconst 0, 1) := by decide +kernel
theorem dX9_ways_34 : decode cX9_ways 34 = .ok (.iastore, 1) := by decide +kernel
theorem dX9_ways_35 : decode cX9_ways 35 = .ok (.iconst 1, 1) := by decide +kernel
theorem dX9_ways_36 : decode cX9_ways 36 = .ok (.istore 4, 2) := by decide +kernel
theorem dX9_ways_38 : decode cX9_ways 38 = .ok (.iload 4, 2) := by decide +kernel
theorem dX9_ways_40 : decode cX9_ways 40 = .ok (.ifCond .eq 189, 3) := by decide +kernel
theorem dX9_ways_43 : decode cX9_ways 43 = .ok (.iconst 0, 1) := by decide +kernel
theorem dX9_ways_44 : decode cX9_ways 44 = .ok (.istore 4, 2) := by decide +kernel
theorem dX9_ways_46 : decode cX9_ways 46 = .ok (.iconst 0, 1) := by decide +kernel
theorem dX9_ways_47 : decode cX9_ways 47 = .ok (.istore 5, 2) := by decide +kernel
theorem dX9_ways_49 : decode cX9_ways 49 = .ok (.iload 5, 2) := by decide +kernel
theorem dX9_ways_51 : decode cX9_ways 51 = .ok (.aload_n 0, 1) := by decide +kernel
theorem dX9_ways_52 : decode cX9_ways 52 = .ok (.getfield 7, 3) := by decide +kernel
theorem dX9_ways_55 : decode cX9_ways 55 = .ok (.bipush 80, 2) := by decide +kernel
theorem dX9_ways_57 : decode cX9_ways 57 = .ok (.iaload, 1) := by decide +kernel
theorem dX9_ways_58 : decode cX9_ways 58 = .ok (.if_icmp .ge 168, 3) := by decide +kernel
theorem dX9_ways_61 : decode cX9_ways 61 = .ok (.iconst 0, 1) := by decide +kernel
theorem dX9_ways_62 : decode cX9_ways 62 = .ok (.istore 6, 2) := by decide +kernel
theorem dX9_ways_64 : decode cX9_ways 64 = .ok (.iload 6, 2) := by decide +kernel
theorem dX9_ways_66 : decode cX9_ways 66 = .ok (.iload_n 3, 1) := by decide +kernel
theorem dX9_ways_67 : decode cX9_ways 67 = .ok (.if_icmp .gt 153, 3) := by decide +kernel
theorem dX9_ways_70 : decode cX9_ways 70 = .ok (.aload_n 0, 1) := by decide +kernel
theorem dX9_ways_71 : decode cX9_ways 71 = .ok (.getfield 26, 3) := by decide +kernel
theorem dX9_ways_74 : decode cX9_ways 74 = .ok (.iconst 4, 1) := by decide +kernel
theorem dX9_ways_75 : decode cX9_ways 75 = .ok (.aload_n 0, 1) := by decide +kernel
theorem dX9_ways_76 : decode cX9_ways 76 = .ok (.iload 5, 2) := by decide +kernel
theorem dX9_ways_78 : decode cX9_ways 78 = .ok (.iconst 0, 1) := by decide +kernel
theorem dX9_ways_79 : decode cX9_ways 79 = .ok (.invokevirtual 46, 3) := by decide +kernel
theorem dX9_ways_82 : decode cX9_ways 82 = .ok (.imul, 1) := by decide +kernel
theorem dX9_ways_83 : decode cX9_ways 83 = .ok (.iload 6, 2) := by decide +kernel
theorem dX9_ways_85 : decode cX9_ways 85 = .ok (.iadd, 1) := by decide +kernel
theorem dX9_ways_86 : decode cX9_ways 86 = .ok (.iaload, 1) := by decide +kernel
theorem dX9_ways_87 : decode cX9_ways 87 = .ok (.istore 7, 2) := by decide +kernel
theorem dX9_ways_89 : decode cX9_ways 89 = .ok (.iconst 4, 1) := by decide +kernel
theorem dX9_ways_90 : decode cX9_ways 90 = .ok (.aload_n 0, 1) := by decide +kernel
theorem dX9_ways_91 : decode cX9_ways 91 = .ok (.iload 5, 2) := by decide +kernel
theorem dX9_ways_93 : decode cX9_ways 93 = .ok (.iconst 1, 1) := by decide +kernel
theorem dX9_ways_94 : decode cX9_ways 94 = .ok (.invokevirtual 46, 3) := by decide +kernel
theorem dX9_ways_97 : decode cX9_ways 97 = .ok (.imul, 1) := by decide +kernel
theorem dX9_ways_98 : decode cX9_ways 98 = .ok (.iload 6, 2) := by decide +kernel
theorem dX9_ways_100 : decode cX9_ways 100 = .ok (.iadd, 1) := by decide +kernel
theorem dX9_ways_101 : decode cX9_ways 101 = .ok (.istore 8, 2) := by decide +kernel
theorem dX9_ways_103 : decode cX9_ways 103 = .ok (.iload 7, 2) := by decide +kernel
theorem dX9_ways_105 : decode cX9_ways 105 = .ok (.sipush 9999, 3) := by decide +kernel
theorem dX9_ways_108 : decode cX9_ways 108 = .ok (.if_icmp .ge 39, 3) := by decide +kernel
theorem dX9_ways_111 : decode cX9_ways 111 = .ok (.aload_n 0, 1) := by decide +kernel
theorem dX9_ways_112 : decode cX9_ways 112 = .ok (.iload 5, 2) := by decide +kernel
theorem dX9_ways_114 : decode cX9_ways 114 = .ok (.iload_n 2, 1) := by decide +kernel
theorem dX9_ways_115 : decode cX9_ways 115 = .ok (.invokevirtual 124, 3) := by decide +kernel
theorem dX9_ways_118 : decode cX9_ways 118 = .ok (.sipush 9999, 3) := by decide +kernel
theorem dX9_ways_121 : decode cX9_ways 121 = .ok (.if_icmp .ge 26, 3) := by decide +kernel
theorem dX9_ways_124 : decode cX9_ways 124 = .ok (.aload_n 0, 1) := by decide +kernel
theorem dX9_ways_125 : decode cX9_ways 125 = .ok (.iload 8, 2) := by decide +kernel
theorem dX9_ways_127 : decode cX9_ways 127 = .ok (.iload 7, 2) := by decide +kernel
theorem dX9_ways_129 : decode cX9_ways 129 = .ok (.aload_n 0, 1) := by decide +kernel
theorem dX9_ways_130 : decode cX9_ways 130 = .ok (.iload 5, 2) := by decide +kernel
theorem dX9_ways_132 : decode cX9_ways 132 = .ok (.iload_n 2, 1) := by decide +kernel
theorem dX9_ways_133 : decode cX9_ways 133 = .ok (.invokevirtual 124, 3) := by decide +kernel
theorem dX9_ways_136 : decode cX9_ways 136 = .ok (.iadd, 1) := by decide +kernel
theorem dX9_ways_137 : decode cX9_ways 137 = .ok (.invokevirtual 127, 3) := by decide +kernel
theorem dX9_ways_140 : decode cX9_ways 140 = .ok (.ifCond .eq 7, 3) := by decide +kernel
theorem dX9_ways_143 : decode cX9_ways 143 = .ok (.iconst 1, 1) := by decide +kernel
theorem dX9_ways_144 : decode cX9_ways 144 = .ok (.goto 4, 3) := by decide +kernel
theorem dX9_ways_147 : decode cX9_ways 147 = .ok (.iconst 0, 1) := by decide +kernel
theorem dX9_ways_148 : decode cX9_ways 148 = .ok (.istore 9, 2) := by decide +kernel
theorem dX9_ways_150 : decode cX9_ways 150 = .ok (.iload 7, 2) := by decide +kernel
theorem dX9_ways_152 : decode cX9_ways 152 = .ok (.sipush 9999, 3) := by decide +kernel
theorem dX9_ways_155 : decode cX9_ways 155 = .ok (.if_icmp .ge 34, 3) := by decide +kernel
theorem dX9_ways_158 : decode cX9_ways 158 = .ok (.iload 6, 2) := by decide +kernel
theorem dX9_ways_160 : decode cX9_ways 160 = .ok (.iload_n 3, 1) := by decide +kernel
theorem dX9_ways_161 : decode cX9_ways 161 = .ok (.if_icmp .ge 28, 3) := by decide +kernel
theorem dX9_ways_164 : decode cX9_ways 164 = .ok (.aload_n 0, 1) := by decide +kernel
theorem dX9_ways_165 : decode cX9_ways 165 = .ok (.iload 8, 2) := by decide +kernel
theorem dX9_ways_167 : decode cX9_ways 167 = .ok (.iconst 1, 1) := by decide +kernel
theorem dX9_ways_168 : decode cX9_ways 168 = .ok (.iadd, 1) := by decide +kernel
theorem dX9_ways_169 : decode cX9_ways 169 = .ok (.iload 7, 2) := by decide +kernel
theorem dX9_ways_171 : decode cX9_ways 171 = .ok (.aload_n 0, 1) := by decide +kernel
theorem dX9_ways_172 : decode cX9_ways 172 = .ok (.iload 5, 2) := by decide +kernel
theorem dX9_ways_174 : decode cX9_ways 174 = .ok (.iconst 2, 1) := by decide +kernel
theorem dX9_ways_175 : decode cX9_ways 175 = .ok (.invokevirtual 46, 3) := by decide +kernel
theorem dX9_ways_178 : decode cX9_ways 178 = .ok (.iadd, 1) := by decide +kernel
theorem dX9_ways_179 : decode cX9_ways 179 = .ok (.invokevirtual 127, 3) := by decide +kernel
theorem dX9_ways_182 : decode cX9_ways 182 = .ok (.ifCond .eq 7, 3) := by decide +kernel
theorem dX9_ways_185 : decode cX9_ways 185 = .ok (.iconst 1, 1) := by decide +kernel
theorem dX9_ways_186 : decode cX9_ways 186 = .ok (.goto 4, 3) := by decide +kernel
theorem dX9_ways_189 : decode cX9_ways 189 = .ok (.iconst 0, 1) := by decide +kernel
theorem dX9_ways_190 : decode cX9_ways 190 = .ok (.istore 10, 2) := by decide +kernel
theorem dX9_ways_192 : decode cX9_ways 192 = .ok (.iload 4, 2) := by decide +kernel
theorem dX9_ways_194 : decode cX9_ways 194 = .ok (.ifCond .ne 13, 3) := by decide +kernel
theorem dX9_ways_197 : decode cX9_ways 197 = .ok (.iload 9, 2) := by decide +kernel
theorem dX9_ways_199 : decode cX9_ways 199 = .ok (.ifCond .ne 8, 3) := by decide +kernel
theorem dX9_ways_202 : decode cX9_ways 202 = .ok (.iload 10, 2) := by decide +kernel
theorem dX9_ways_204 : decode cX9_ways 204 = .ok (.ifCond .eq 7, 3) := by decide +kernel
theorem dX9_ways_207 : decode cX9_ways 207 = .ok (.iconst 1, 1) := by decide +kernel
theorem dX9_ways_208 : decode cX9_ways 208 = .ok (.goto 4, 3) := by decide +kernel
theorem dX9_ways_211 : decode cX9_ways 211 = .ok (.iconst 0, 1) := by decide +kernel
theorem dX9_ways_212 : decode cX9_ways 212 = .ok (.istore 4, 2) := by decide +kernel
theorem dX9_ways_214 : decode cX9_ways 214 = .ok (.iinc 6 1, 3) := by decide +kernel
theorem dX9_ways_217 : decode cX9_ways 217 = .ok (.goto (-153), 3) := by decide +kernel
theorem dX9_ways_220 : decode cX9_ways 220 = .ok (.iinc 5 1, 3) := by decide +kernel
theorem dX9_ways_223 : decode cX9_ways 223 = .ok (.goto (-174), 3) := by decide +kernel
theorem dX9_ways_226 : decode cX9_ways 226 = .ok (.goto (-188), 3) := by decide +kernel
theorem dX9_ways_229 : decode cX9_ways 229 = .ok (.return_, 1) := by decide +kernel
theorem dX9_far_0 : decode cX9_far 0 = .ok (.aload_n 0, 1) := by decide +kernel
theorem dX9_far_1 : decode cX9_far 1 = .ok (.iload_n 1, 1) := by decide +kernel
theorem dX9_far_2 : decode cX9_far 2 = .ok (.iload_n 3, 1) := by decide +kernel
theorem dX9_far_3 : decode cX9_far 3 = .ok (.iload 4, 2) := by decide +kernel
theorem dX9_far_5 : decode cX9_far 5 = .ok (.invokevirtual 130, 3) := by decide +kernel
theorem dX9_far_8 : decode cX9_far 8 = .ok (.sipush 9999, 3) := by decide +kernel
theorem dX9_far_11 : decode cX9_far 11 = .ok (.istore 5, 2) := by decide +kernel
theorem dX9_far_13 : decode cX9_far 13 = .ok (.iconst 0, 1) := by decide +kernel
theorem dX9_far_14 : decode cX9_far 14 = .ok (.istore 6, 2) := by decide +kernel
theorem dX9_far_16 : decode cX9_far 16 = .ok (.iload 6, 2) := by decide +kernel
theorem dX9_far_18 : decode cX9_far 18 = .ok (.iload 4, 2) := by decide +kernel
theorem dX9_far_20 : decode cX9_far 20 = .ok (.if_icmp .gt 43, 3) := by decide +kernel
theorem dX9_far_23 : decode cX9_far 23 = .ok (.aload_n 0, 1) := by decide +kernel
theorem dX9_far_24 : decode cX9_far 24 = .ok (.getfield 26, 3) := by decide +kernel
theorem dX9_far_27 : decode cX9_far 27 = .ok (.iconst 4, 1) := by decide +kernel
theorem dX9_far_28 : decode cX9_far 28 = .ok (.iload_n 2, 1) := by decide +kernel
theorem dX9_far_29 : decode cX9_far 29 = .ok (.imul, 1) := by decide +kernel
theorem dX9_far_30 : decode cX9_far 30 = .ok (.iload 6, 2) := by decide +kernel
theorem dX9_far_32 : decode cX9_far 32 = .ok (.iadd, 1) := by decide +kernel
theorem dX9_far_33 : decode cX9_far 33 = .ok (.iaload, 1) := by decide +kernel
theorem dX9_far_34 : decode cX9_far 34 = .ok (.iload 5, 2) := by decide +kernel
theorem dX9_far_36 : decode cX9_far 36 = .ok (.if_icmp .ge 17, 3) := by decide +kernel
theorem dX9_far_39 : decode cX9_far 39 = .ok (.aload_n 0, 1) := by decide +kernel
theorem dX9_far_40 : decode cX9_far 40 = .ok (.getfield 26, 3) := by decide +kernel
theorem dX9_far_43 : decode cX9_far 43 = .ok (.iconst 4, 1) := by decide +kernel
theorem dX9_far_44 : decode cX9_far 44 = .ok (.iload_n 2, 1) := by decide +kernel
theorem dX9_far_45 : decode cX9_far 45 = .ok (.imul, 1) := by decide +kernel
theorem dX9_far_46 : decode cX9_far 46 = .ok (.iload 6, 2) := by decide +kernel
theorem dX9_far_48 : decode cX9_far 48 = .ok (.iadd, 1) := by decide +kernel
theorem dX9_far_49 : decode cX9_far 49 = .ok (.iaload, 1) := by decide +kernel
theorem dX9_far_50 : decode cX9_far 50 = .ok (.goto 5, 3) := by decide +kernel
theorem dX9_far_53 : decode cX9_far 53 = .ok (.iload 5, 2) := by decide +kernel
theorem dX9_far_55 : decode cX9_far 55 = .ok (.istore 5, 2) := by decide +kernel
theorem dX9_far_57 : decode cX9_far 57 = .ok (.iinc 6 1, 3) := by decide +kernel
theorem dX9_far_60 : decode cX9_far 60 = .ok (.goto (-44), 3) := by decide +kernel
theorem dX9_far_63 : decode cX9_far 63 = .ok (.iload 5, 2) := by decide +kernel
theorem dX9_far_65 : decode cX9_far 65 = .ok (.ireturn, 1) := by decide +kernel
theorem dX9_distance_0 : decode cX9_distance 0 = .ok (.iload_n 1, 1) := by decide +kernel
theorem dX9_distance_1 : decode cX9_distance 1 = .ok (.iload_n 2, 1) := by decide +kernel
theorem dX9_distance_2 : decode cX9_distance 2 = .ok (.invokestatic 53, 3) := by decide +kernel
theorem dX9_distance_5 : decode cX9_distance 5 = .ok (.ifCond .eq 20, 3) := by decide +kernel
theorem dX9_distance_8 : decode cX9_distance 8 = .ok (.aload_n 0, 1) := by decide +kernel
theorem dX9_distance_9 : decode cX9_distance 9 = .ok (.iload_n 1, 1) := by decide +kernel
theorem dX9_distance_10 : decode cX9_distance 10 = .ok (.iload_n 2, 1) := by decide +kernel
theorem dX9_distance_11 : decode cX9_distance 11 = .ok (.aload_n 0, 1) := by decide +kernel
theorem dX9_distance_12 : decode cX9_distance 12 = .ok (.getfield 7, 3) := by decide +kernel
theorem dX9_distance_15 : decode cX9_distance 15 = .ok (.bipush 81, 2) := by decide +kernel
theorem dX9_distance_17 : decode cX9_distance 17 = .ok (.iaload, 1) := by decide +kernel
theorem dX9_distance_18 : decode cX9_distance 18 = .ok (.iconst 0, 1) := by decide +kernel
theorem dX9_distance_19 : decode cX9_distance 19 = .ok (.invokevirtual 134, 3) := by decide +kernel
theorem dX9_distance_22 : decode cX9_distance 22 = .ok (.goto 5, 3) := by decide +kernel
theorem dX9_distance_25 : decode cX9_distance 25 = .ok (.bipush (-2), 2) := by decide +kernel
theorem dX9_distance_27 : decode cX9_distance 27 = .ok (.ireturn, 1) := by decide +kernel
theorem dX9_starts_0 : decode cX9_starts 0 = .ok (.aload_n 0, 1) := by decide +kernel
theorem dX9_starts_1 : decode cX9_starts 1 = .ok (.iconst 0, 1) := by decide +kernel
theorem dX9_starts_2 : decode cX9_starts 2 = .ok (.putfield 138, 3) := by decide +kernel
theorem dX9_starts_5 : decode cX9_starts 5 = .ok (.aload_n 0, 1) := by decide +kernel
theorem dX9_starts_6 : decode cX9_starts 6 = .ok (.iconst 0, 1) := by decide +kernel
theorem dX9_starts_7 : decode cX9_starts 7 = .ok (.putfield 141, 3) := by decide +kernel
theorem dX9_starts_10 : decode cX9_starts 10 = .ok (.aload_n 0, 1) := by decide +kernel
theorem dX9_starts_11 : decode cX9_starts 11 = .ok (.iconst 1, 1) := by decide +kernel
theorem dX9_starts_12 : decode cX9_starts 12 = .ok (.iload_n 1, 1) := by decide +kernel
theorem dX9_starts_13 : decode cX9_starts 13 = .ok (.ishl, 1) := by decide +kernel
theorem dX9_starts_14 : decode cX9_starts 14 = .ok (.putfield 144, 3) := by decide +kernel
theorem dX9_starts_17 : decode cX9_starts 17 = .ok (.return_, 1) := by decide +kernel
theorem dX9_lastNode_0 : decode cX9_lastNode 0 = .ok (.aload_n 0, 1) := by decide +kernel
theorem dX9_lastNode_1 : decode cX9_lastNode 1 = .ok (.getfield 138, 3) := by decide +kernel
theorem dX9_lastNode_4 : decode cX9_lastNode 4 = .ok (.ifCond .ne 7, 3) := by decide +kernel
theorem dX9_lastNode_7 : decode cX9_lastNode 7 = .ok (.iload_n 1, 1) := by decide +kernel
theorem dX9_lastNode_8 : decode cX9_lastNode 8 = .ok (.goto 19, 3) := by decide +kernel
theorem dX9_lastNode_11 : decode cX9_lastNode 11 = .ok (.aload_n 0, 1) := by decide +kernel
theorem dX9_lastNode_12 : decode cX9_lastNode 12 = .ok (.aload_n 0, 1) := by decide +kernel
theorem dX9_lastNode_13 : decode cX9_lastNode 13 = .ok (.getfield 29, 3) := by decide +kernel
theorem dX9_lastNode_16 : decode cX9_lastNode 16 = .ok (.aload_n 0, 1) := by decide +kernel
theorem dX9_lastNode_17 : decode cX9_lastNode 17 = .ok (.getfield 138, 3) := by decide +kernel
theorem dX9_lastNode_20 : decode cX9_lastNode 20 = .ok (.iconst 1, 1) := by decide +kernel
theorem dX9_lastNode_21 : decode cX9_lastNode 21 = .ok (.isub, 1) := by decide +kernel
theorem dX9_lastNode_22 : decode cX9_lastNode 22 = .ok (.iaload, 1) := by decide +kernel
theorem dX9_lastNode_23 : decode cX9_lastNode 23 = .ok (.iconst 1, 1) := by decide +kernel
theorem dX9_lastNode_24 : decode cX9_lastNode 24 = .ok (.invokevirtual 46, 3) := by decide +kernel
theorem dX9_lastNode_27 : decode cX9_lastNode 27 = .ok (.ireturn, 1) := by decide +kernel
theorem dX9_back_0 : decode cX9_back 0 = .ok (.aload_n 0, 1) := by decide +kernel
theorem dX9_back_1 : decode cX9_back 1 = .ok (.dup, 1) := by decide +kernel
theorem dX9_back_2 : decode cX9_back 2 = .ok (.getfield 138, 3) := by decide +kernel
theorem dX9_back_5 : decode cX9_back 5 = .ok (.iconst 1, 1) := by decide +kernel
theorem dX9_back_6 : decode cX9_back 6 = .ok (.isub, 1) := by decide +kernel
theorem dX9_back_7 : decode cX9_back 7 = .ok (.putfield 138, 3) := by decide +kernel
theorem dX9_back_10 : decode cX9_back 10 = .ok (.aload_n 0, 1) := by decide +kernel
theorem dX9_back_11 : decode cX9_back 11 = .ok (.getfield 29, 3) := by decide +kernel
theorem dX9_back_14 : decode cX9_back 14 = .ok (.aload_n 0, 1) := by decide +kernel
theorem dX9_back_15 : decode cX9_back 15 = .ok (.getfield 138, 3) := by decide +kernel
theorem dX9_back_18 : decode cX9_back 18 = .ok (.iaload, 1) := by decide +kernel
theorem dX9_back_19 : decode cX9_back 19 = .ok (.istore_n 1, 1) := by decide +kernel
theorem dX9_back_20 : decode cX9_back 20 = .ok (.aload_n 0, 1) := by decide +kernel
theorem dX9_back_21 : decode cX9_back 21 = .ok (.dup, 1) := by decide +kernel
theorem dX9_back_22 : decode cX9_back 22 = .ok (.getfield 141, 3) := by decide +kernel
theorem dX9_back_25 : decode cX9_back 25 = .ok (.aload_n 0, 1) := by decide +kernel
theorem dX9_back_26 : decode cX9_back 26 = .ok (.iload_n 1, 1) := by decide +kernel
theorem dX9_back_27 : decode cX9_back 27 = .ok (.aload_n 0, 1) := by decide +kernel
theorem dX9_back_28 : decode cX9_back 28 = .ok (.getfield 7, 3) := by decide +kernel
theorem dX9_back_31 : decode cX9_back 31 = .ok (.bipush 81, 2) := by decide +kernel
theorem dX9_back_33 : decode cX9_back 33 = .ok (.iaload, 1) := by decide +kernel
theorem dX9_back_34 : decode cX9_back 34 = .ok (.invokevirtual 124, 3) := by decide +kernel
theorem dX9_back_37 : decode cX9_back 37 = .ok (.isub, 1) := by decide +kernel
theorem dX9_back_38 : decode cX9_back 38 = .ok (.putfield 141, 3) := by decide +kernel
theorem dX9_back_41 : decode cX9_back 41 = .ok (.aload_n 0, 1) := by decide +kernel
theorem dX9_back_42 : decode cX9_back 42 = .ok (.aload_n 0, 1) := by decide +kernel
theorem dX9_back_43 : decode cX9_back 43 = .ok (.getfield 144, 3) := by decide +kernel
theorem dX9_back_46 : decode cX9_back 46 = .ok (.iconst 1, 1) := by decide +kernel
theorem dX9_back_47 : decode cX9_back 47 = .ok (.aload_n 0, 1) := by decide +kernel
theorem dX9_back_48 : decode cX9_back 48 = .ok (.iload_n 1, 1) := by decide +kernel
theorem dX9_back_49 : decode cX9_back 49 = .ok (.iconst 1, 1) := by decide +kernel
theorem dX9_back_50 : decode cX9_back 50 = .ok (.invokevirtual 46, 3) := by decide +kernel
theorem dX9_back_53 : decode cX9_back 53 = .ok (.ishl, 1) := by decide +kernel
theorem dX9_back_54 : decode cX9_back 54 = .ok (.iconst (-1), 1) := by decide +kernel
theorem dX9_back_55 : decode cX9_back 55 = .ok (.ixor, 1) := by decide +kernel
theorem dX9_back_56 : decode cX9_back 56 = .ok (.iand, 1) := by decide +kernel
theorem dX9_back_57 : decode cX9_back 57 = .ok (.putfield 144, 3) := by decide +kernel
theorem dX9_back_60 : decode cX9_back 60 = .ok (.return_, 1) := by decide +kernel
end
section
/-! decode rows -/
theorem dX9_forth_0 : decode cX9_forth 0 = .ok (.aload_n 0, 1) := by decide +kernel
theorem dX9_forth_1 : decode cX9_forth 1 = .ok (.iload_n 1, 1) := by decide +kernel
theorem dX9_forth_2 : decode cX9_forth 2 = .ok (.invokevirtual 147, 3) := by decide +kernel
theorem dX9_forth_5 : decode cX9_forth 5 = .ok (.istore_n 3, 1) := by decide +kernel
theorem dX9_forth_6 : decode cX9_forth 6 = .ok (.iload_n 2, 1) := by decide +kernel
theorem dX9_forth_7 : decode cX9_forth 7 = .ok (.istore 4, 2) := by decide +kernel
theorem dX9_forth_9 : decode cX9_forth 9 = .ok (.iload 4, 2) := by decide +kernel
theorem dX9_forth_11 : decode cX9_forth 11 = .ok (.aload_n 0, 1) := by decide +kernel
theorem dX9_forth_12 : decode cX9_forth 12 = .ok (.getfield 7, 3) := by decide +kernel
theorem dX9_forth_15 : decode cX9_forth 15 = .ok (.bipush 80, 2) := by decide +kernel
theorem dX9_forth_17 : decode cX9_forth 17 = .ok (.iaload, 1) := by decide +kernel
theorem dX9_forth_18 : decode cX9_forth 18 = .ok (.if_icmp .ge 131, 3) := by decide +kernel
theorem dX9_forth_21 : decode cX9_forth 21 = .ok (.aload_n 0, 1) := by decide +kernel
theorem dX9_forth_22 : decode cX9_forth 22 = .ok (.iload 4, 2) := by decide +kernel
theorem dX9_forth_24 : decode cX9_forth 24 = .ok (.iconst 0, 1) := by decide +kernel
theorem dX9_forth_25 : decode cX9_forth 25 = .ok (.invokevirtual 46, 3) := by decide +kernel
theorem dX9_forth_28 : decode cX9_forth 28 = .ok (.iload_n 3, 1) := by decide +kernel
theorem dX9_forth_29 : decode cX9_forth 29 = .ok (.if_icmp .ne 43, 3) := by decide +kernel
theorem dX9_forth_32 : decode cX9_forth 32 = .ok (.aload_n 0, 1) := by decide +kernel
theorem dX9_forth_33 : decode cX9_forth 33 = .ok (.iload 4, 2) := by decide +kernel
theorem dX9_forth_35 : decode cX9_forth 35 = .ok (.aload_n 0, 1) := by decide +kernel
theorem dX9_forth_36 : decode cX9_forth 36 = .ok (.getfield 7, 3) := by decide +kernel
theorem dX9_forth_39 : decode cX9_forth 39 = .ok (.bipush 81, 2) := by decide +kernel
theorem dX9_forth_41 : decode cX9_forth 41 = .ok (.iaload, 1) := by decide +kernel
theorem dX9_forth_42 : decode cX9_forth 42 = .ok (.invokevirtual 124, 3) := by decide +kernel
theorem dX9_forth_45 : decode cX9_forth 45 = .ok (.sipush 9999, 3) := by decide +kernel
theorem dX9_forth_48 : decode cX9_forth 48 = .ok (.if_icmp .ge 24, 3) := by decide +kernel
theorem dX9_forth_51 : decode cX9_forth 51 = .ok (.aload_n 0, 1) := by decide +kernel
theorem dX9_forth_52 : decode cX9_forth 52 = .ok (.getfield 144, 3) := by decide +kernel
theorem dX9_forth_55 : decode cX9_forth 55 = .ok (.aload_n 0, 1) := by decide +kernel
theorem dX9_forth_56 : decode cX9_forth 56 = .ok (.iload 4, 2) := by decide +kernel
theorem dX9_forth_58 : decode cX9_forth 58 = .ok (.iconst 1, 1) := by decide +kernel
theorem dX9_forth_59 : decode cX9_forth 59 = .ok (.invokevirtual 46, 3) := by decide +kernel
theorem dX9_forth_62 : decode cX9_forth 62 = .ok (.ishr, 1) := by decide +kernel
theorem dX9_forth_63 : decode cX9_forth 63 = .ok (.iconst 1, 1) := by decide +kernel
theorem dX9_forth_64 : decode cX9_forth 64 = .ok (.iand, 1) := by decide +kernel
theorem dX9_forth_65 : decode cX9_forth 65 = .ok (.ifCond .ne 7, 3) := by decide +kernel
theorem dX9_forth_68 : decode cX9_forth 68 = .ok (.iconst 1, 1) := by decide +kernel
theorem dX9_forth_69 : decode cX9_forth 69 = .ok (.goto 4, 3) := by decide +kernel
theorem dX9_forth_72 : decode cX9_forth 72 = .ok (.iconst 0, 1) := by decide +kernel
theorem dX9_forth_73 : decode cX9_forth 73 = .ok (.istore 5, 2) := by decide +kernel
theorem dX9_forth_75 : decode cX9_forth 75 = .ok (.iload 5, 2) := by decide +kernel
theorem dX9_forth_77 : decode cX9_forth 77 = .ok (.ifCond .eq 66, 3) := by decide +kernel
theorem dX9_forth_80 : decode cX9_forth 80 = .ok (.aload_n 0, 1) := by decide +kernel
theorem dX9_forth_81 : decode cX9_forth 81 = .ok (.getfield 29, 3) := by decide +kernel
theorem dX9_forth_84 : decode cX9_forth 84 = .ok (.aload_n 0, 1) := by decide +kernel
theorem dX9_forth_85 : decode cX9_forth 85 = .ok (.getfield 138, 3) := by decide +kernel
theorem dX9_forth_88 : decode cX9_forth 88 = .ok (.iload 4, 2) := by decide +kernel
theorem dX9_forth_90 : decode cX9_forth 90 = .ok (.iastore, 1) := by decide +kernel
theorem dX9_forth_91 : decode cX9_forth 91 = .ok (.aload_n 0, 1) := by decide +kernel
theorem dX9_forth_92 : decode cX9_forth 92 = .ok (.dup, 1) := by decide +kernel
theorem dX9_forth_93 : decode cX9_forth 93 = .ok (.getfield 138, 3) := by decide +kernel
theorem dX9_forth_96 : decode cX9_forth 96 = .ok (.iconst 1, 1) := by decide +kernel
theorem dX9_forth_97 : decode cX9_forth 97 = .ok (.iadd, 1) := by decide +kernel
theorem dX9_forth_98 : decode cX9_forth 98 = .ok (.putfield 138, 3) := by decide +kernel
theorem dX9_forth_101 : decode cX9_forth 101 = .ok (.aload_n 0, 1) := by decide +kernel
theorem dX9_forth_102 : decode cX9_forth 102 = .ok (.dup, 1) := by decide +kernel
theorem dX9_forth_103 : decode cX9_forth 103 = .ok (.getfield 141, 3) := by decide +kernel
theorem dX9_forth_106 : decode cX9_forth 106 = .ok (.aload_n 0, 1) := by decide +kernel
theorem dX9_forth_107 : decode cX9_forth 107 = .ok (.iload 4, 2) := by decide +kernel
theorem dX9_forth_109 : decode cX9_forth 109 = .ok (.aload_n 0, 1) := by decide +kernel
theorem dX9_forth_110 : decode cX9_forth 110 = .ok (.getfield 7, 3) := by decide +kernel
theorem dX9_forth_113 : decode cX9_forth 113 = .ok (.bipush 81, 2) := by decide +kernel
theorem dX9_forth_115 : decode cX9_forth 115 = .ok (.iaload, 1) := by decide +kernel
theorem dX9_forth_116 : decode cX9_forth 116 = .ok (.invokevirtual 124, 3) := by decide +kernel
theorem dX9_forth_119 : decode cX9_forth 119 = .ok (.iadd, 1) := by decide +kernel
theorem dX9_forth_120 : decode cX9_forth 120 = .ok (.putfield 141, 3) := by decide +kernel
theorem dX9_forth_123 : decode cX9_forth 123 = .ok (.aload_n 0, 1) := by decide +kernel
theorem dX9_forth_124 : decode cX9_forth 124 = .ok (.dup, 1) := by decide +kernel
theorem dX9_forth_125 : decode cX9_forth 125 = .ok (.getfield 144, 3) := by decide +kernel
theorem dX9_forth_128 : decode cX9_forth 128 = .ok (.iconst 1, 1) := by decide +kernel
theorem dX9_forth_129 : decode cX9_forth 129 = .ok (.aload_n 0, 1) := by decide +kernel
theorem dX9_forth_130 : decode cX9_forth 130 = .ok (.iload 4, 2) := by decide +kernel
theorem dX9_forth_132 : decode cX9_forth 132 = .ok (.iconst 1, 1) := by decide +kernel
theorem dX9_forth_133 : decode cX9_forth 133 = .ok (.invokevirtual 46, 3) := by decide +kernel
theorem dX9_forth_136 : decode cX9_forth 136 = .ok (.ishl, 1) := by decide +kernel
theorem dX9_forth_137 : decode cX9_forth 137 = .ok (.ior, 1) := by decide +kernel
theorem dX9_forth_138 : decode cX9_forth 138 = .ok (.putfield 144, 3) := by decide +kernel
theorem dX9_forth_141 : decode cX9_forth 141 = .ok (.iconst 1, 1) := by decide +kernel
theorem dX9_forth_142 : decode cX9_forth 142 = .ok (.ireturn, 1) := by decide +kernel
theorem dX9_forth_143 : decode cX9_forth 143 = .ok (.iinc 4 1, 3) := by decide +kernel
theorem dX9_forth_146 : decode cX9_forth 146 = .ok (.goto (-137), 3) := by decide +kernel
theorem dX9_forth_149 : decode cX9_forth 149 = .ok (.iconst 0, 1) := by decide +kernel
theorem dX9_forth_150 : decode cX9_forth 150 = .ok (.ireturn, 1) := by decide +kernel
theorem dX9_nextPath_0 : decode cX9_nextPath 0 = .ok (.iconst 0, 1) := by decide +kernel
theorem dX9_nextPath_1 : decode cX9_nextPath 1 = .ok (.istore 4, 2) := by decide +kernel
theorem dX9_nextPath_3 : decode cX9_nextPath 3 = .ok (.iload_n 3, 1) := by decide +kernel
theorem dX9_nextPath_4 : decode cX9_nextPath 4 = .ok (.ifCond .eq 16, 3) := by decide +kernel
theorem dX9_nextPath_7 : decode cX9_nextPath 7 = .ok (.aload_n 0, 1) := by decide +kernel
theorem dX9_nextPath_8 : decode cX9_nextPath 8 = .ok (.iload_n 1, 1) := by decide +kernel
theorem dX9_nextPath_9 : decode cX9_nextPath 9 = .ok (.invokevirtual 147, 3) := by decide +kernel
theorem dX9_nextPath_12 : decode cX9_nextPath 12 = .ok (.iload_n 2, 1) := by decide +kernel
theorem dX9_nextPath_13 : decode cX9_nextPath 13 = .ok (.if_icmp .eq 7, 3) := by decide +kernel
theorem dX9_nextPath_16 : decode cX9_nextPath 16 = .ok (.iconst 1, 1) := by decide +kernel
theorem dX9_nextPath_17 : decode cX9_nextPath 17 = .ok (.goto 4, 3) := by decide +kernel
theorem dX9_nextPath_20 : decode cX9_nextPath 20 = .ok (.iconst 0, 1) := by decide +kernel
theorem dX9_nextPath_21 : decode cX9_nextPath 21 = .ok (.istore 5, 2) := by decide +kernel
theorem dX9_nextPath_23 : decode cX9_nextPath 23 = .ok (.iload_n 3, 1) := by decide +kernel
theorem dX9_nextPath_24 : decode cX9_nextPath 24 = .ok (.ifCond .eq 10, 3) := by decide +kernel
theorem dX9_nextPath_27 : decode cX9_nextPath 27 = .ok (.iload 5, 2) := by decide +kernel
theorem dX9_nextPath_29 : decode cX9_nextPath 29 = .ok (.ifCond .ne 5, 3) := by decide +kernel
theorem dX9_nextPath_32 : decode cX9_nextPath 32 = .ok (.iconst 1, 1) := by decide +kernel
theorem dX9_nextPath_33 : decode cX9_nextPath 33 = .ok (.ireturn, 1) := by decide +kernel
theorem dX9_nextPath_34 : decode cX9_nextPath 34 = .ok (.iload 5, 2) := by decide +kernel
theorem dX9_nextPath_36 : decode cX9_nextPath 36 = .ok (.ifCond .ne 31, 3) := by decide +kernel
theorem dX9_nextPath_39 : decode cX9_nextPath 39 = .ok (.aload_n 0, 1) := by decide +kernel
theorem dX9_nextPath_40 : decode cX9_nextPath 40 = .ok (.getfield 138, 3) := by decide +kernel
theorem dX9_nextPath_43 : decode cX9_nextPath 43 = .ok (.ifCond .ne 5, 3) := by decide +kernel
theorem dX9_nextPath_46 : decode cX9_nextPath 46 = .ok (.iconst 0, 1) := by decide +kernel
theorem dX9_nextPath_47 : decode cX9_nextPath 47 = .ok (.ireturn, 1) := by decide +kernel
theorem dX9_nextPath_48 : decode cX9_nextPath 48 = .ok (.aload_n 0, 1) := by decide +kernel
theorem dX9_nextPath_49 : decode cX9_nextPath 49 = .ok (.getfield 29, 3) := by decide +kernel
theorem dX9_nextPath_52 : decode cX9_nextPath 52 = .ok (.aload_n 0, 1) := by decide +kernel
theorem dX9_nextPath_53 : decode cX9_nextPath 53 = .ok (.getfield 138, 3) := by decide +kernel
theorem dX9_nextPath_56 : decode cX9_nextPath 56 = .ok (.iconst 1, 1) := by decide +kernel
theorem dX9_nextPath_57 : decode cX9_nextPath 57 = .ok (.isub, 1) := by decide +kernel
theorem dX9_nextPath_58 : decode cX9_nextPath 58 = .ok (.iaload, 1) := by decide +kernel
theorem dX9_nextPath_59 : decode cX9_nextPath 59 = .ok (.iconst 1, 1) := by decide +kernel
theorem dX9_nextPath_60 : decode cX9_nextPath 60 = .ok (.iadd, 1) := by decide +kernel
theorem dX9_nextPath_61 : decode cX9_nextPath 61 = .ok (.istore 4, 2) := by decide +kernel
theorem dX9_nextPath_63 : decode cX9_nextPath 63 = .ok (.aload_n 0, 1) := by decide +kernel
theorem dX9_nextPath_64 : decode cX9_nextPath 64 = .ok (.invokevirtual 150, 3) := by decide +kernel
theorem dX9_nextPath_67 : decode cX9_nextPath 67 = .ok (.aload_n 0, 1) := by decide +kernel
theorem dX9_nextPath_68 : decode cX9_nextPath 68 = .ok (.iload_n 1, 1) := by decide +kernel
theorem dX9_nextPath_69 : decode cX9_nextPath 69 = .ok (.iload 4, 2) := by decide +kernel
theorem dX9_nextPath_71 : decode cX9_nextPath 71 = .ok (.invokevirtual 153, 3) := by decide +kernel
theorem dX9_nextPath_74 : decode cX9_nextPath 74 = .ok (.istore 5, 2) := by decide +kernel
theorem dX9_nextPath_76 : decode cX9_nextPath 76 = .ok (.iconst 0, 1) := by decide +kernel
theorem dX9_nextPath_77 : decode cX9_nextPath 77 = .ok (.istore 4, 2) := by decide +kernel
theorem dX9_nextPath_79 : decode cX9_nextPath 79 = .ok (.iload 5, 2) := by decide +kernel
theorem dX9_nextPath_81 : decode cX9_nextPath 81 = .ok (.ifCond .eq (-47), 3) := by decide +kernel
theorem dX9_nextPath_84 : decode cX9_nextPath 84 = .ok (.aload_n 0, 1) := by decide +kernel
theorem dX9_nextPath_85 : decode cX9_nextPath 85 = .ok (.iload_n 1, 1) := by decide +kernel
theorem dX9_nextPath_86 : decode cX9_nextPath 86 = .ok (.invokevirtual 147, 3) := by decide +kernel
theorem dX9_nextPath_89 : decode cX9_nextPath 89 = .ok (.iload_n 2, 1) := by decide +kernel
theorem dX9_nextPath_90 : decode cX9_nextPath 90 = .ok (.if_icmp .ne (-56), 3) := by decide +kernel
theorem dX9_nextPath_93 : decode cX9_nextPath 93 = .ok (.iconst 1, 1) := by decide +kernel
theorem dX9_nextPath_94 : decode cX9_nextPath 94 = .ok (.ireturn, 1) := by decide +kernel
theorem dX9_paths_0 : decode cX9_paths 0 = .ok (.iload_n 1, 1) := by decide +kernel
theorem dX9_paths_1 : decode cX9_paths 1 = .ok (.iload_n 2, 1) := by decide +kernel
theorem dX9_paths_2 : decode cX9_paths 2 = .ok (.invokestatic 53, 3) := by decide +kernel
theorem dX9_paths_5 : decode cX9_paths 5 = .ok (.ifCond .eq 7, 3) := by decide +kernel
theorem dX9_paths_8 : decode cX9_paths 8 = .ok (.iload_n 3, 1) := by decide +kernel
theorem dX9_paths_9 : decode cX9_paths 9 = .ok (.ifCond .ge 6, 3) := by decide +kernel
theorem dX9_paths_12 : decode cX9_paths 12 = .ok (.bipush (-2), 2) := by decide +kernel
theorem dX9_paths_14 : decode cX9_paths 14 = .ok (.ireturn, 1) := by decide +kernel
theorem dX9_paths_15 : decode cX9_paths 15 = .ok (.iconst 0, 1) := by decide +kernel
theorem dX9_paths_16 : decode cX9_paths 16 = .ok (.istore 4, 2) := by decide +kernel
theorem dX9_paths_18 : decode cX9_paths 18 = .ok (.aload_n 0, 1) := by decide +kernel
theorem dX9_paths_19 : decode cX9_paths 19 = .ok (.iload_n 1, 1) := by decide +kernel
theorem dX9_paths_20 : decode cX9_paths 20 = .ok (.invokevirtual 156, 3) := by decide +kernel
theorem dX9_paths_23 : decode cX9_paths 23 = .ok (.aload_n 0, 1) := by decide +kernel
theorem dX9_paths_24 : decode cX9_paths 24 = .ok (.iload_n 1, 1) := by decide +kernel
theorem dX9_paths_25 : decode cX9_paths 25 = .ok (.iload_n 2, 1) := by decide +kernel
theorem dX9_paths_26 : decode cX9_paths 26 = .ok (.iconst 1, 1) := by decide +kernel
theorem dX9_paths_27 : decode cX9_paths 27 = .ok (.invokevirtual 159, 3) := by decide +kernel
theorem dX9_paths_30 : decode cX9_paths 30 = .ok (.istore 5, 2) := by decide +kernel
theorem dX9_paths_32 : decode cX9_paths 32 = .ok (.iload 5, 2) := by decide +kernel
theorem dX9_paths_34 : decode cX9_paths 34 = .ok (.ifCond .eq 33, 3) := by decide +kernel
theorem dX9_paths_37 : decode cX9_paths 37 = .ok (.iload 4, 2) := by decide +kernel
theorem dX9_paths_39 : decode cX9_paths 39 = .ok (.aload_n 0, 1) := by decide +kernel
theorem dX9_paths_40 : decode cX9_paths 40 = .ok (.getfield 141, 3) := by decide +kernel
theorem dX9_paths_43 : decode cX9_paths 43 = .ok (.iload_n 3, 1) := by decide +kernel
theorem dX9_paths_44 : decode cX9_paths 44 = .ok (.if_icmp .gt 7, 3) := by decide +kernel
theorem dX9_paths_47 : decode cX9_paths 47 = .ok (.iconst 1, 1) := by decide +kernel
theorem dX9_paths_48 : decode cX9_paths 48 = .ok (.goto 4, 3) := by decide +kernel
theorem dX9_paths_51 : decode cX9_paths 51 = .ok (.iconst 0, 1) := by decide +kernel
theorem dX9_paths_52 : decode cX9_paths 52 = .ok (.iadd, 1) := by decide +kernel
theorem dX9_paths_53 : decode cX9_paths 53 = .ok (.istore 4, 2) := by decide +kernel
theorem dX9_paths_55 : decode cX9_paths 55 = .ok (.aload_n 0, 1) := by decide +kernel
theorem dX9_paths_56 : decode cX9_paths 56 = .ok (.iload_n 1, 1) := by decide +kernel
theorem dX9_paths_57 : decode cX9_paths 57 = .ok (.iload_n 2, 1) := by decide +kernel
theorem dX9_paths_58 : decode cX9_paths 58 = .ok (.iconst 0, 1) := by decide +kernel
theorem dX9_paths_59 : decode cX9_paths 59 = .ok (.invokevirtual 159, 3) := by decide +kernel
theorem dX9_paths_62 : decode cX9_paths 62 = .ok (.istore 5, 2) := by decide +kernel
theorem dX9_paths_64 : decode cX9_paths 64 = .ok (.goto (-32), 3) := by decide +kernel
theorem dX9_paths_67 : decode cX9_paths 67 = .ok (.iload 4, 2) := by decide +kernel
theorem dX9_paths_69 : decode cX9_paths 69 = .ok (.ireturn, 1) := by decide +kernel
theorem dX9_pathLength_0 : decode cX9_pathLength 0 = .ok (.iload_n 1, 1) := by decide +kernel
theorem dX9_pathLength_1 : decode cX9_pathLength 1 = .ok (.iload_n 2, 1) := by decide +kernel
theorem dX9_pathLength_2 : decode cX9_pathLength 2 = .ok (.invokestatic 53, 3) := by decide +kernel
theorem dX9_pathLength_5 : decode cX9_pathLength 5 = .ok (.ifCond .eq 13, 3) := by decide +kernel
theorem dX9_pathLength_8 : decode cX9_pathLength 8 = .ok (.iload_n 3, 1) := by decide +kernel
theorem dX9_pathLength_9 : decode cX9_pathLength 9 = .ok (.iconst 0, 1) := by decide +kernel
theorem dX9_pathLength_10 : decode cX9_pathLength 10 = .ok (.bipush 99, 2) := by decide +kernel
theorem dX9_pathLength_12 : decode cX9_pathLength 12 = .ok (.invokestatic 38, 3) := by decide +kernel
theorem dX9_pathLength_15 : decode cX9_pathLength 15 = .ok (.ifCond .ne 6, 3) := by decide +kernel
theorem dX9_pathLength_18 : decode cX9_pathLength 18 = .ok (.bipush (-2), 2) := by decide +kernel
theorem dX9_pathLength_20 : decode cX9_pathLength 20 = .ok (.ireturn, 1) := by decide +kernel
theorem dX9_pathLength_21 : decode cX9_pathLength 21 = .ok (.iconst 0, 1) := by decide +kernel
theorem dX9_pathLength_22 : decode cX9_pathLength 22 = .ok (.istore 4, 2) := by decide +kernel
theorem dX9_pathLength_24 : decode cX9_pathLength 24 = .ok (.aload_n 0, 1) := by decide +kernel
theorem dX9_pathLength_25 : decode cX9_pathLength 25 = .ok (.iload_n 1, 1) := by decide +kernel
theorem dX9_pathLength_26 : decode cX9_pathLength 26 = .ok (.invokevirtual 156, 3) := by decide +kernel
theorem dX9_pathLength_29 : decode cX9_pathLength 29 = .ok (.aload_n 0, 1) := by decide +kernel
theorem dX9_pathLength_30 : decode cX9_pathLength 30 = .ok (.iload_n 1, 1) := by decide +kernel
theorem dX9_pathLength_31 : decode cX9_pathLength 31 = .ok (.iload_n 2, 1) := by decide +kernel
theorem dX9_pathLength_32 : decode cX9_pathLength 32 = .ok (.iconst 1, 1) := by decide +kernel
theorem dX9_pathLength_33 : decode cX9_pathLength 33 = .ok (.invokevirtual 159, 3) := by decide +kernel
theorem dX9_pathLength_36 : decode cX9_pathLength 36 = .ok (.istore 5, 2) := by decide +kernel
theorem dX9_pathLength_38 : decode cX9_pathLength 38 = .ok (.iload 5, 2) := by decide +kernel
theorem dX9_pathLength_40 : decode cX9_pathLength 40 = .ok (.ifCond .eq 105, 3) := by decide +kernel
theorem dX9_pathLength_43 : decode cX9_pathLength 43 = .ok (.iload 4, 2) := by decide +kernel
theorem dX9_pathLength_45 : decode cX9_pathLength 45 = .ok (.istore 6, 2) := by decide +kernel
theorem dX9_pathLength_47 : decode cX9_pathLength 47 = .ok (.iload 6, 2) := by decide +kernel
theorem dX9_pathLength_49 : decode cX9_pathLength 49 = .ok (.ifCond .le 48, 3) := by decide +kernel
theorem dX9_pathLength_52 : decode cX9_pathLength 52 = .ok (.aload_n 0, 1) := by decide +kernel
theorem dX9_pathLength_53 : decode cX9_pathLength 53 = .ok (.getfield 32, 3) := by decide +kernel
theorem dX9_pathLength_56 : decode cX9_pathLength 56 = .ok (.iload 6, 2) := by decide +kernel
theorem dX9_pathLength_58 : decode cX9_pathLength 58 = .ok (.iconst 1, 1) := by decide +kernel
theorem dX9_pathLength_59 : decode cX9_pathLength 59 = .ok (.isub, 1) := by decide +kernel
theorem dX9_pathLength_60 : decode cX9_pathLength 60 = .ok (.iaload, 1) := by decide +kernel
theorem dX9_pathLength_61 : decode cX9_pathLength 61 = .ok (.aload_n 0, 1) := by decide +kernel
theorem dX9_pathLength_62 : decode cX9_pathLength 62 = .ok (.getfield 141, 3) := by decide +kernel
theorem dX9_pathLength_65 : decode cX9_pathLength 65 = .ok (.if_icmp .le 32, 3) := by decide +kernel
theorem dX9_pathLength_68 : decode cX9_pathLength 68 = .ok (.iload 6, 2) := by decide +kernel
theorem dX9_pathLength_70 : decode cX9_pathLength 70 = .ok (.bipush 100, 2) := by decide +kernel
theorem dX9_pathLength_72 : decode cX9_pathLength 72 = .ok (.if_icmp .ge 19, 3) := by decide +kernel
theorem dX9_pathLength_75 : decode cX9_pathLength 75 = .ok (.aload_n 0, 1) := by decide +kernel
theorem dX9_pathLength_76 : decode cX9_pathLength 76 = .ok (.getfield 32, 3) := by decide +kernel
theorem dX9_pathLength_79 : decode cX9_pathLength 79 = .ok (.iload 6, 2) := by decide +kernel
theorem dX9_pathLength_81 : decode cX9_pathLength 81 = .ok (.aload_n 0, 1) := by decide +kernel
theorem dX9_pathLength_82 : decode cX9_pathLength 82 = .ok (.getfield 32, 3) := by decide +kernel
theorem dX9_pathLength_85 : decode cX9_pathLength 85 = .ok (.iload 6, 2) := by decide +kernel
theorem dX9_pathLength_87 : decode cX9_pathLength 87 = .ok (.iconst 1, 1) := by decide +kernel
theorem dX9_pathLength_88 : decode cX9_pathLength 88 = .ok (.isub, 1) := by decide +kernel
theorem dX9_pathLength_89 : decode cX9_pathLength 89 = .ok (.iaload, 1) := by decide +kernel
theorem dX9_pathLength_90 : decode cX9_pathLength 90 = .ok (.iastore, 1) := by decide +kernel
theorem dX9_pathLength_91 : decode cX9_pathLength 91 = .ok (.iinc 6 (-1), 3) := by decide +kernel
theorem dX9_pathLength_94 : decode cX9_pathLength 94 = .ok (.goto (-47), 3) := by decide +kernel
theorem dX9_pathLength_97 : decode cX9_pathLength 97 = .ok (.iload 6, 2) := by decide +kernel
theorem dX9_pathLength_99 : decode cX9_pathLength 99 = .ok (.bipush 100, 2) := by decide +kernel
theorem dX9_pathLength_101 : decode cX9_pathLength 101 = .ok (.if_icmp .ge 32, 3) := by decide +kernel
theorem dX9_pathLength_104 : decode cX9_pathLength 104 = .ok (.aload_n 0, 1) := by decide +kernel
theorem dX9_pathLength_105 : decode cX9_pathLength 105 = .ok (.getfield 32, 3) := by decide +kernel
theorem dX9_pathLength_108 : decode cX9_pathLength 108 = .ok (.iload 6, 2) := by decide +kernel
theorem dX9_pathLength_110 : decode cX9_pathLength 110 = .ok (.aload_n 0, 1) := by decide +kernel
theorem dX9_pathLength_111 : decode cX9_pathLength 111 = .ok (.getfield 141, 3) := by decide +kernel
theorem dX9_pathLength_114 : decode cX9_pathLength 114 = .ok (.iastore, 1) := by decide +kernel
theorem dX9_pathLength_115 : decode cX9_pathLength 115 = .ok (.iload 4, 2) := by decide +kernel
theorem dX9_pathLength_117 : decode cX9_pathLength 117 = .ok (.bipush 100, 2) := by decide +kernel
theorem dX9_pathLength_119 : decode cX9_pathLength 119 = .ok (.if_icmp .ge 10, 3) := by decide +kernel
theorem dX9_pathLength_122 : decode cX9_pathLength 122 = .ok (.iload 4, 2) := by decide +kernel
theorem dX9_pathLength_124 : decode cX9_pathLength 124 = .ok (.iconst 1, 1) := by decide +kernel
theorem dX9_pathLength_125 : decode cX9_pathLength 125 = .ok (.iadd, 1) := by decide +kernel
theorem dX9_pathLength_126 : decode cX9_pathLength 126 = .ok (.goto 5, 3) := by decide +kernel
theorem dX9_pathLength_129 : decode cX9_pathLength 129 = .ok (.iload 4, 2) := by decide +kernel
theorem dX9_pathLength_131 : decode cX9_pathLength 131 = .ok (.istore 4, 2) := by decide +kernel
theorem dX9_pathLength_133 : decode cX9_pathLength 133 = .ok (.aload_n 0, 1) := by decide +kernel
theorem dX9_pathLength_134 : decode cX9_pathLength 134 = .ok (.iload_n 1, 1) := by decide +kernel
theorem dX9_pathLength_135 : decode cX9_pathLength 135 = .ok (.iload_n 2, 1) := by decide +kernel
theorem dX9_pathLength_136 : decode cX9_pathLength 136 = .ok (.iconst 0, 1) := by decide +kernel
theorem dX9_pathLength_137 : decode cX9_pathLength 137 = .ok (.invokevirtual 159, 3) := by decide +kernel
theorem dX9_pathLength_140 : decode cX9_pathLength 140 = .ok (.istore 5, 2) := by decide +kernel
theorem dX9_pathLength_142 : decode cX9_pathLength 142 = .ok (.goto (-104), 3) := by decide +kernel
theorem dX9_pathLength_145 : decode cX9_pathLength 145 = .ok (.iload_n 3, 1) := by decide +kernel
theorem dX9_pathLength_146 : decode cX9_pathLength 146 = .ok (.iload 4, 2) := by decide +kernel
theorem dX9_pathLength_148 : decode cX9_pathLength 148 = .ok (.if_icmp .ge 12, 3) := by decide +kernel
theorem dX9_pathLength_151 : decode cX9_pathLength 151 = .ok (.aload_n 0, 1) := by decide +kernel
theorem dX9_pathLength_152 : decode cX9_pathLength 152 = .ok (.getfield 32, 3) := by decide +kernel
theorem dX9_pathLength_155 : decode cX9_pathLength 155 = .ok (.iload_n 3, 1) := by decide +kernel
theorem dX9_pathLength_156 : decode cX9_pathLength 156 = .ok (.iaload, 1) := by decide +kernel
theorem dX9_pathLength_157 : decode cX9_pathLength 157 = .ok (.goto 4, 3) := by decide +kernel
theorem dX9_pathLength_160 : decode cX9_pathLength 160 = .ok (.iconst (-1), 1) := by decide +kernel
theorem dX9_pathLength_161 : decode cX9_pathLength 161 = .ok (.ireturn, 1) := by decide +kernel
theorem dX9_first_0 : decode cX9_first 0 = .ok (.iload_n 1, 1) := by decide +kernel
theorem dX9_first_1 : decode cX9_first 1 = .ok (.iload_n 2, 1) := by decide +kernel
theorem dX9_first_2 : decode cX9_first 2 = .ok (.invokestatic 53, 3) := by decide +kernel
theorem dX9_first_5 : decode cX9_first 5 = .ok (.ifCond .eq 8, 3) := by decide +kernel
theorem dX9_first_8 : decode cX9_first 8 = .ok (.iload_n 3, 1) := by decide +kernel
theorem dX9_first_9 : decode cX9_first 9 = .ok (.iconst (-1), 1) := by decide +kernel
theorem dX9_first_10 : decode cX9_first 10 = .ok (.if_icmp .ge 6, 3) := by decide +kernel
theorem dX9_first_13 : decode cX9_first 13 = .ok (.bipush (-2), 2) := by decide +kernel
theorem dX9_first_15 : decode cX9_first 15 = .ok (.ireturn, 1) := by decide +kernel
theorem dX9_first_16 : decode cX9_first 16 = .ok (.sipush 9999, 3) := by decide +kernel
theorem dX9_first_19 : decode cX9_first 19 = .ok (.istore 4, 2) := by decide +kernel
theorem dX9_first_21 : decode cX9_first 21 = .ok (.iconst (-1), 1) := by decide +kernel
theorem dX9_first_22 : decode cX9_first 22 = .ok (.istore 5, 2) := by decide +kernel
theorem dX9_first_24 : decode cX9_first 24 = .ok (.aload_n 0, 1) := by decide +kernel
theorem dX9_first_25 : decode cX9_first 25 = .ok (.iload_n 1, 1) := by decide +kernel
theorem dX9_first_26 : decode cX9_first 26 = .ok (.invokevirtual 156, 3) := by decide +kernel
theorem dX9_first_29 : decode cX9_first 29 = .ok (.aload_n 0, 1) := by decide +kernel
theorem dX9_first_30 : decode cX9_first 30 = .ok (.iload_n 1, 1) := by decide +kernel
theorem dX9_first_31 : decode cX9_first 31 = .ok (.iload_n 2, 1) := by decide +kernel
theorem dX9_first_32 : decode cX9_first 32 = .ok (.iconst 1, 1) := by decide +kernel
theorem dX9_first_33 : decode cX9_first 33 = .ok (.invokevirtual 159, 3) := by decide +kernel
theorem dX9_first_36 : decode cX9_first 36 = .ok (.istore 6, 2) := by decide +kernel
theorem dX9_first_38 : decode cX9_first 38 = .ok (.iload 6, 2) := by decide +kernel
theorem dX9_first_40 : decode cX9_first 40 = .ok (.ifCond .eq 68, 3) := by decide +kernel
theorem dX9_first_43 : decode cX9_first 43 = .ok (.aload_n 0, 1) := by decide +kernel
theorem dX9_first_44 : decode cX9_first 44 = .ok (.getfield 141, 3) := by decide +kernel
theorem dX9_first_47 : decode cX9_first 47 = .ok (.iload 4, 2) := by decide +kernel
theorem dX9_first_49 : decode cX9_first 49 = .ok (.if_icmp .ge 47, 3) := by decide +kernel
theorem dX9_first_52 : decode cX9_first 52 = .ok (.aload_n 0, 1) := by decide +kernel
theorem dX9_first_53 : decode cX9_first 53 = .ok (.getfield 141, 3) := by decide +kernel
theorem dX9_first_56 : decode cX9_first 56 = .ok (.istore 4, 2) := by decide +kernel
theorem dX9_first_58 : decode cX9_first 58 = .ok (.aload_n 0, 1) := by decide +kernel
theorem dX9_first_59 : decode cX9_first 59 = .ok (.getfield 138, 3) := by decide +kernel
theorem dX9_first_62 : decode cX9_first 62 = .ok (.istore 5, 2) := by decide +kernel
theorem dX9_first_64 : decode cX9_first 64 = .ok (.iconst 0, 1) := by decide +kernel
theorem dX9_first_65 : decode cX9_first 65 = .ok (.istore 7, 2) := by decide +kernel
theorem dX9_first_67 : decode cX9_first 67 = .ok (.iload 7, 2) := by decide +kernel
theorem dX9_first_69 : decode cX9_first 69 = .ok (.aload_n 0, 1) := by decide +kernel
theorem dX9_first_70 : decode cX9_first 70 = .ok (.getfield 138, 3) := by decide +kernel
theorem dX9_first_73 : decode cX9_first 73 = .ok (.if_icmp .ge 23, 3) := by decide +kernel
theorem dX9_first_76 : decode cX9_first 76 = .ok (.aload_n 0, 1) := by decide +kernel
theorem dX9_first_77 : decode cX9_first 77 = .ok (.getfield 35, 3) := by decide +kernel
theorem dX9_first_80 : decode cX9_first 80 = .ok (.iload 7, 2) := by decide +kernel
theorem dX9_first_82 : decode cX9_first 82 = .ok (.aload_n 0, 1) := by decide +kernel
theorem dX9_first_83 : decode cX9_first 83 = .ok (.getfield 29, 3) := by decide +kernel
theorem dX9_first_86 : decode cX9_first 86 = .ok (.iload 7, 2) := by decide +kernel
theorem dX9_first_88 : decode cX9_first 88 = .ok (.iaload, 1) := by decide +kernel
theorem dX9_first_89 : decode cX9_first 89 = .ok (.iastore, 1) := by decide +kernel
theorem dX9_first_90 : decode cX9_first 90 = .ok (.iinc 7 1, 3) := by decide +kernel
theorem dX9_first_93 : decode cX9_first 93 = .ok (.goto (-26), 3) := by decide +kernel
theorem dX9_first_96 : decode cX9_first 96 = .ok (.aload_n 0, 1) := by decide +kernel
theorem dX9_first_97 : decode cX9_first 97 = .ok (.iload_n 1, 1) := by decide +kernel
theorem dX9_first_98 : decode cX9_first 98 = .ok (.iload_n 2, 1) := by decide +kernel
theorem dX9_first_99 : decode cX9_first 99 = .ok (.iconst 0, 1) := by decide +kernel
theorem dX9_first_100 : decode cX9_first 100 = .ok (.invokevirtual 159, 3) := by decide +kernel
theorem dX9_first_103 : decode cX9_first 103 = .ok (.istore 6, 2) := by decide +kernel
theorem dX9_first_105 : decode cX9_first 105 = .ok (.goto (-67), 3) := by decide +kernel
theorem dX9_first_108 : decode cX9_first 108 = .ok (.iload_n 3, 1) := by decide +kernel
theorem dX9_first_109 : decode cX9_first 109 = .ok (.iconst (-1), 1) := by decide +kernel
theorem dX9_first_110 : decode cX9_first 110 = .ok (.if_icmp .ne 6, 3) := by decide +kernel
theorem dX9_first_113 : decode cX9_first 113 = .ok (.iload 5, 2) := by decide +kernel
theorem dX9_first_115 : decode cX9_first 115 = .ok (.ireturn, 1) := by decide +kernel
theorem dX9_first_116 : decode cX9_first 116 = .ok (.iload_n 3, 1) := by decide +kernel
theorem dX9_first_117 : decode cX9_first 117 = .ok (.iload 5, 2) := by decide +kernel
theorem dX9_first_119 : decode cX9_first 119 = .ok (.if_icmp .ge 12, 3) := by decide +kernel
theorem dX9_first_122 : decode cX9_first 122 = .ok (.aload_n 0, 1) := by decide +kernel
theorem dX9_first_123 : decode cX9_first 123 = .ok (.getfield 35, 3) := by decide +kernel
theorem dX9_first_126 : decode cX9_first 126 = .ok (.iload_n 3, 1) := by decide +kernel
theorem dX9_first_127 : decode cX9_first 127 = .ok (.iaload, 1) := by decide +kernel
theorem dX9_first_128 : decode cX9_first 128 = .ok (.goto 4, 3) := by decide +kernel
theorem dX9_first_131 : decode cX9_first 131 = .ok (.iconst (-1), 1) := by decide +kernel
theorem dX9_first_132 : decode cX9_first 132 = .ok (.ireturn, 1) := by decide +kernel
theorem dX9_tight_0 : decode cX9_tight 0 = .ok (.iload_n 1, 1) := by decide +kernel
theorem dX9_tight_1 : decode cX9_tight 1 = .ok (.iload_n 2, 1) := by decide +kernel
theorem dX9_tight_2 : decode cX9_tight 2 = .ok (.invokestatic 53, 3) := by decide +kernel
theorem dX9_tight_5 : decode cX9_tight 5 = .ok (.ifCond .ne 6, 3) := by decide +kernel
theorem dX9_tight_8 : decode cX9_tight 8 = .ok (.bipush (-2), 2) := by decide +kernel
theorem dX9_tight_10 : decode cX9_tight 10 = .ok (.ireturn, 1) := by decide +kernel
theorem dX9_tight_11 : decode cX9_tight 11 = .ok (.aload_n 0, 1) := by decide +kernel
theorem dX9_tight_12 : decode cX9_tight 12 = .ok (.iload_n 1, 1) := by decide +kernel
theorem dX9_tight_13 : decode cX9_tight 13 = .ok (.iload_n 2, 1) := by decide +kernel
theorem dX9_tight_14 : decode cX9_tight 14 = .ok (.aload_n 0, 1) := by decide +kernel
theorem dX9_tight_15 : decode cX9_tight 15 = .ok (.getfield 7, 3) := by decide +kernel
theorem dX9_tight_18 : decode cX9_tight 18 = .ok (.bipush 81, 2) := by decide +kernel
theorem dX9_tight_20 : decode cX9_tight 20 = .ok (.iaload, 1) := by decide +kernel
theorem dX9_tight_21 : decode cX9_tight 21 = .ok (.iconst 0, 1) := by decide +kernel
theorem dX9_tight_22 : decode cX9_tight 22 = .ok (.invokevirtual 134, 3) := by decide +kernel
theorem dX9_tight_25 : decode cX9_tight 25 = .ok (.istore_n 3, 1) := by decide +kernel
theorem dX9_tight_26 : decode cX9_tight 26 = .ok (.iconst 0, 1) := by decide +kernel
theorem dX9_tight_27 : decode cX9_tight 27 = .ok (.istore 4, 2) := by decide +kernel
theorem dX9_tight_29 : decode cX9_tight 29 = .ok (.iconst 0, 1) := by decide +kernel
theorem dX9_tight_30 : decode cX9_tight 30 = .ok (.istore 5, 2) := by decide +kernel
theorem dX9_tight_32 : decode cX9_tight 32 = .ok (.iload 5, 2) := by decide +kernel
theorem dX9_tight_34 : decode cX9_tight 34 = .ok (.aload_n 0, 1) := by decide +kernel
theorem dX9_tight_35 : decode cX9_tight 35 = .ok (.getfield 7, 3) := by decide +kernel
theorem dX9_tight_38 : decode cX9_tight 38 = .ok (.bipush 80, 2) := by decide +kernel
theorem dX9_tight_40 : decode cX9_tight 40 = .ok (.iaload, 1) := by decide +kernel
theorem dX9_tight_41 : decode cX9_tight 41 = .ok (.if_icmp .ge 101, 3) := by decide +kernel
theorem dX9_tight_44 : decode cX9_tight 44 = .ok (.iload_n 1, 1) := by decide +kernel
theorem dX9_tight_45 : decode cX9_tight 45 = .ok (.iload_n 2, 1) := by decide +kernel
theorem dX9_tight_46 : decode cX9_tight 46 = .ok (.if_icmp .eq 96, 3) := by decide +kernel
theorem dX9_tight_49 : decode cX9_tight 49 = .ok (.iload_n 3, 1) := by decide +kernel
theorem dX9_tight_50 : decode cX9_tight 50 = .ok (.sipush 9999, 3) := by decide +kernel
theorem dX9_tight_53 : decode cX9_tight 53 = .ok (.if_icmp .ge 89, 3) := by decide +kernel
theorem dX9_tight_56 : decode cX9_tight 56 = .ok (.aload_n 0, 1) := by decide +kernel
theorem dX9_tight_57 : decode cX9_tight 57 = .ok (.iload_n 1, 1) := by decide +kernel
theorem dX9_tight_58 : decode cX9_tight 58 = .ok (.aload_n 0, 1) := by decide +kernel
theorem dX9_tight_59 : decode cX9_tight 59 = .ok (.iload 5, 2) := by decide +kernel
theorem dX9_tight_61 : decode cX9_tight 61 = .ok (.iconst 0, 1) := by decide +kernel
theorem dX9_tight_62 : decode cX9_tight 62 = .ok (.invokevirtual 46, 3) := by decide +kernel
theorem dX9_tight_65 : decode cX9_tight 65 = .ok (.aload_n 0, 1) := by decide +kernel
theorem dX9_tight_66 : decode cX9_tight 66 = .ok (.getfield 7, 3) := by decide +kernel
theorem dX9_tight_69 : decode cX9_tight 69 = .ok (.bipush 81, 2) := by decide +kernel
theorem dX9_tight_71 : decode cX9_tight 71 = .ok (.iaload, 1) := by decide +kernel
theorem dX9_tight_72 : decode cX9_tight 72 = .ok (.iconst 0, 1) := by decide +kernel
theorem dX9_tight_73 : decode cX9_tight 73 = .ok (.invokevirtual 134, 3) := by decide +kernel
theorem dX9_tight_76 : decode cX9_tight 76 = .ok (.istore 6, 2) := by decide +kernel
theorem dX9_tight_78 : decode cX9_tight 78 = .ok (.aload_n 0, 1) := by decide +kernel
theorem dX9_tight_79 : decode cX9_tight 79 = .ok (.aload_n 0, 1) := by decide +kernel
theorem dX9_tight_80 : decode cX9_tight 80 = .ok (.iload 5, 2) := by decide +kernel
theorem dX9_tight_82 : decode cX9_tight 82 = .ok (.iconst 1, 1) := by decide +kernel
theorem dX9_tight_83 : decode cX9_tight 83 = .ok (.invokevirtual 46, 3) := by decide +kernel
theorem dX9_tight_86 : decode cX9_tight 86 = .ok (.iload_n 2, 1) := by decide +kernel
theorem dX9_tight_87 : decode cX9_tight 87 = .ok (.aload_n 0, 1) := by decide +kernel
theorem dX9_tight_88 : decode cX9_tight 88 = .ok (.getfield 7, 3) := by decide +kernel
theorem dX9_tight_91 : decode cX9_tight 91 = .ok (.bipush 81, 2) := by decide +kernel
theorem dX9_tight_93 : decode cX9_tight 93 = .ok (.iaload, 1) := by decide +kernel
theorem dX9_tight_94 : decode cX9_tight 94 = .ok (.iconst 0, 1) := by decide +kernel
theorem dX9_tight_95 : decode cX9_tight 95 = .ok (.invokevirtual 134, 3) := by decide +kernel
theorem dX9_tight_98 : decode cX9_tight 98 = .ok (.istore 7, 2) := by decide +kernel
theorem dX9_tight_100 : decode cX9_tight 100 = .ok (.iload 4, 2) := by decide +kernel
theorem dX9_tight_102 : decode cX9_tight 102 = .ok (.iload 6, 2) := by decide +kernel
theorem dX9_tight_104 : decode cX9_tight 104 = .ok (.aload_n 0, 1) := by decide +kernel
theorem dX9_tight_105 : decode cX9_tight 105 = .ok (.iload 5, 2) := by decide +kernel
theorem dX9_tight_107 : decode cX9_tight 107 = .ok (.aload_n 0, 1) := by decide +kernel
theorem dX9_tight_108 : decode cX9_tight 108 = .ok (.getfield 7, 3) := by decide +kernel
theorem dX9_tight_111 : decode cX9_tight 111 = .ok (.bipush 81, 2) := by decide +kernel
theorem dX9_tight_113 : decode cX9_tight 113 = .ok (.iaload, 1) := by decide +kernel
theorem dX9_tight_114 : decode cX9_tight 114 = .ok (.invokevirtual 124, 3) := by decide +kernel
theorem dX9_tight_117 : decode cX9_tight 117 = .ok (.iadd, 1) := by decide +kernel
theorem dX9_tight_118 : decode cX9_tight 118 = .ok (.iload 7, 2) := by decide +kernel
theorem dX9_tight_120 : decode cX9_tight 120 = .ok (.iadd, 1) := by decide +kernel
theorem dX9_tight_121 : decode cX9_tight 121 = .ok (.iload_n 3, 1) := by decide +kernel
theorem dX9_tight_122 : decode cX9_tight 122 = .ok (.if_icmp .ne 10, 3) := by decide +kernel
theorem dX9_tight_125 : decode cX9_tight 125 = .ok (.iconst 1, 1) := by decide +kernel
theorem dX9_tight_126 : decode cX9_tight 126 = .ok (.iload 5, 2) := by decide +kernel
theorem dX9_tight_128 : decode cX9_tight 128 = .ok (.ishl, 1) := by decide +kernel
theorem dX9_tight_129 : decode cX9_tight 129 = .ok (.goto 4, 3) := by decide +kernel
theorem dX9_tight_132 : decode cX9_tight 132 = .ok (.iconst 0, 1) := by decide +kernel
theorem dX9_tight_133 : decode cX9_tight 133 = .ok (.ior, 1) := by decide +kernel
theorem dX9_tight_134 : decode cX9_tight 134 = .ok (.istore 4, 2) := by decide +kernel
theorem dX9_tight_136 : decode cX9_tight 136 = .ok (.iinc 5 1, 3) := by decide +kernel
theorem dX9_tight_139 : decode cX9_tight 139 = .ok (.goto (-107), 3) := by decide +kernel
theorem dX9_tight_142 : decode cX9_tight 142 = .ok (.iload 4, 2) := by decide +kernel
theorem dX9_tight_144 : decode cX9_tight 144 = .ok (.ireturn, 1) := by decide +kernel
theorem dX9_bestFar_0 : decode cX9_bestFar 0 = .ok (.iconst (-1), 1) := by decide +kernel
theorem dX9_bestFar_1 : decode cX9_bestFar 1 = .ok (.istore 6, 2) := by decide +kernel
theorem dX9_bestFar_3 : decode cX9_bestFar 3 = .ok (.iconst 0, 1) := by decide +kernel
theorem dX9_bestFar_4 : decode cX9_bestFar 4 = .ok (.istore 7, 2) := by decide +kernel
theorem dX9_bestFar_6 : decode cX9_bestFar 6 = .ok (.iconst 0, 1) := by decide +kernel
theorem dX9_bestFar_7 : decode cX9_bestFar 7 = .ok (.istore 8, 2) := by decide +kernel
theorem dX9_bestFar_9 : decode cX9_bestFar 9 = .ok (.iload 8, 2) := by decide +kernel
theorem dX9_bestFar_11 : decode cX9_bestFar 11 = .ok (.iconst 1, 1) := by decide +kernel
theorem dX9_bestFar_12 : decode cX9_bestFar 12 = .ok (.aload_n 0, 1) := by decide +kernel
theorem dX9_bestFar_13 : decode cX9_bestFar 13 = .ok (.getfield 7, 3) := by decide +kernel
theorem dX9_bestFar_16 : decode cX9_bestFar 16 = .ok (.bipush 80, 2) := by decide +kernel
theorem dX9_bestFar_18 : decode cX9_bestFar 18 = .ok (.iaload, 1) := by decide +kernel
theorem dX9_bestFar_19 : decode cX9_bestFar 19 = .ok (.ishl, 1) := by decide +kernel
theorem dX9_bestFar_20 : decode cX9_bestFar 20 = .ok (.if_icmp .ge 83, 3) := by decide +kernel
theorem dX9_bestFar_23 : decode cX9_bestFar 23 = .ok (.iload 8, 2) := by decide +kernel
theorem dX9_bestFar_25 : decode cX9_bestFar 25 = .ok (.iload 4, 2) := by decide +kernel
theorem dX9_bestFar_27 : decode cX9_bestFar 27 = .ok (.iand, 1) := by decide +kernel
theorem dX9_bestFar_28 : decode cX9_bestFar 28 = .ok (.ifCond .ne 12, 3) := by decide +kernel
theorem dX9_bestFar_31 : decode cX9_bestFar 31 = .ok (.aload_n 0, 1) := by decide +kernel
theorem dX9_bestFar_32 : decode cX9_bestFar 32 = .ok (.iload 8, 2) := by decide +kernel
theorem dX9_bestFar_34 : decode cX9_bestFar 34 = .ok (.invokevirtual 118, 3) := by decide +kernel
theorem dX9_bestFar_37 : decode cX9_bestFar 37 = .ok (.goto 5, 3) := by decide +kernel
theorem dX9_bestFar_40 : decode cX9_bestFar 40 = .ok (.bipush 100, 2) := by decide +kernel
theorem dX9_bestFar_42 : decode cX9_bestFar 42 = .ok (.istore 9, 2) := by decide +kernel
theorem dX9_bestFar_44 : decode cX9_bestFar 44 = .ok (.iload 9, 2) := by decide +kernel
theorem dX9_bestFar_46 : decode cX9_bestFar 46 = .ok (.iload_n 3, 1) := by decide +kernel
theorem dX9_bestFar_47 : decode cX9_bestFar 47 = .ok (.if_icmp .gt 50, 3) := by decide +kernel
theorem dX9_bestFar_50 : decode cX9_bestFar 50 = .ok (.aload_n 0, 1) := by decide +kernel
theorem dX9_bestFar_51 : decode cX9_bestFar 51 = .ok (.iload_n 1, 1) := by decide +kernel
theorem dX9_bestFar_52 : decode cX9_bestFar 52 = .ok (.iload_n 2, 1) := by decide +kernel
theorem dX9_bestFar_53 : decode cX9_bestFar 53 = .ok (.iload 8, 2) := by decide +kernel
theorem dX9_bestFar_55 : decode cX9_bestFar 55 = .ok (.iload 5, 2) := by decide +kernel
theorem dX9_bestFar_57 : decode cX9_bestFar 57 = .ok (.invokevirtual 134, 3) := by decide +kernel
theorem dX9_bestFar_60 : decode cX9_bestFar 60 = .ok (.istore 10, 2) := by decide +kernel
theorem dX9_bestFar_62 : decode cX9_bestFar 62 = .ok (.iload 10, 2) := by decide +kernel
theorem dX9_bestFar_64 : decode cX9_bestFar 64 = .ok (.iload 6, 2) := by decide +kernel
theorem dX9_bestFar_66 : decode cX9_bestFar 66 = .ok (.if_icmp .gt 17, 3) := by decide +kernel
theorem dX9_bestFar_69 : decode cX9_bestFar 69 = .ok (.iload 10, 2) := by decide +kernel
theorem dX9_bestFar_71 : decode cX9_bestFar 71 = .ok (.iload 6, 2) := by decide +kernel
theorem dX9_bestFar_73 : decode cX9_bestFar 73 = .ok (.if_icmp .ne 24, 3) := by decide +kernel
theorem dX9_bestFar_76 : decode cX9_bestFar 76 = .ok (.iload 9, 2) := by decide +kernel
theorem dX9_bestFar_78 : decode cX9_bestFar 78 = .ok (.iload 7, 2) := by decide +kernel
theorem dX9_bestFar_80 : decode cX9_bestFar 80 = .ok (.if_icmp .ge 17, 3) := by decide +kernel
theorem dX9_bestFar_83 : decode cX9_bestFar 83 = .ok (.iload 10, 2) := by decide +kernel
theorem dX9_bestFar_85 : decode cX9_bestFar 85 = .ok (.istore 6, 2) := by decide +kernel
theorem dX9_bestFar_87 : decode cX9_bestFar 87 = .ok (.iload 9, 2) := by decide +kernel
theorem dX9_bestFar_89 : decode cX9_bestFar 89 = .ok (.istore 7, 2) := by decide +kernel
theorem dX9_bestFar_91 : decode cX9_bestFar 91 = .ok (.aload_n 0, 1) := by decide +kernel
theorem dX9_bestFar_92 : decode cX9_bestFar 92 = .ok (.iload 8, 2) := by decide +kernel
theorem dX9_bestFar_94 : decode cX9_bestFar 94 = .ok (.putfield 163, 3) := by decide +kernel
theorem dX9_bestFar_97 : decode cX9_bestFar 97 = .ok (.iinc 8 1, 3) := by decide +kernel
theorem dX9_bestFar_100 : decode cX9_bestFar 100 = .ok (.goto (-91), 3) := by decide +kernel
theorem dX9_bestFar_103 : decode cX9_bestFar 103 = .ok (.iload 6, 2) := by decide +kernel
theorem dX9_bestFar_105 : decode cX9_bestFar 105 = .ok (.ireturn, 1) := by decide +kernel
theorem dX9_interdict_0 : decode cX9_interdict 0 = .ok (.iload_n 1, 1) := by decide +kernel
theorem dX9_interdict_1 : decode cX9_interdict 1 = .ok (.iload_n 2, 1) := by decide +kernel
theorem dX9_interdict_2 : decode cX9_interdict 2 = .ok (.invokestatic 53, 3) := by decide +kernel
theorem dX9_interdict_5 : decode cX9_interdict 5 = .ok (.ifCond .eq 12, 3) := by decide +kernel
theorem dX9_interdict_8 : decode cX9_interdict 8 = .ok (.iload_n 3, 1) := by decide +kernel
theorem dX9_interdict_9 : decode cX9_interdict 9 = .ok (.iconst 0, 1) := by decide +kernel
theorem dX9_interdict_10 : decode cX9_interdict 10 = .ok (.iconst 5, 1) := by decide +kernel
theorem dX9_interdict_11 : decode cX9_interdict 11 = .ok (.invokestatic 38, 3) := by decide +kernel
theorem dX9_interdict_14 : decode cX9_interdict 14 = .ok (.ifCond .ne 6, 3) := by decide +kernel
theorem dX9_interdict_17 : decode cX9_interdict 17 = .ok (.bipush (-2), 2) := by decide +kernel
theorem dX9_interdict_19 : decode cX9_interdict 19 = .ok (.ireturn, 1) := by decide +kernel
theorem dX9_interdict_20 : decode cX9_interdict 20 = .ok (.aload_n 0, 1) := by decide +kernel
theorem dX9_interdict_21 : decode cX9_interdict 21 = .ok (.iload_n 1, 1) := by decide +kernel
theorem dX9_interdict_22 : decode cX9_interdict 22 = .ok (.iload_n 2, 1) := by decide +kernel
theorem dX9_interdict_23 : decode cX9_interdict 23 = .ok (.iload_n 3, 1) := by decide +kernel
theorem dX9_interdict_24 : decode cX9_interdict 24 = .ok (.iconst 0, 1) := by decide +kernel
theorem dX9_interdict_25 : decode cX9_interdict 25 = .ok (.iconst 0, 1) := by decide +kernel
theorem dX9_interdict_26 : decode cX9_interdict 26 = .ok (.invokevirtual 166, 3) := by decide +kernel
theorem dX9_interdict_29 : decode cX9_interdict 29 = .ok (.istore 4, 2) := by decide +kernel
theorem dX9_interdict_31 : decode cX9_interdict 31 = .ok (.aload_n 0, 1) := by decide +kernel
theorem dX9_interdict_32 : decode cX9_interdict 32 = .ok (.aload_n 0, 1) := by decide +kernel
theorem dX9_interdict_33 : decode cX9_interdict 33 = .ok (.getfield 163, 3) := by decide +kernel
theorem dX9_interdict_36 : decode cX9_interdict 36 = .ok (.putfield 16, 3) := by decide +kernel
theorem dX9_interdict_39 : decode cX9_interdict 39 = .ok (.iload 4, 2) := by decide +kernel
theorem dX9_interdict_41 : decode cX9_interdict 41 = .ok (.ireturn, 1) := by decide +kernel
theorem dX9_step_0 : decode cX9_step 0 = .ok (.iconst (-1), 1) := by decide +kernel
theorem dX9_step_1 : decode cX9_step 1 = .ok (.istore 5, 2) := by decide +kernel
theorem dX9_step_3 : decode cX9_step 3 = .ok (.iconst 0, 1) := by decide +kernel
theorem dX9_step_4 : decode cX9_step 4 = .ok (.istore 6, 2) := by decide +kernel
theorem dX9_step_6 : decode cX9_step 6 = .ok (.iconst 0, 1) := by decide +kernel
theorem dX9_step_7 : decode cX9_step 7 = .ok (.istore 7, 2) := by decide +kernel
theorem dX9_step_9 : decode cX9_step 9 = .ok (.iload 7, 2) := by decide +kernel
theorem dX9_step_11 : decode cX9_step 11 = .ok (.aload_n 0, 1) := by decide +kernel
theorem dX9_step_12 : decode cX9_step 12 = .ok (.getfield 7, 3) := by decide +kernel
theorem dX9_step_15 : decode cX9_step 15 = .ok (.bipush 80, 2) := by decide +kernel
theorem dX9_step_17 : decode cX9_step 17 = .ok (.iaload, 1) := by decide +kernel
theorem dX9_step_18 : decode cX9_step 18 = .ok (.if_icmp .ge 122, 3) := by decide +kernel
theorem dX9_step_21 : decode cX9_step 21 = .ok (.iload 4, 2) := by decide +kernel
theorem dX9_step_23 : decode cX9_step 23 = .ok (.iload 7, 2) := by decide +kernel
theorem dX9_step_25 : decode cX9_step 25 = .ok (.invokestatic 42, 3) := by decide +kernel
theorem dX9_step_28 : decode cX9_step 28 = .ok (.ifCond .ne 106, 3) := by decide +kernel
theorem dX9_step_31 : decode cX9_step 31 = .ok (.aload_n 0, 1) := by decide +kernel
theorem dX9_step_32 : decode cX9_step 32 = .ok (.iload 4, 2) := by decide +kernel
theorem dX9_step_34 : decode cX9_step 34 = .ok (.iconst 1, 1) := by decide +kernel
theorem dX9_step_35 : decode cX9_step 35 = .ok (.iload 7, 2) := by decide +kernel
theorem dX9_step_37 : decode cX9_step 37 = .ok (.ishl, 1) := by decide +kernel
theorem dX9_step_38 : decode cX9_step 38 = .ok (.ior, 1) := by decide +kernel
theorem dX9_step_39 : decode cX9_step 39 = .ok (.invokevirtual 118, 3) := by decide +kernel
theorem dX9_step_42 : decode cX9_step 42 = .ok (.iload_n 3, 1) := by decide +kernel
theorem dX9_step_43 : decode cX9_step 43 = .ok (.if_icmp .gt 91, 3) := by decide +kernel
theorem dX9_step_46 : decode cX9_step 46 = .ok (.aload_n 0, 1) := by decide +kernel
theorem dX9_step_47 : decode cX9_step 47 = .ok (.iload_n 1, 1) := by decide +kernel
theorem dX9_step_48 : decode cX9_step 48 = .ok (.iload_n 2, 1) := by decide +kernel
theorem dX9_step_49 : decode cX9_step 49 = .ok (.iload 4, 2) := by decide +kernel
theorem dX9_step_51 : decode cX9_step 51 = .ok (.iconst 1, 1) := by decide +kernel
theorem dX9_step_52 : decode cX9_step 52 = .ok (.iload 7, 2) := by decide +kernel
theorem dX9_step_54 : decode cX9_step 54 = .ok (.ishl, 1) := by decide +kernel
theorem dX9_step_55 : decode cX9_step 55 = .ok (.ior, 1) := by decide +kernel
theorem dX9_step_56 : decode cX9_step 56 = .ok (.iconst 0, 1) := by decide +kernel
theorem dX9_step_57 : decode cX9_step 57 = .ok (.invokevirtual 134, 3) := by decide +kernel
theorem dX9_step_60 : decode cX9_step 60 = .ok (.istore 8, 2) := by decide +kernel
theorem dX9_step_62 : decode cX9_step 62 = .ok (.iload 5, 2) := by decide +kernel
theorem dX9_step_64 : decode cX9_step 64 = .ok (.iconst (-1), 1) := by decide +kernel
theorem dX9_step_65 : decode cX9_step 65 = .ok (.if_icmp .eq 34, 3) := by decide +kernel
theorem dX9_step_68 : decode cX9_step 68 = .ok (.iload 8, 2) := by decide +kernel
theorem dX9_step_70 : decode cX9_step 70 = .ok (.iload 6, 2) := by decide +kernel
theorem dX9_step_72 : decode cX9_step 72 = .ok (.if_icmp .gt 27, 3) := by decide +kernel
theorem dX9_step_75 : decode cX9_step 75 = .ok (.iload 8, 2) := by decide +kernel
theorem dX9_step_77 : decode cX9_step 77 = .ok (.iload 6, 2) := by decide +kernel
theorem dX9_step_79 : decode cX9_step 79 = .ok (.if_icmp .ne 24, 3) := by decide +kernel
theorem dX9_step_82 : decode cX9_step 82 = .ok (.aload_n 0, 1) := by decide +kernel
theorem dX9_step_83 : decode cX9_step 83 = .ok (.iload 7, 2) := by decide +kernel
theorem dX9_step_85 : decode cX9_step 85 = .ok (.iconst 4, 1) := by decide +kernel
theorem dX9_step_86 : decode cX9_step 86 = .ok (.invokevirtual 46, 3) := by decide +kernel
theorem dX9_step_89 : decode cX9_step 89 = .ok (.aload_n 0, 1) := by decide +kernel
theorem dX9_step_90 : decode cX9_step 90 = .ok (.iload 5, 2) := by decide +kernel
theorem dX9_step_92 : decode cX9_step 92 = .ok (.iconst 4, 1) := by decide +kernel
theorem dX9_step_93 : decode cX9_step 93 = .ok (.invokevirtual 46, 3) := by decide +kernel
theorem dX9_step_96 : decode cX9_step 96 = .ok (.if_icmp .ge 7, 3) := by decide +kernel
theorem dX9_step_99 : decode cX9_step 99 = .ok (.iconst 1, 1) := by decide +kernel
theorem dX9_step_100 : decode cX9_step 100 = .ok (.goto 4, 3) := by decide +kernel
theorem dX9_step_103 : decode cX9_step 103 = .ok (.iconst 0, 1) := by decide +kernel
theorem dX9_step_104 : decode cX9_step 104 = .ok (.istore 9, 2) := by decide +kernel
theorem dX9_step_106 : decode cX9_step 106 = .ok (.iload 9, 2) := by decide +kernel
theorem dX9_step_108 : decode cX9_step 108 = .ok (.ifCond .eq 8, 3) := by decide +kernel
theorem dX9_step_111 : decode cX9_step 111 = .ok (.iload 7, 2) := by decide +kernel
theorem dX9_step_113 : decode cX9_step 113 = .ok (.goto 5, 3) := by decide +kernel
theorem dX9_step_116 : decode cX9_step 116 = .ok (.iload 5, 2) := by decide +kernel
theorem dX9_step_118 : decode cX9_step 118 = .ok (.istore 5, 2) := by decide +kernel
theorem dX9_step_120 : decode cX9_step 120 = .ok (.iload 9, 2) := by decide +kernel
theorem dX9_step_122 : decode cX9_step 122 = .ok (.ifCond .eq 8, 3) := by decide +kernel
theorem dX9_step_125 : decode cX9_step 125 = .ok (.iload 8, 2) := by decide +kernel
theorem dX9_step_127 : decode cX9_step 127 = .ok (.goto 5, 3) := by decide +kernel
theorem dX9_step_130 : decode cX9_step 130 = .ok (.iload 6, 2) := by decide +kernel
theorem dX9_step_132 : decode cX9_step 132 = .ok (.istore 6, 2) := by decide +kernel
theorem dX9_step_134 : decode cX9_step 134 = .ok (.iinc 7 1, 3) := by decide +kernel
theorem dX9_step_137 : decode cX9_step 137 = .ok (.goto (-128), 3) := by decide +kernel
theorem dX9_step_140 : decode cX9_step 140 = .ok (.iload 5, 2) := by decide +kernel
theorem dX9_step_142 : decode cX9_step 142 = .ok (.ireturn, 1) := by decide +kernel
theorem dX9_greedy_0 : decode cX9_greedy 0 = .ok (.iload_n 1, 1) := by decide +kernel
theorem dX9_greedy_1 : decode cX9_greedy 1 = .ok (.iload_n 2, 1) := by decide +kernel
theorem dX9_greedy_2 : decode cX9_greedy 2 = .ok (.invokestatic 53, 3) := by decide +kernel
theorem dX9_greedy_5 : decode cX9_greedy 5 = .ok (.ifCond .eq 13, 3) := by decide +kernel
theorem dX9_greedy_8 : decode cX9_greedy 8 = .ok (.iload_n 3, 1) := by decide +kernel
theorem dX9_greedy_9 : decode cX9_greedy 9 = .ok (.iconst 0, 1) := by decide +kernel
theorem dX9_greedy_10 : decode cX9_greedy 10 = .ok (.bipush 20, 2) := by decide +kernel
theorem dX9_greedy_12 : decode cX9_greedy 12 = .ok (.invokestatic 38, 3) := by decide +kernel
theorem dX9_greedy_15 : decode cX9_greedy 15 = .ok (.ifCond .ne 6, 3) := by decide +kernel
theorem dX9_greedy_18 : decode cX9_greedy 18 = .ok (.bipush (-2), 2) := by decide +kernel
theorem dX9_greedy_20 : decode cX9_greedy 20 = .ok (.ireturn, 1) := by decide +kernel
theorem dX9_greedy_21 : decode cX9_greedy 21 = .ok (.iconst 0, 1) := by decide +kernel
theorem dX9_greedy_22 : decode cX9_greedy 22 = .ok (.istore 4, 2) := by decide +kernel
theorem dX9_greedy_24 : decode cX9_greedy 24 = .ok (.aload_n 0, 1) := by decide +kernel
theorem dX9_greedy_25 : decode cX9_greedy 25 = .ok (.iload_n 1, 1) := by decide +kernel
theorem dX9_greedy_26 : decode cX9_greedy 26 = .ok (.iload_n 2, 1) := by decide +kernel
theorem dX9_greedy_27 : decode cX9_greedy 27 = .ok (.iconst 0, 1) := by decide +kernel
theorem dX9_greedy_28 : decode cX9_greedy 28 = .ok (.iconst 0, 1) := by decide +kernel
theorem dX9_greedy_29 : decode cX9_greedy 29 = .ok (.invokevirtual 134, 3) := by decide +kernel
theorem dX9_greedy_32 : decode cX9_greedy 32 = .ok (.istore 5, 2) := by decide +kernel
theorem dX9_greedy_34 : decode cX9_greedy 34 = .ok (.iconst 1, 1) := by decide +kernel
theorem dX9_greedy_35 : decode cX9_greedy 35 = .ok (.istore 6, 2) := by decide +kernel
theorem dX9_greedy_37 : decode cX9_greedy 37 = .ok (.iload 6, 2) := by decide +kernel
theorem dX9_greedy_39 : decode cX9_greedy 39 = .ok (.ifCond .eq 91, 3) := by decide +kernel
theorem dX9_greedy_42 : decode cX9_greedy 42 = .ok (.aload_n 0, 1) := by decide +kernel
theorem dX9_greedy_43 : decode cX9_greedy 43 = .ok (.iload_n 1, 1) := by decide +kernel
theorem dX9_greedy_44 : decode cX9_greedy 44 = .ok (.iload_n 2, 1) := by decide +kernel
theorem dX9_greedy_45 : decode cX9_greedy 45 = .ok (.iload_n 3, 1) := by decide +kernel
theorem dX9_greedy_46 : decode cX9_greedy 46 = .ok (.iload 4, 2) := by decide +kernel
theorem dX9_greedy_48 : decode cX9_greedy 48 = .ok (.invokevirtual 170, 3) := by decide +kernel
theorem dX9_greedy_51 : decode cX9_greedy 51 = .ok (.istore 7, 2) := by decide +kernel
theorem dX9_greedy_53 : decode cX9_greedy 53 = .ok (.iload 7, 2) := by decide +kernel
theorem dX9_greedy_55 : decode cX9_greedy 55 = .ok (.iconst (-1), 1) := by decide +kernel
theorem dX9_greedy_56 : decode cX9_greedy 56 = .ok (.if_icmp .ne 8, 3) := by decide +kernel
theorem dX9_greedy_59 : decode cX9_greedy 59 = .ok (.iload 5, 2) := by decide +kernel
theorem dX9_greedy_61 : decode cX9_greedy 61 = .ok (.goto 17, 3) := by decide +kernel
theorem dX9_greedy_64 : decode cX9_greedy 64 = .ok (.aload_n 0, 1) := by decide +kernel
theorem dX9_greedy_65 : decode cX9_greedy 65 = .ok (.iload_n 1, 1) := by decide +kernel
theorem dX9_greedy_66 : decode cX9_greedy 66 = .ok (.iload_n 2, 1) := by decide +kernel
theorem dX9_greedy_67 : decode cX9_greedy 67 = .ok (.iload 4, 2) := by decide +kernel
theorem dX9_greedy_69 : decode cX9_greedy 69 = .ok (.iconst 1, 1) := by decide +kernel
theorem dX9_greedy_70 : decode cX9_greedy 70 = .ok (.iload 7, 2) := by decide +kernel
theorem dX9_greedy_72 : decode cX9_greedy 72 = .ok (.ishl, 1) := by decide +kernel
theorem dX9_greedy_73 : decode cX9_greedy 73 = .ok (.ior, 1) := by decide +kernel
theorem dX9_greedy_74 : decode cX9_greedy 74 = .ok (.iconst 0, 1) := by decide +kernel
theorem dX9_greedy_75 : decode cX9_greedy 75 = .ok (.invokevirtual 134, 3) := by decide +kernel
theorem dX9_greedy_78 : decode cX9_greedy 78 = .ok (.istore 8, 2) := by decide +kernel
theorem dX9_greedy_80 : decode cX9_greedy 80 = .ok (.iload 8, 2) := by decide +kernel
theorem dX9_greedy_82 : decode cX9_greedy 82 = .ok (.iload 5, 2) := by decide +kernel
theorem dX9_greedy_84 : decode cX9_greedy 84 = .ok (.if_icmp .le 7, 3) := by decide +kernel
theorem dX9_greedy_87 : decode cX9_greedy 87 = .ok (.iconst 1, 1) := by decide +kernel
theorem dX9_greedy_88 : decode cX9_greedy 88 = .ok (.goto 4, 3) := by decide +kernel
theorem dX9_greedy_91 : decode cX9_greedy 91 = .ok (.iconst 0, 1) := by decide +kernel
theorem dX9_greedy_92 : decode cX9_greedy 92 = .ok (.istore 6, 2) := by decide +kernel
theorem dX9_greedy_94 : decode cX9_greedy 94 = .ok (.iload 6, 2) := by decide +kernel
theorem dX9_greedy_96 : decode cX9_greedy 96 = .ok (.ifCond .eq 13, 3) := by decide +kernel
theorem dX9_greedy_99 : decode cX9_greedy 99 = .ok (.iload 4, 2) := by decide +kernel
theorem dX9_greedy_101 : decode cX9_greedy 101 = .ok (.iconst 1, 1) := by decide +kernel
theorem dX9_greedy_102 : decode cX9_greedy 102 = .ok (.iload 7, 2) := by decide +kernel
theorem dX9_greedy_104 : decode cX9_greedy 104 = .ok (.ishl, 1) := by decide +kernel
theorem dX9_greedy_105 : decode cX9_greedy 105 = .ok (.ior, 1) := by decide +kernel
theorem dX9_greedy_106 : decode cX9_greedy 106 = .ok (.goto 5, 3) := by decide +kernel
theorem dX9_greedy_109 : decode cX9_greedy 109 = .ok (.iload 4, 2) := by decide +kernel
theorem dX9_greedy_111 : decode cX9_greedy 111 = .ok (.istore 4, 2) := by decide +kernel
theorem dX9_greedy_113 : decode cX9_greedy 113 = .ok (.iload 6, 2) := by decide +kernel
theorem dX9_greedy_115 : decode cX9_greedy 115 = .ok (.ifCond .eq 8, 3) := by decide +kernel
theorem dX9_greedy_118 : decode cX9_greedy 118 = .ok (.iload 8, 2) := by decide +kernel
theorem dX9_greedy_120 : decode cX9_greedy 120 = .ok (.goto 5, 3) := by decide +kernel
theorem dX9_greedy_123 : decode cX9_greedy 123 = .ok (.iload 5, 2) := by decide +kernel
theorem dX9_greedy_125 : decode cX9_greedy 125 = .ok (.istore 5, 2) := by decide +kernel
theorem dX9_greedy_127 : decode cX9_greedy 127 = .ok (.goto (-90), 3) := by decide +kernel
theorem dX9_greedy_130 : decode cX9_greedy 130 = .ok (.aload_n 0, 1) := by decide +kernel
theorem dX9_greedy_131 : decode cX9_greedy 131 = .ok (.iload 4, 2) := by decide +kernel
theorem dX9_greedy_133 : decode cX9_greedy 133 = .ok (.putfield 16, 3) := by decide +kernel
theorem dX9_greedy_136 : decode cX9_greedy 136 = .ok (.iload 5, 2) := by decide +kernel
theorem dX9_greedy_138 : decode cX9_greedy 138 = .ok (.ireturn, 1) := by decide +kernel
theorem dX9_budgetFor_0 : decode cX9_budgetFor 0 = .ok (.iload_n 1, 1) := by decide +kernel
theorem dX9_budgetFor_1 : decode cX9_budgetFor 1 = .ok (.iload_n 2, 1) := by decide +kernel
theorem dX9_budgetFor_2 : decode cX9_budgetFor 2 = .ok (.invokestatic 53, 3) := by decide +kernel
theorem dX9_budgetFor_5 : decode cX9_budgetFor 5 = .ok (.ifCond .eq 14, 3) := by decide +kernel
theorem dX9_budgetFor_8 : decode cX9_budgetFor 8 = .ok (.iload_n 3, 1) := by decide +kernel
theorem dX9_budgetFor_9 : decode cX9_budgetFor 9 = .ok (.iconst 0, 1) := by decide +kernel
theorem dX9_budgetFor_10 : decode cX9_budgetFor 10 = .ok (.sipush 9999, 3) := by decide +kernel
theorem dX9_budgetFor_13 : decode cX9_budgetFor 13 = .ok (.invokestatic 38, 3) := by decide +kernel
theorem dX9_budgetFor_16 : decode cX9_budgetFor 16 = .ok (.ifCond .ne 6, 3) := by decide +kernel
theorem dX9_budgetFor_19 : decode cX9_budgetFor 19 = .ok (.bipush (-2), 2) := by decide +kernel
theorem dX9_budgetFor_21 : decode cX9_budgetFor 21 = .ok (.ireturn, 1) := by decide +kernel
theorem dX9_budgetFor_22 : decode cX9_budgetFor 22 = .ok (.iconst 0, 1) := by decide +kernel
theorem dX9_budgetFor_23 : decode cX9_budgetFor 23 = .ok (.istore 4, 2) := by decide +kernel
theorem dX9_budgetFor_25 : decode cX9_budgetFor 25 = .ok (.iload 4, 2) := by decide +kernel
theorem dX9_budgetFor_27 : decode cX9_budgetFor 27 = .ok (.iconst 5, 1) := by decide +kernel
theorem dX9_budgetFor_28 : decode cX9_budgetFor 28 = .ok (.if_icmp .gt 65, 3) := by decide +kernel
theorem dX9_budgetFor_31 : decode cX9_budgetFor 31 = .ok (.iconst 0, 1) := by decide +kernel
theorem dX9_budgetFor_32 : decode cX9_budgetFor 32 = .ok (.istore 5, 2) := by decide +kernel
theorem dX9_budgetFor_34 : decode cX9_budgetFor 34 = .ok (.iload 5, 2) := by decide +kernel
theorem dX9_budgetFor_36 : decode cX9_budgetFor 36 = .ok (.iconst 1, 1) := by decide +kernel
theorem dX9_budgetFor_37 : decode cX9_budgetFor 37 = .ok (.aload_n 0, 1) := by decide +kernel
theorem dX9_budgetFor_38 : decode cX9_budgetFor 38 = .ok (.getfield 7, 3) := by decide +kernel
theorem dX9_budgetFor_41 : decode cX9_budgetFor 41 = .ok (.bipush 80, 2) := by decide +kernel
theorem dX9_budgetFor_43 : decode cX9_budgetFor 43 = .ok (.iaload, 1) := by decide +kernel
theorem dX9_budgetFor_44 : decode cX9_budgetFor 44 = .ok (.ishl, 1) := by decide +kernel
theorem dX9_budgetFor_45 : decode cX9_budgetFor 45 = .ok (.if_icmp .ge 42, 3) := by decide +kernel
theorem dX9_budgetFor_48 : decode cX9_budgetFor 48 = .ok (.aload_n 0, 1) := by decide +kernel
theorem dX9_budgetFor_49 : decode cX9_budgetFor 49 = .ok (.iload 5, 2) := by decide +kernel
theorem dX9_budgetFor_51 : decode cX9_budgetFor 51 = .ok (.invokevirtual 118, 3) := by decide +kernel
theorem dX9_budgetFor_54 : decode cX9_budgetFor 54 = .ok (.iload 4, 2) := by decide +kernel
theorem dX9_budgetFor_56 : decode cX9_budgetFor 56 = .ok (.if_icmp .ne 25, 3) := by decide +kernel
theorem dX9_budgetFor_59 : decode cX9_budgetFor 59 = .ok (.aload_n 0, 1) := by decide +kernel
theorem dX9_budgetFor_60 : decode cX9_budgetFor 60 = .ok (.iload_n 1, 1) := by decide +kernel
theorem dX9_budgetFor_61 : decode cX9_budgetFor 61 = .ok (.iload_n 2, 1) := by decide +kernel
theorem dX9_budgetFor_62 : decode cX9_budgetFor 62 = .ok (.iload 5, 2) := by decide +kernel
theorem dX9_budgetFor_64 : decode cX9_budgetFor 64 = .ok (.iconst 0, 1) := by decide +kernel
theorem dX9_budgetFor_65 : decode cX9_budgetFor 65 = .ok (.invokevirtual 134, 3) := by decide +kernel
theorem dX9_budgetFor_68 : decode cX9_budgetFor 68 = .ok (.iload_n 3, 1) := by decide +kernel
theorem dX9_budgetFor_69 : decode cX9_budgetFor 69 = .ok (.if_icmp .lt 12, 3) := by decide +kernel
theorem dX9_budgetFor_72 : decode cX9_budgetFor 72 = .ok (.aload_n 0, 1) := by decide +kernel
theorem dX9_budgetFor_73 : decode cX9_budgetFor 73 = .ok (.iload 5, 2) := by decide +kernel
theorem dX9_budgetFor_75 : decode cX9_budgetFor 75 = .ok (.putfield 16, 3) := by decide +kernel
theorem dX9_budgetFor_78 : decode cX9_budgetFor 78 = .ok (.iload 4, 2) := by decide +kernel
theorem dX9_budgetFor_80 : decode cX9_budgetFor 80 = .ok (.ireturn, 1) := by decide +kernel
theorem dX9_budgetFor_81 : decode cX9_budgetFor 81 = .ok (.iinc 5 1, 3) := by decide +kernel
theorem dX9_budgetFor_84 : decode cX9_budgetFor 84 = .ok (.goto (-50), 3) := by decide +kernel
theorem dX9_budgetFor_87 : decode cX9_budgetFor 87 = .ok (.iinc 4 1, 3) := by decide +kernel
theorem dX9_budgetFor_90 : decode cX9_budgetFor 90 = .ok (.goto (-65), 3) := by decide +kernel
theorem dX9_budgetFor_93 : decode cX9_budgetFor 93 = .ok (.iconst (-1), 1) := by decide +kernel
theorem dX9_budgetFor_94 : decode cX9_budgetFor 94 = .ok (.ireturn, 1) := by decide +kernel
theorem dX9_blockade_0 : decode cX9_blockade 0 = .ok (.iload_n 1, 1) := by decide +kernel
theorem dX9_blockade_1 : decode cX9_blockade 1 = .ok (.iload_n 2, 1) := by decide +kernel
theorem dX9_blockade_2 : decode cX9_blockade 2 = .ok (.invokestatic 53, 3) := by decide +kernel
theorem dX9_blockade_5 : decode cX9_blockade 5 = .ok (.ifCond .ne 6, 3) := by decide +kernel
theorem dX9_blockade_8 : decode cX9_blockade 8 = .ok (.bipush (-2), 2) := by decide +kernel
theorem dX9_blockade_10 : decode cX9_blockade 10 = .ok (.ireturn, 1) := by decide +kernel
theorem dX9_blockade_11 : decode cX9_blockade 11 = .ok (.iconst (-1), 1) := by decide +kernel
theorem dX9_blockade_12 : decode cX9_blockade 12 = .ok (.istore_n 3, 1) := by decide +kernel
theorem dX9_blockade_13 : decode cX9_blockade 13 = .ok (.iconst 0, 1) := by decide +kernel
theorem dX9_blockade_14 : decode cX9_blockade 14 = .ok (.istore 4, 2) := by decide +kernel
theorem dX9_blockade_16 : decode cX9_blockade 16 = .ok (.iload 4, 2) := by decide +kernel
theorem dX9_blockade_18 : decode cX9_blockade 18 = .ok (.sipush 256, 3) := by decide +kernel
theorem dX9_blockade_21 : decode cX9_blockade 21 = .ok (.if_icmp .ge 170, 3) := by decide +kernel
theorem dX9_blockade_24 : decode cX9_blockade 24 = .ok (.iload 4, 2) := by decide +kernel
theorem dX9_blockade_26 : decode cX9_blockade 26 = .ok (.iload_n 1, 1) := by decide +kernel
theorem dX9_blockade_27 : decode cX9_blockade 27 = .ok (.ishr, 1) := by decide +kernel
theorem dX9_blockade_28 : decode cX9_blockade 28 = .ok (.iconst 1, 1) := by decide +kernel
theorem dX9_blockade_29 : decode cX9_blockade 29 = .ok (.iand, 1) := by decide +kernel
theorem dX9_blockade_30 : decode cX9_blockade 30 = .ok (.iconst 1, 1) := by decide +kernel
theorem dX9_blockade_31 : decode cX9_blockade 31 = .ok (.if_icmp .ne 16, 3) := by decide +kernel
theorem dX9_blockade_34 : decode cX9_blockade 34 = .ok (.iload 4, 2) := by decide +kernel
theorem dX9_blockade_36 : decode cX9_blockade 36 = .ok (.iload_n 2, 1) := by decide +kernel
theorem dX9_blockade_37 : decode cX9_blockade 37 = .ok (.ishr, 1) := by decide +kernel
theorem dX9_blockade_38 : decode cX9_blockade 38 = .ok (.iconst 1, 1) := by decide +kernel
theorem dX9_blockade_39 : decode cX9_blockade 39 = .ok (.iand, 1) := by decide +kernel
theorem dX9_blockade_40 : decode cX9_blockade 40 = .ok (.ifCond .ne 7, 3) := by decide +kernel
theorem dX9_blockade_43 : decode cX9_blockade 43 = .ok (.iconst 1, 1) := by decide +kernel
theorem dX9_blockade_44 : decode cX9_blockade 44 = .ok (.goto 4, 3) := by decide +kernel
theorem dX9_blockade_47 : decode cX9_blockade 47 = .ok (.iconst 0, 1) := by decide +kernel
theorem dX9_blockade_48 : decode cX9_blockade 48 = .ok (.istore 5, 2) := by decide +kernel
theorem dX9_blockade_50 : decode cX9_blockade 50 = .ok (.iconst 0, 1) := by decide +kernel
theorem dX9_blockade_51 : decode cX9_blockade 51 = .ok (.istore 6, 2) := by decide +kernel
theorem dX9_blockade_53 : decode cX9_blockade 53 = .ok (.iconst 0, 1) := by decide +kernel
theorem dX9_blockade_54 : decode cX9_blockade 54 = .ok (.istore 7, 2) := by decide +kernel
theorem dX9_blockade_56 : decode cX9_blockade 56 = .ok (.iload 7, 2) := by decide +kernel
theorem dX9_blockade_58 : decode cX9_blockade 58 = .ok (.aload_n 0, 1) := by decide +kernel
theorem dX9_blockade_59 : decode cX9_blockade 59 = .ok (.getfield 7, 3) := by decide +kernel
theorem dX9_blockade_62 : decode cX9_blockade 62 = .ok (.bipush 80, 2) := by decide +kernel
theorem dX9_blockade_64 : decode cX9_blockade 64 = .ok (.iaload, 1) := by decide +kernel
theorem dX9_blockade_65 : decode cX9_blockade 65 = .ok (.if_icmp .ge 97, 3) := by decide +kernel
theorem dX9_blockade_68 : decode cX9_blockade 68 = .ok (.iload 5, 2) := by decide +kernel
theorem dX9_blockade_70 : decode cX9_blockade 70 = .ok (.ifCond .eq 92, 3) := by decide +kernel
theorem dX9_blockade_73 : decode cX9_blockade 73 = .ok (.iload 4, 2) := by decide +kernel
theorem dX9_blockade_75 : decode cX9_blockade 75 = .ok (.aload_n 0, 1) := by decide +kernel
theorem dX9_blockade_76 : decode cX9_blockade 76 = .ok (.iload 7, 2) := by decide +kernel
theorem dX9_blockade_78 : decode cX9_blockade 78 = .ok (.iconst 0, 1) := by decide +kernel
theorem dX9_blockade_79 : decode cX9_blockade 79 = .ok (.invokevirtual 46, 3) := by decide +kernel
theorem dX9_blockade_82 : decode cX9_blockade 82 = .ok (.ishr, 1) := by decide +kernel
theorem dX9_blockade_83 : decode cX9_blockade 83 = .ok (.iconst 1, 1) := by decide +kernel
theorem dX9_blockade_84 : decode cX9_blockade 84 = .ok (.iand, 1) := by decide +kernel
theorem dX9_blockade_85 : decode cX9_blockade 85 = .ok (.iconst 1, 1) := by decide +kernel
theorem dX9_blockade_86 : decode cX9_blockade 86 = .ok (.if_icmp .ne 22, 3) := by decide +kernel
theorem dX9_blockade_89 : decode cX9_blockade 89 = .ok (.iload 4, 2) := by decide +kernel
theorem dX9_blockade_91 : decode cX9_blockade 91 = .ok (.aload_n 0, 1) := by decide +kernel
theorem dX9_blockade_92 : decode cX9_blockade 92 = .ok (.iload 7, 2) := by decide +kernel
theorem dX9_blockade_94 : decode cX9_blockade 94 = .ok (.iconst 1, 1) := by decide +kernel
theorem dX9_blockade_95 : decode cX9_blockade 95 = .ok (.invokevirtual 46, 3) := by decide +kernel
theorem dX9_blockade_98 : decode cX9_blockade 98 = .ok (.ishr, 1) := by decide +kernel
theorem dX9_blockade_99 : decode cX9_blockade 99 = .ok (.iconst 1, 1) := by decide +kernel
theorem dX9_blockade_100 : decode cX9_blockade 100 = .ok (.iand, 1) := by decide +kernel
theorem dX9_blockade_101 : decode cX9_blockade 101 = .ok (.ifCond .ne 7, 3) := by decide +kernel
theorem dX9_blockade_104 : decode cX9_blockade 104 = .ok (.iconst 1, 1) := by decide +kernel
theorem dX9_blockade_105 : decode cX9_blockade 105 = .ok (.goto 4, 3) := by decide +kernel
theorem dX9_blockade_108 : decode cX9_blockade 108 = .ok (.iconst 0, 1) := by decide +kernel
theorem dX9_blockade_109 : decode cX9_blockade 109 = .ok (.istore 8, 2) := by decide +kernel
theorem dX9_blockade_111 : decode cX9_blockade 111 = .ok (.iload 8, 2) := by decide +kernel
theorem dX9_blockade_113 : decode cX9_blockade 113 = .ok (.ifCond .eq 15, 3) := by decide +kernel
theorem dX9_blockade_116 : decode cX9_blockade 116 = .ok (.aload_n 0, 1) := by decide +kernel
theorem dX9_blockade_117 : decode cX9_blockade 117 = .ok (.iload 7, 2) := by decide +kernel
theorem dX9_blockade_119 : decode cX9_blockade 119 = .ok (.iconst 3, 1) := by decide +kernel
theorem dX9_blockade_120 : decode cX9_blockade 120 = .ok (.invokevirtual 46, 3) := by decide +kernel
theorem dX9_blockade_123 : decode cX9_blockade 123 = .ok (.bipush 100, 2) := by decide +kernel
theorem dX9_blockade_125 : decode cX9_blockade 125 = .ok (.if_icmp .ne 7, 3) := by decide +kernel
theorem dX9_blockade_128 : decode cX9_blockade 128 = .ok (.iconst 1, 1) := by decide +kernel
theorem dX9_blockade_129 : decode cX9_blockade 129 = .ok (.goto 4, 3) := by decide +kernel
theorem dX9_blockade_132 : decode cX9_blockade 132 = .ok (.iconst 0, 1) := by decide +kernel
theorem dX9_blockade_133 : decode cX9_blockade 133 = .ok (.istore 5, 2) := by decide +kernel
theorem dX9_blockade_135 : decode cX9_blockade 135 = .ok (.iload 6, 2) := by decide +kernel
theorem dX9_blockade_137 : decode cX9_blockade 137 = .ok (.iload 8, 2) := by decide +kernel
theorem dX9_blockade_139 : decode cX9_blockade 139 = .ok (.ifCond .eq 13, 3) := by decide +kernel
theorem dX9_blockade_142 : decode cX9_blockade 142 = .ok (.aload_n 0, 1) := by decide +kernel
theorem dX9_blockade_143 : decode cX9_blockade 143 = .ok (.iload 7, 2) := by decide +kernel
theorem dX9_blockade_145 : decode cX9_blockade 145 = .ok (.iconst 4, 1) := by decide +kernel
theorem dX9_blockade_146 : decode cX9_blockade 146 = .ok (.invokevirtual 46, 3) := by decide +kernel
theorem dX9_blockade_149 : decode cX9_blockade 149 = .ok (.goto 4, 3) := by decide +kernel
theorem dX9_blockade_152 : decode cX9_blockade 152 = .ok (.iconst 0, 1) := by decide +kernel
theorem dX9_blockade_153 : decode cX9_blockade 153 = .ok (.iadd, 1) := by decide +kernel
theorem dX9_blockade_154 : decode cX9_blockade 154 = .ok (.istore 6, 2) := by decide +kernel
theorem dX9_blockade_156 : decode cX9_blockade 156 = .ok (.iinc 7 1, 3) := by decide +kernel
theorem dX9_blockade_159 : decode cX9_blockade 159 = .ok (.goto (-103), 3) := by decide +kernel
theorem dX9_blockade_162 : decode cX9_blockade 162 = .ok (.iload 5, 2) := by decide +kernel
theorem dX9_blockade_164 : decode cX9_blockade 164 = .ok (.ifCond .eq 19, 3) := by decide +kernel
theorem dX9_blockade_167 : decode cX9_blockade 167 = .ok (.iload_n 3, 1) := by decide +kernel
theorem dX9_blockade_168 : decode cX9_blockade 168 = .ok (.iconst (-1), 1) := by decide +kernel
theorem dX9_blockade_169 : decode cX9_blockade 169 = .ok (.if_icmp .eq 9, 3) := by decide +kernel
theorem dX9_blockade_172 : decode cX9_blockade 172 = .ok (.iload 6, 2) := by decide +kernel
theorem dX9_blockade_174 : decode cX9_blockade 174 = .ok (.iload_n 3, 1) := by decide +kernel
theorem dX9_blockade_175 : decode cX9_blockade 175 = .ok (.if_icmp .ge 8, 3) := by decide +kernel
theorem dX9_blockade_178 : decode cX9_blockade 178 = .ok (.iload 6, 2) := by decide +kernel
theorem dX9_blockade_180 : decode cX9_blockade 180 = .ok (.goto 4, 3) := by decide +kernel
theorem dX9_blockade_183 : decode cX9_blockade 183 = .ok (.iload_n 3, 1) := by decide +kernel
theorem dX9_blockade_184 : decode cX9_blockade 184 = .ok (.istore_n 3, 1) := by decide +kernel
theorem dX9_blockade_185 : decode cX9_blockade 185 = .ok (.iinc 4 1, 3) := by decide +kernel
theorem dX9_blockade_188 : decode cX9_blockade 188 = .ok (.goto (-172), 3) := by decide +kernel
theorem dX9_blockade_191 : decode cX9_blockade 191 = .ok (.iload_n 3, 1) := by decide +kernel
theorem dX9_blockade_192 : decode cX9_blockade 192 = .ok (.ireturn, 1) := by decide +kernel
theorem dX9_respond_0 : decode cX9_respond 0 = .ok (.iload_n 1, 1) := by decide +kernel
theorem dX9_respond_1 : decode cX9_respond 1 = .ok (.iload_n 2, 1) := by decide +kernel
theorem dX9_respond_2 : decode cX9_respond 2 = .ok (.invokestatic 53, 3) := by decide +kernel
theorem dX9_respond_5 : decode cX9_respond 5 = .ok (.ifCond .eq 21, 3) := by decide +kernel
theorem dX9_respond_8 : decode cX9_respond 8 = .ok (.aload_n 0, 1) := by decide +kernel
theorem dX9_respond_9 : decode cX9_respond 9 = .ok (.iload_n 3, 1) := by decide +kernel
theorem dX9_respond_10 : decode cX9_respond 10 = .ok (.invokevirtual 121, 3) := by decide +kernel
theorem dX9_respond_13 : decode cX9_respond 13 = .ok (.ifCond .eq 13, 3) := by decide +kernel
theorem dX9_respond_16 : decode cX9_respond 16 = .ok (.iload 4, 2) := by decide +kernel
theorem dX9_respond_18 : decode cX9_respond 18 = .ok (.iconst 0, 1) := by decide +kernel
theorem dX9_respond_19 : decode cX9_respond 19 = .ok (.iconst 3, 1) := by decide +kernel
theorem dX9_respond_20 : decode cX9_respond 20 = .ok (.invokestatic 38, 3) := by decide +kernel
theorem dX9_respond_23 : decode cX9_respond 23 = .ok (.ifCond .ne 6, 3) := by decide +kernel
theorem dX9_respond_26 : decode cX9_respond 26 = .ok (.bipush (-2), 2) := by decide +kernel
theorem dX9_respond_28 : decode cX9_respond 28 = .ok (.ireturn, 1) := by decide +kernel
theorem dX9_respond_29 : decode cX9_respond 29 = .ok (.aload_n 0, 1) := by decide +kernel
theorem dX9_respond_30 : decode cX9_respond 30 = .ok (.iload_n 1, 1) := by decide +kernel
theorem dX9_respond_31 : decode cX9_respond 31 = .ok (.iload_n 2, 1) := by decide +kernel
theorem dX9_respond_32 : decode cX9_respond 32 = .ok (.iload_n 3, 1) := by decide +kernel
theorem dX9_respond_33 : decode cX9_respond 33 = .ok (.iload 4, 2) := by decide +kernel
theorem dX9_respond_35 : decode cX9_respond 35 = .ok (.invokevirtual 134, 3) := by decide +kernel
theorem dX9_respond_38 : decode cX9_respond 38 = .ok (.ireturn, 1) := by decide +kernel
theorem dX9_interdictResponse_0 : decode cX9_interdictResponse 0 = .ok (.iload_n 1, 1) := by decide +kernel
theorem dX9_interdictResponse_1 : decode cX9_interdictResponse 1 = .ok (.iload_n 2, 1) := by decide +kernel
theorem dX9_interdictResponse_2 : decode cX9_interdictResponse 2 = .ok (.invokestatic 53, 3) := by decide +kernel
theorem dX9_interdictResponse_5 : decode cX9_interdictResponse 5 = .ok (.ifCond .eq 22, 3) := by decide +kernel
theorem dX9_interdictResponse_8 : decode cX9_interdictResponse 8 = .ok (.iload_n 3, 1) := by decide +kernel
theorem dX9_interdictResponse_9 : decode cX9_interdictResponse 9 = .ok (.iconst 0, 1) := by decide +kernel
theorem dX9_interdictResponse_10 : decode cX9_interdictResponse 10 = .ok (.iconst 5, 1) := by decide +kernel
theorem dX9_interdictResponse_11 : decode cX9_interdictResponse 11 = .ok (.invokestatic 38, 3) := by decide +kernel
theorem dX9_interdictResponse_14 : decode cX9_interdictResponse 14 = .ok (.ifCond .eq 13, 3) := by decide +kernel
theorem dX9_interdictResponse_17 : decode cX9_interdictResponse 17 = .ok (.iload 4, 2) := by decide +kernel
theorem dX9_interdictResponse_19 : decode cX9_interdictResponse 19 = .ok (.iconst 0, 1) := by decide +kernel
theorem dX9_interdictResponse_20 : decode cX9_interdictResponse 20 = .ok (.iconst 3, 1) := by decide +kernel
theorem dX9_interdictResponse_21 : decode cX9_interdictResponse 21 = .ok (.invokestatic 38, 3) := by decide +kernel
theorem dX9_interdictResponse_24 : decode cX9_interdictResponse 24 = .ok (.ifCond .ne 6, 3) := by decide +kernel
theorem dX9_interdictResponse_27 : decode cX9_interdictResponse 27 = .ok (.bipush (-2), 2) := by decide +kernel
theorem dX9_interdictResponse_29 : decode cX9_interdictResponse 29 = .ok (.ireturn, 1) := by decide +kernel
theorem dX9_interdictResponse_30 : decode cX9_interdictResponse 30 = .ok (.aload_n 0, 1) := by decide +kernel
theorem dX9_interdictResponse_31 : decode cX9_interdictResponse 31 = .ok (.iload_n 1, 1) := by decide +kernel
theorem dX9_interdictResponse_32 : decode cX9_interdictResponse 32 = .ok (.iload_n 2, 1) := by decide +kernel
theorem dX9_interdictResponse_33 : decode cX9_interdictResponse 33 = .ok (.iload_n 3, 1) := by decide +kernel
theorem dX9_interdictResponse_34 : decode cX9_interdictResponse 34 = .ok (.iconst 0, 1) := by decide +kernel
theorem dX9_interdictResponse_35 : decode cX9_interdictResponse 35 = .ok (.iload 4, 2) := by decide +kernel
theorem dX9_interdictResponse_37 : decode cX9_interdictResponse 37 = .ok (.invokevirtual 166, 3) := by decide +kernel
theorem dX9_interdictResponse_40 : decode cX9_interdictResponse 40 = .ok (.istore 5, 2) := by decide +kernel
theorem dX9_interdictResponse_42 : decode cX9_interdictResponse 42 = .ok (.aload_n 0, 1) := by decide +kernel
theorem dX9_interdictResponse_43 : decode cX9_interdictResponse 43 = .ok (.aload_n 0, 1) := by decide +kernel
theorem dX9_interdictResponse_44 : decode cX9_interdictResponse 44 = .ok (.getfield 163, 3) := by decide +kernel
theorem dX9_interdictResponse_47 : decode cX9_interdictResponse 47 = .ok (.putfield 16, 3) := by decide +kernel
theorem dX9_interdictResponse_50 : decode cX9_interdictResponse 50 = .ok (.iload 5, 2) := by decide +kernel
theorem dX9_interdictResponse_52 : decode cX9_interdictResponse 52 = .ok (.ireturn, 1) := by decide +kernel
end
section
/-! decode rows -/
theorem dX9_fortify_0 : decode cX9_fortify 0 = .ok (.iload_n 1, 1) := by decide +kernel
theorem dX9_fortify_1 : decode cX9_fortify 1 = .ok (.iload_n 2, 1) := by decide +kernel
theorem dX9_fortify_2 : decode cX9_fortify 2 = .ok (.invokestatic 53, 3) := by decide +kernel
theorem dX9_fortify_5 : decode cX9_fortify 5 = .ok (.ifCond .eq 22, 3) := by decide +kernel
theorem dX9_fortify_8 : decode cX9_fortify 8 = .ok (.iload_n 3, 1) := by decide +kernel
theorem dX9_fortify_9 : decode cX9_fortify 9 = .ok (.iconst 0, 1) := by decide +kernel
theorem dX9_fortify_10 : decode cX9_fortify 10 = .ok (.iconst 3, 1) := by decide +kernel
theorem dX9_fortify_11 : decode cX9_fortify 11 = .ok (.invokestatic 38, 3) := by decide +kernel
theorem dX9_fortify_14 : decode cX9_fortify 14 = .ok (.ifCond .eq 13, 3) := by decide +kernel
theorem dX9_fortify_17 : decode cX9_fortify 17 = .ok (.iload 4, 2) := by decide +kernel
theorem dX9_fortify_19 : decode cX9_fortify 19 = .ok (.iconst 0, 1) := by decide +kernel
theorem dX9_fortify_20 : decode cX9_fortify 20 = .ok (.iconst 2, 1) := by decide +kernel
theorem dX9_fortify_21 : decode cX9_fortify 21 = .ok (.invokestatic 38, 3) := by decide +kernel
theorem dX9_fortify_24 : decode cX9_fortify 24 = .ok (.ifCond .ne 6, 3) := by decide +kernel
theorem dX9_fortify_27 : decode cX9_fortify 27 = .ok (.bipush (-2), 2) := by decide +kernel
theorem dX9_fortify_29 : decode cX9_fortify 29 = .ok (.ireturn, 1) := by decide +kernel
theorem dX9_fortify_30 : decode cX9_fortify 30 = .ok (.sipush 10000, 3) := by decide +kernel
theorem dX9_fortify_33 : decode cX9_fortify 33 = .ok (.istore 5, 2) := by decide +kernel
theorem dX9_fortify_35 : decode cX9_fortify 35 = .ok (.iconst 0, 1) := by decide +kernel
theorem dX9_fortify_36 : decode cX9_fortify 36 = .ok (.istore 6, 2) := by decide +kernel
theorem dX9_fortify_38 : decode cX9_fortify 38 = .ok (.iconst 0, 1) := by decide +kernel
theorem dX9_fortify_39 : decode cX9_fortify 39 = .ok (.istore 7, 2) := by decide +kernel
theorem dX9_fortify_41 : decode cX9_fortify 41 = .ok (.iload 7, 2) := by decide +kernel
theorem dX9_fortify_43 : decode cX9_fortify 43 = .ok (.iload 4, 2) := by decide +kernel
theorem dX9_fortify_45 : decode cX9_fortify 45 = .ok (.if_icmp .gt 92, 3) := by decide +kernel
theorem dX9_fortify_48 : decode cX9_fortify 48 = .ok (.iconst 0, 1) := by decide +kernel
theorem dX9_fortify_49 : decode cX9_fortify 49 = .ok (.istore 8, 2) := by decide +kernel
theorem dX9_fortify_51 : decode cX9_fortify 51 = .ok (.iload 8, 2) := by decide +kernel
theorem dX9_fortify_53 : decode cX9_fortify 53 = .ok (.iconst 1, 1) := by decide +kernel
theorem dX9_fortify_54 : decode cX9_fortify 54 = .ok (.aload_n 0, 1) := by decide +kernel
theorem dX9_fortify_55 : decode cX9_fortify 55 = .ok (.getfield 7, 3) := by decide +kernel
theorem dX9_fortify_58 : decode cX9_fortify 58 = .ok (.bipush 80, 2) := by decide +kernel
theorem dX9_fortify_60 : decode cX9_fortify 60 = .ok (.iaload, 1) := by decide +kernel
theorem dX9_fortify_61 : decode cX9_fortify 61 = .ok (.ishl, 1) := by decide +kernel
theorem dX9_fortify_62 : decode cX9_fortify 62 = .ok (.if_icmp .ge 69, 3) := by decide +kernel
theorem dX9_fortify_65 : decode cX9_fortify 65 = .ok (.iload 8, 2) := by decide +kernel
theorem dX9_fortify_67 : decode cX9_fortify 67 = .ok (.invokestatic 173, 3) := by decide +kernel
theorem dX9_fortify_70 : decode cX9_fortify 70 = .ok (.iload 7, 2) := by decide +kernel
theorem dX9_fortify_72 : decode cX9_fortify 72 = .ok (.if_icmp .ne 16, 3) := by decide +kernel
theorem dX9_fortify_75 : decode cX9_fortify 75 = .ok (.aload_n 0, 1) := by decide +kernel
theorem dX9_fortify_76 : decode cX9_fortify 76 = .ok (.iload_n 1, 1) := by decide +kernel
theorem dX9_fortify_77 : decode cX9_fortify 77 = .ok (.iload_n 2, 1) := by decide +kernel
theorem dX9_fortify_78 : decode cX9_fortify 78 = .ok (.iload_n 3, 1) := by decide +kernel
theorem dX9_fortify_79 : decode cX9_fortify 79 = .ok (.iload 8, 2) := by decide +kernel
theorem dX9_fortify_81 : decode cX9_fortify 81 = .ok (.iconst 0, 1) := by decide +kernel
theorem dX9_fortify_82 : decode cX9_fortify 82 = .ok (.invokevirtual 166, 3) := by decide +kernel
theorem dX9_fortify_85 : decode cX9_fortify 85 = .ok (.goto 6, 3) := by decide +kernel
theorem dX9_fortify_88 : decode cX9_fortify 88 = .ok (.sipush 10000, 3) := by decide +kernel
theorem dX9_fortify_91 : decode cX9_fortify 91 = .ok (.istore 9, 2) := by decide +kernel
theorem dX9_fortify_93 : decode cX9_fortify 93 = .ok (.iload 9, 2) := by decide +kernel
theorem dX9_fortify_95 : decode cX9_fortify 95 = .ok (.iload 5, 2) := by decide +kernel
theorem dX9_fortify_97 : decode cX9_fortify 97 = .ok (.if_icmp .ge 8, 3) := by decide +kernel
theorem dX9_fortify_100 : decode cX9_fortify 100 = .ok (.iload 8, 2) := by decide +kernel
theorem dX9_fortify_102 : decode cX9_fortify 102 = .ok (.goto 5, 3) := by decide +kernel
theorem dX9_fortify_105 : decode cX9_fortify 105 = .ok (.iload 6, 2) := by decide +kernel
theorem dX9_fortify_107 : decode cX9_fortify 107 = .ok (.istore 6, 2) := by decide +kernel
theorem dX9_fortify_109 : decode cX9_fortify 109 = .ok (.iload 9, 2) := by decide +kernel
theorem dX9_fortify_111 : decode cX9_fortify 111 = .ok (.iload 5, 2) := by decide +kernel
theorem dX9_fortify_113 : decode cX9_fortify 113 = .ok (.if_icmp .ge 8, 3) := by decide +kernel
theorem dX9_fortify_116 : decode cX9_fortify 116 = .ok (.iload 9, 2) := by decide +kernel
theorem dX9_fortify_118 : decode cX9_fortify 118 = .ok (.goto 5, 3) := by decide +kernel
theorem dX9_fortify_121 : decode cX9_fortify 121 = .ok (.iload 5, 2) := by decide +kernel
theorem dX9_fortify_123 : decode cX9_fortify 123 = .ok (.istore 5, 2) := by decide +kernel
theorem dX9_fortify_125 : decode cX9_fortify 125 = .ok (.iinc 8 1, 3) := by decide +kernel
theorem dX9_fortify_128 : decode cX9_fortify 128 = .ok (.goto (-77), 3) := by decide +kernel
theorem dX9_fortify_131 : decode cX9_fortify 131 = .ok (.iinc 7 1, 3) := by decide +kernel
theorem dX9_fortify_134 : decode cX9_fortify 134 = .ok (.goto (-93), 3) := by decide +kernel
theorem dX9_fortify_137 : decode cX9_fortify 137 = .ok (.aload_n 0, 1) := by decide +kernel
theorem dX9_fortify_138 : decode cX9_fortify 138 = .ok (.iload 6, 2) := by decide +kernel
theorem dX9_fortify_140 : decode cX9_fortify 140 = .ok (.putfield 16, 3) := by decide +kernel
theorem dX9_fortify_143 : decode cX9_fortify 143 = .ok (.iload 5, 2) := by decide +kernel
theorem dX9_fortify_145 : decode cX9_fortify 145 = .ok (.ireturn, 1) := by decide +kernel
theorem dX9_finding_0 : decode cX9_finding 0 = .ok (.aload_n 0, 1) := by decide +kernel
theorem dX9_finding_1 : decode cX9_finding 1 = .ok (.getfield 16, 3) := by decide +kernel
theorem dX9_finding_4 : decode cX9_finding 4 = .ok (.ireturn, 1) := by decide +kernel
theorem dX9_worth_0 : decode cX9_worth 0 = .ok (.iload_n 1, 1) := by decide +kernel
theorem dX9_worth_1 : decode cX9_worth 1 = .ok (.iload_n 2, 1) := by decide +kernel
theorem dX9_worth_2 : decode cX9_worth 2 = .ok (.invokestatic 53, 3) := by decide +kernel
theorem dX9_worth_5 : decode cX9_worth 5 = .ok (.ifCond .eq 11, 3) := by decide +kernel
theorem dX9_worth_8 : decode cX9_worth 8 = .ok (.aload_n 0, 1) := by decide +kernel
theorem dX9_worth_9 : decode cX9_worth 9 = .ok (.iload_n 3, 1) := by decide +kernel
theorem dX9_worth_10 : decode cX9_worth 10 = .ok (.invokevirtual 66, 3) := by decide +kernel
theorem dX9_worth_13 : decode cX9_worth 13 = .ok (.ifCond .ne 6, 3) := by decide +kernel
theorem dX9_worth_16 : decode cX9_worth 16 = .ok (.bipush (-2), 2) := by decide +kernel
theorem dX9_worth_18 : decode cX9_worth 18 = .ok (.ireturn, 1) := by decide +kernel
theorem dX9_worth_19 : decode cX9_worth 19 = .ok (.aload_n 0, 1) := by decide +kernel
theorem dX9_worth_20 : decode cX9_worth 20 = .ok (.getfield 7, 3) := by decide +kernel
theorem dX9_worth_23 : decode cX9_worth 23 = .ok (.bipush 81, 2) := by decide +kernel
theorem dX9_worth_25 : decode cX9_worth 25 = .ok (.iaload, 1) := by decide +kernel
theorem dX9_worth_26 : decode cX9_worth 26 = .ok (.iconst 1, 1) := by decide +kernel
theorem dX9_worth_27 : decode cX9_worth 27 = .ok (.iload_n 3, 1) := by decide +kernel
theorem dX9_worth_28 : decode cX9_worth 28 = .ok (.ishl, 1) := by decide +kernel
theorem dX9_worth_29 : decode cX9_worth 29 = .ok (.ior, 1) := by decide +kernel
theorem dX9_worth_30 : decode cX9_worth 30 = .ok (.istore 4, 2) := by decide +kernel
theorem dX9_worth_32 : decode cX9_worth 32 = .ok (.aload_n 0, 1) := by decide +kernel
theorem dX9_worth_33 : decode cX9_worth 33 = .ok (.iload_n 1, 1) := by decide +kernel
theorem dX9_worth_34 : decode cX9_worth 34 = .ok (.iload_n 2, 1) := by decide +kernel
theorem dX9_worth_35 : decode cX9_worth 35 = .ok (.iload 4, 2) := by decide +kernel
theorem dX9_worth_37 : decode cX9_worth 37 = .ok (.iconst 0, 1) := by decide +kernel
theorem dX9_worth_38 : decode cX9_worth 38 = .ok (.invokevirtual 134, 3) := by decide +kernel
theorem dX9_worth_41 : decode cX9_worth 41 = .ok (.aload_n 0, 1) := by decide +kernel
theorem dX9_worth_42 : decode cX9_worth 42 = .ok (.iload_n 1, 1) := by decide +kernel
theorem dX9_worth_43 : decode cX9_worth 43 = .ok (.iload_n 2, 1) := by decide +kernel
theorem dX9_worth_44 : decode cX9_worth 44 = .ok (.iload 4, 2) := by decide +kernel
theorem dX9_worth_46 : decode cX9_worth 46 = .ok (.iconst 1, 1) := by decide +kernel
theorem dX9_worth_47 : decode cX9_worth 47 = .ok (.iload_n 3, 1) := by decide +kernel
theorem dX9_worth_48 : decode cX9_worth 48 = .ok (.ishl, 1) := by decide +kernel
theorem dX9_worth_49 : decode cX9_worth 49 = .ok (.iconst (-1), 1) := by decide +kernel
theorem dX9_worth_50 : decode cX9_worth 50 = .ok (.ixor, 1) := by decide +kernel
theorem dX9_worth_51 : decode cX9_worth 51 = .ok (.iand, 1) := by decide +kernel
theorem dX9_worth_52 : decode cX9_worth 52 = .ok (.iconst 0, 1) := by decide +kernel
theorem dX9_worth_53 : decode cX9_worth 53 = .ok (.invokevirtual 134, 3) := by decide +kernel
theorem dX9_worth_56 : decode cX9_worth 56 = .ok (.isub, 1) := by decide +kernel
theorem dX9_worth_57 : decode cX9_worth 57 = .ok (.ireturn, 1) := by decide +kernel
theorem dX9_neverHelps_0 : decode cX9_neverHelps 0 = .ok (.iload_n 1, 1) := by decide +kernel
theorem dX9_neverHelps_1 : decode cX9_neverHelps 1 = .ok (.iload_n 2, 1) := by decide +kernel
theorem dX9_neverHelps_2 : decode cX9_neverHelps 2 = .ok (.invokestatic 53, 3) := by decide +kernel
theorem dX9_neverHelps_5 : decode cX9_neverHelps 5 = .ok (.ifCond .eq 12, 3) := by decide +kernel
theorem dX9_neverHelps_8 : decode cX9_neverHelps 8 = .ok (.iload_n 3, 1) := by decide +kernel
theorem dX9_neverHelps_9 : decode cX9_neverHelps 9 = .ok (.iconst 0, 1) := by decide +kernel
theorem dX9_neverHelps_10 : decode cX9_neverHelps 10 = .ok (.iconst 5, 1) := by decide +kernel
theorem dX9_neverHelps_11 : decode cX9_neverHelps 11 = .ok (.invokestatic 38, 3) := by decide +kernel
theorem dX9_neverHelps_14 : decode cX9_neverHelps 14 = .ok (.ifCond .ne 6, 3) := by decide +kernel
theorem dX9_neverHelps_17 : decode cX9_neverHelps 17 = .ok (.bipush (-2), 2) := by decide +kernel
theorem dX9_neverHelps_19 : decode cX9_neverHelps 19 = .ok (.ireturn, 1) := by decide +kernel
theorem dX9_neverHelps_20 : decode cX9_neverHelps 20 = .ok (.iconst 0, 1) := by decide +kernel
theorem dX9_neverHelps_21 : decode cX9_neverHelps 21 = .ok (.istore 4, 2) := by decide +kernel
theorem dX9_neverHelps_23 : decode cX9_neverHelps 23 = .ok (.iconst 1, 1) := by decide +kernel
theorem dX9_neverHelps_24 : decode cX9_neverHelps 24 = .ok (.istore 5, 2) := by decide +kernel
theorem dX9_neverHelps_26 : decode cX9_neverHelps 26 = .ok (.iload 5, 2) := by decide +kernel
theorem dX9_neverHelps_28 : decode cX9_neverHelps 28 = .ok (.iconst 1, 1) := by decide +kernel
theorem dX9_neverHelps_29 : decode cX9_neverHelps 29 = .ok (.aload_n 0, 1) := by decide +kernel
theorem dX9_neverHelps_30 : decode cX9_neverHelps 30 = .ok (.getfield 7, 3) := by decide +kernel
theorem dX9_neverHelps_33 : decode cX9_neverHelps 33 = .ok (.bipush 80, 2) := by decide +kernel
theorem dX9_neverHelps_35 : decode cX9_neverHelps 35 = .ok (.iaload, 1) := by decide +kernel
theorem dX9_neverHelps_36 : decode cX9_neverHelps 36 = .ok (.ishl, 1) := by decide +kernel
theorem dX9_neverHelps_37 : decode cX9_neverHelps 37 = .ok (.if_icmp .ge 117, 3) := by decide +kernel
theorem dX9_neverHelps_40 : decode cX9_neverHelps 40 = .ok (.aload_n 0, 1) := by decide +kernel
theorem dX9_neverHelps_41 : decode cX9_neverHelps 41 = .ok (.iload 5, 2) := by decide +kernel
theorem dX9_neverHelps_43 : decode cX9_neverHelps 43 = .ok (.invokevirtual 118, 3) := by decide +kernel
theorem dX9_neverHelps_46 : decode cX9_neverHelps 46 = .ok (.iload_n 3, 1) := by decide +kernel
theorem dX9_neverHelps_47 : decode cX9_neverHelps 47 = .ok (.if_icmp .gt 101, 3) := by decide +kernel
theorem dX9_neverHelps_50 : decode cX9_neverHelps 50 = .ok (.aload_n 0, 1) := by decide +kernel
theorem dX9_neverHelps_51 : decode cX9_neverHelps 51 = .ok (.iload_n 1, 1) := by decide +kernel
theorem dX9_neverHelps_52 : decode cX9_neverHelps 52 = .ok (.iload_n 2, 1) := by decide +kernel
theorem dX9_neverHelps_53 : decode cX9_neverHelps 53 = .ok (.iload 5, 2) := by decide +kernel
theorem dX9_neverHelps_55 : decode cX9_neverHelps 55 = .ok (.iconst 0, 1) := by decide +kernel
theorem dX9_neverHelps_56 : decode cX9_neverHelps 56 = .ok (.invokevirtual 134, 3) := by decide +kernel
theorem dX9_neverHelps_59 : decode cX9_neverHelps 59 = .ok (.istore 6, 2) := by decide +kernel
theorem dX9_neverHelps_61 : decode cX9_neverHelps 61 = .ok (.iconst 0, 1) := by decide +kernel
theorem dX9_neverHelps_62 : decode cX9_neverHelps 62 = .ok (.istore 7, 2) := by decide +kernel
theorem dX9_neverHelps_64 : decode cX9_neverHelps 64 = .ok (.iload 7, 2) := by decide +kernel
theorem dX9_neverHelps_66 : decode cX9_neverHelps 66 = .ok (.aload_n 0, 1) := by decide +kernel
theorem dX9_neverHelps_67 : decode cX9_neverHelps 67 = .ok (.getfield 7, 3) := by decide +kernel
theorem dX9_neverHelps_70 : decode cX9_neverHelps 70 = .ok (.bipush 80, 2) := by decide +kernel
theorem dX9_neverHelps_72 : decode cX9_neverHelps 72 = .ok (.iaload, 1) := by decide +kernel
theorem dX9_neverHelps_73 : decode cX9_neverHelps 73 = .ok (.if_icmp .ge 75, 3) := by decide +kernel
theorem dX9_neverHelps_76 : decode cX9_neverHelps 76 = .ok (.iload 5, 2) := by decide +kernel
theorem dX9_neverHelps_78 : decode cX9_neverHelps 78 = .ok (.iload 7, 2) := by decide +kernel
theorem dX9_neverHelps_80 : decode cX9_neverHelps 80 = .ok (.invokestatic 42, 3) := by decide +kernel
theorem dX9_neverHelps_83 : decode cX9_neverHelps 83 = .ok (.ifCond .eq 17, 3) := by decide +kernel
theorem dX9_neverHelps_86 : decode cX9_neverHelps 86 = .ok (.iload 4, 2) := by decide +kernel
theorem dX9_neverHelps_88 : decode cX9_neverHelps 88 = .ok (.iload 7, 2) := by decide +kernel
theorem dX9_neverHelps_90 : decode cX9_neverHelps 90 = .ok (.invokestatic 42, 3) := by decide +kernel
theorem dX9_neverHelps_93 : decode cX9_neverHelps 93 = .ok (.ifCond .ne 7, 3) := by decide +kernel
theorem dX9_neverHelps_96 : decode cX9_neverHelps 96 = .ok (.iconst 1, 1) := by decide +kernel
theorem dX9_neverHelps_97 : decode cX9_neverHelps 97 = .ok (.goto 4, 3) := by decide +kernel
theorem dX9_neverHelps_100 : decode cX9_neverHelps 100 = .ok (.iconst 0, 1) := by decide +kernel
theorem dX9_neverHelps_101 : decode cX9_neverHelps 101 = .ok (.istore 8, 2) := by decide +kernel
theorem dX9_neverHelps_103 : decode cX9_neverHelps 103 = .ok (.iload 4, 2) := by decide +kernel
theorem dX9_neverHelps_105 : decode cX9_neverHelps 105 = .ok (.iload 8, 2) := by decide +kernel
theorem dX9_neverHelps_107 : decode cX9_neverHelps 107 = .ok (.ifCond .eq 31, 3) := by decide +kernel
theorem dX9_neverHelps_110 : decode cX9_neverHelps 110 = .ok (.iload 6, 2) := by decide +kernel
theorem dX9_neverHelps_112 : decode cX9_neverHelps 112 = .ok (.aload_n 0, 1) := by decide +kernel
theorem dX9_neverHelps_113 : decode cX9_neverHelps 113 = .ok (.iload_n 1, 1) := by decide +kernel
theorem dX9_neverHelps_114 : decode cX9_neverHelps 114 = .ok (.iload_n 2, 1) := by decide +kernel
theorem dX9_neverHelps_115 : decode cX9_neverHelps 115 = .ok (.iload 5, 2) := by decide +kernel
theorem dX9_neverHelps_117 : decode cX9_neverHelps 117 = .ok (.iconst 1, 1) := by decide +kernel
theorem dX9_neverHelps_118 : decode cX9_neverHelps 118 = .ok (.iload 7, 2) := by decide +kernel
theorem dX9_neverHelps_120 : decode cX9_neverHelps 120 = .ok (.ishl, 1) := by decide +kernel
theorem dX9_neverHelps_121 : decode cX9_neverHelps 121 = .ok (.iconst (-1), 1) := by decide +kernel
theorem dX9_neverHelps_122 : decode cX9_neverHelps 122 = .ok (.ixor, 1) := by decide +kernel
theorem dX9_neverHelps_123 : decode cX9_neverHelps 123 = .ok (.iand, 1) := by decide +kernel
theorem dX9_neverHelps_124 : decode cX9_neverHelps 124 = .ok (.iconst 0, 1) := by decide +kernel
theorem dX9_neverHelps_125 : decode cX9_neverHelps 125 = .ok (.invokevirtual 134, 3) := by decide +kernel
theorem dX9_neverHelps_128 : decode cX9_neverHelps 128 = .ok (.if_icmp .le 10, 3) := by decide +kernel
theorem dX9_neverHelps_131 : decode cX9_neverHelps 131 = .ok (.iconst 1, 1) := by decide +kernel
theorem dX9_neverHelps_132 : decode cX9_neverHelps 132 = .ok (.iload 7, 2) := by decide +kernel
theorem dX9_neverHelps_134 : decode cX9_neverHelps 134 = .ok (.ishl, 1) := by decide +kernel
theorem dX9_neverHelps_135 : decode cX9_neverHelps 135 = .ok (.goto 4, 3) := by decide +kernel
theorem dX9_neverHelps_138 : decode cX9_neverHelps 138 = .ok (.iconst 0, 1) := by decide +kernel
theorem dX9_neverHelps_139 : decode cX9_neverHelps 139 = .ok (.ior, 1) := by decide +kernel
theorem dX9_neverHelps_140 : decode cX9_neverHelps 140 = .ok (.istore 4, 2) := by decide +kernel
theorem dX9_neverHelps_142 : decode cX9_neverHelps 142 = .ok (.iinc 7 1, 3) := by decide +kernel
theorem dX9_neverHelps_145 : decode cX9_neverHelps 145 = .ok (.goto (-81), 3) := by decide +kernel
theorem dX9_neverHelps_148 : decode cX9_neverHelps 148 = .ok (.iinc 5 1, 3) := by decide +kernel
theorem dX9_neverHelps_151 : decode cX9_neverHelps 151 = .ok (.goto (-125), 3) := by decide +kernel
theorem dX9_neverHelps_154 : decode cX9_neverHelps 154 = .ok (.iconst 1, 1) := by decide +kernel
theorem dX9_neverHelps_155 : decode cX9_neverHelps 155 = .ok (.aload_n 0, 1) := by decide +kernel
theorem dX9_neverHelps_156 : decode cX9_neverHelps 156 = .ok (.getfield 7, 3) := by decide +kernel
theorem dX9_neverHelps_159 : decode cX9_neverHelps 159 = .ok (.bipush 80, 2) := by decide +kernel
theorem dX9_neverHelps_161 : decode cX9_neverHelps 161 = .ok (.iaload, 1) := by decide +kernel
theorem dX9_neverHelps_162 : decode cX9_neverHelps 162 = .ok (.ishl, 1) := by decide +kernel
theorem dX9_neverHelps_163 : decode cX9_neverHelps 163 = .ok (.iconst 1, 1) := by decide +kernel
theorem dX9_neverHelps_164 : decode cX9_neverHelps 164 = .ok (.isub, 1) := by decide +kernel
theorem dX9_neverHelps_165 : decode cX9_neverHelps 165 = .ok (.iload 4, 2) := by decide +kernel
theorem dX9_neverHelps_167 : decode cX9_neverHelps 167 = .ok (.iconst (-1), 1) := by decide +kernel
theorem dX9_neverHelps_168 : decode cX9_neverHelps 168 = .ok (.ixor, 1) := by decide +kernel
theorem dX9_neverHelps_169 : decode cX9_neverHelps 169 = .ok (.iand, 1) := by decide +kernel
theorem dX9_neverHelps_170 : decode cX9_neverHelps 170 = .ok (.ireturn, 1) := by decide +kernel
theorem dX9_power_0 : decode cX9_power 0 = .ok (.lconst 1, 1) := by decide +kernel
theorem dX9_power_1 : decode cX9_power 1 = .ok (.lstore_n 2, 1) := by decide +kernel
theorem dX9_power_2 : decode cX9_power 2 = .ok (.iconst 0, 1) := by decide +kernel
theorem dX9_power_3 : decode cX9_power 3 = .ok (.istore 4, 2) := by decide +kernel
theorem dX9_power_5 : decode cX9_power 5 = .ok (.iload 4, 2) := by decide +kernel
theorem dX9_power_7 : decode cX9_power 7 = .ok (.iload_n 1, 1) := by decide +kernel
theorem dX9_power_8 : decode cX9_power 8 = .ok (.if_icmp .ge 14, 3) := by decide +kernel
theorem dX9_power_11 : decode cX9_power 11 = .ok (.lload_n 2, 1) := by decide +kernel
theorem dX9_power_12 : decode cX9_power 12 = .ok (.iload_n 0, 1) := by decide +kernel
theorem dX9_power_13 : decode cX9_power 13 = .ok (.i2l, 1) := by decide +kernel
theorem dX9_power_14 : decode cX9_power 14 = .ok (.lmul, 1) := by decide +kernel
theorem dX9_power_15 : decode cX9_power 15 = .ok (.lstore_n 2, 1) := by decide +kernel
theorem dX9_power_16 : decode cX9_power 16 = .ok (.iinc 4 1, 3) := by decide +kernel
theorem dX9_power_19 : decode cX9_power 19 = .ok (.goto (-14), 3) := by decide +kernel
theorem dX9_power_22 : decode cX9_power 22 = .ok (.lload_n 2, 1) := by decide +kernel
theorem dX9_power_23 : decode cX9_power 23 = .ok (.lreturn, 1) := by decide +kernel
theorem dX9_isAsked_0 : decode cX9_isAsked 0 = .ok (.iload_n 1, 1) := by decide +kernel
theorem dX9_isAsked_1 : decode cX9_isAsked 1 = .ok (.iload_n 2, 1) := by decide +kernel
theorem dX9_isAsked_2 : decode cX9_isAsked 2 = .ok (.invokestatic 53, 3) := by decide +kernel
theorem dX9_isAsked_5 : decode cX9_isAsked 5 = .ok (.ifCond .eq 35, 3) := by decide +kernel
theorem dX9_isAsked_8 : decode cX9_isAsked 8 = .ok (.aload_n 0, 1) := by decide +kernel
theorem dX9_isAsked_9 : decode cX9_isAsked 9 = .ok (.iload_n 3, 1) := by decide +kernel
theorem dX9_isAsked_10 : decode cX9_isAsked 10 = .ok (.invokevirtual 121, 3) := by decide +kernel
theorem dX9_isAsked_13 : decode cX9_isAsked 13 = .ok (.ifCond .eq 27, 3) := by decide +kernel
theorem dX9_isAsked_16 : decode cX9_isAsked 16 = .ok (.iload_n 3, 1) := by decide +kernel
theorem dX9_isAsked_17 : decode cX9_isAsked 17 = .ok (.invokestatic 173, 3) := by decide +kernel
theorem dX9_isAsked_20 : decode cX9_isAsked 20 = .ok (.bipush 6, 2) := by decide +kernel
theorem dX9_isAsked_22 : decode cX9_isAsked 22 = .ok (.if_icmp .gt 18, 3) := by decide +kernel
theorem dX9_isAsked_25 : decode cX9_isAsked 25 = .ok (.iload 4, 2) := by decide +kernel
theorem dX9_isAsked_27 : decode cX9_isAsked 27 = .ok (.iconst 0, 1) := by decide +kernel
theorem dX9_isAsked_28 : decode cX9_isAsked 28 = .ok (.bipush 12, 2) := by decide +kernel
theorem dX9_isAsked_30 : decode cX9_isAsked 30 = .ok (.invokestatic 38, 3) := by decide +kernel
theorem dX9_isAsked_33 : decode cX9_isAsked 33 = .ok (.ifCond .eq 7, 3) := by decide +kernel
theorem dX9_isAsked_36 : decode cX9_isAsked 36 = .ok (.iconst 1, 1) := by decide +kernel
theorem dX9_isAsked_37 : decode cX9_isAsked 37 = .ok (.goto 4, 3) := by decide +kernel
theorem dX9_isAsked_40 : decode cX9_isAsked 40 = .ok (.iconst 0, 1) := by decide +kernel
theorem dX9_isAsked_41 : decode cX9_isAsked 41 = .ok (.ireturn, 1) := by decide +kernel
theorem dX9_sum_0 : decode cX9_sum 0 = .ok (.lconst 0, 1) := by decide +kernel
theorem dX9_sum_1 : decode cX9_sum 1 = .ok (.lstore 6, 2) := by decide +kernel
theorem dX9_sum_3 : decode cX9_sum 3 = .ok (.iconst 0, 1) := by decide +kernel
theorem dX9_sum_4 : decode cX9_sum 4 = .ok (.istore 8, 2) := by decide +kernel
theorem dX9_sum_6 : decode cX9_sum 6 = .ok (.iload 8, 2) := by decide +kernel
theorem dX9_sum_8 : decode cX9_sum 8 = .ok (.iload_n 3, 1) := by decide +kernel
theorem dX9_sum_9 : decode cX9_sum 9 = .ok (.if_icmp .gt 105, 3) := by decide +kernel
theorem dX9_sum_12 : decode cX9_sum 12 = .ok (.iload 8, 2) := by decide +kernel
theorem dX9_sum_14 : decode cX9_sum 14 = .ok (.iload_n 3, 1) := by decide +kernel
theorem dX9_sum_15 : decode cX9_sum 15 = .ok (.iconst (-1), 1) := by decide +kernel
theorem dX9_sum_16 : decode cX9_sum 16 = .ok (.ixor, 1) := by decide +kernel
theorem dX9_sum_17 : decode cX9_sum 17 = .ok (.iand, 1) := by decide +kernel
theorem dX9_sum_18 : decode cX9_sum 18 = .ok (.ifCond .ne 90, 3) := by decide +kernel
theorem dX9_sum_21 : decode cX9_sum 21 = .ok (.iload 4, 2) := by decide +kernel
theorem dX9_sum_23 : decode cX9_sum 23 = .ok (.iload 8, 2) := by decide +kernel
theorem dX9_sum_25 : decode cX9_sum 25 = .ok (.invokestatic 173, 3) := by decide +kernel
theorem dX9_sum_28 : decode cX9_sum 28 = .ok (.invokestatic 176, 3) := by decide +kernel
theorem dX9_sum_31 : decode cX9_sum 31 = .ok (.bipush 12, 2) := by decide +kernel
theorem dX9_sum_33 : decode cX9_sum 33 = .ok (.iload 4, 2) := by decide +kernel
theorem dX9_sum_35 : decode cX9_sum 35 = .ok (.isub, 1) := by decide +kernel
theorem dX9_sum_36 : decode cX9_sum 36 = .ok (.iload_n 3, 1) := by decide +kernel
theorem dX9_sum_37 : decode cX9_sum 37 = .ok (.invokestatic 173, 3) := by decide +kernel
theorem dX9_sum_40 : decode cX9_sum 40 = .ok (.iload 8, 2) := by decide +kernel
theorem dX9_sum_42 : decode cX9_sum 42 = .ok (.invokestatic 173, 3) := by decide +kernel
theorem dX9_sum_45 : decode cX9_sum 45 = .ok (.isub, 1) := by decide +kernel
theorem dX9_sum_46 : decode cX9_sum 46 = .ok (.invokestatic 176, 3) := by decide +kernel
theorem dX9_sum_49 : decode cX9_sum 49 = .ok (.lmul, 1) := by decide +kernel
theorem dX9_sum_50 : decode cX9_sum 50 = .ok (.lstore 9, 2) := by decide +kernel
theorem dX9_sum_52 : decode cX9_sum 52 = .ok (.aload_n 0, 1) := by decide +kernel
theorem dX9_sum_53 : decode cX9_sum 53 = .ok (.iload_n 1, 1) := by decide +kernel
theorem dX9_sum_54 : decode cX9_sum 54 = .ok (.iload_n 2, 1) := by decide +kernel
theorem dX9_sum_55 : decode cX9_sum 55 = .ok (.iload 8, 2) := by decide +kernel
theorem dX9_sum_57 : decode cX9_sum 57 = .ok (.iconst 0, 1) := by decide +kernel
theorem dX9_sum_58 : decode cX9_sum 58 = .ok (.invokevirtual 134, 3) := by decide +kernel
theorem dX9_sum_61 : decode cX9_sum 61 = .ok (.istore 11, 2) := by decide +kernel
theorem dX9_sum_63 : decode cX9_sum 63 = .ok (.lload 6, 2) := by decide +kernel
theorem dX9_sum_65 : decode cX9_sum 65 = .ok (.iload 5, 2) := by decide +kernel
theorem dX9_sum_67 : decode cX9_sum 67 = .ok (.ifCond .eq 24, 3) := by decide +kernel
theorem dX9_sum_70 : decode cX9_sum 70 = .ok (.iload 11, 2) := by decide +kernel
theorem dX9_sum_72 : decode cX9_sum 72 = .ok (.sipush 9999, 3) := by decide +kernel
theorem dX9_sum_75 : decode cX9_sum 75 = .ok (.if_icmp .ge 12, 3) := by decide +kernel
theorem dX9_sum_78 : decode cX9_sum 78 = .ok (.lload 9, 2) := by decide +kernel
theorem dX9_sum_80 : decode cX9_sum 80 = .ok (.iload 11, 2) := by decide +kernel
theorem dX9_sum_82 : decode cX9_sum 82 = .ok (.i2l, 1) := by decide +kernel
theorem dX9_sum_83 : decode cX9_sum 83 = .ok (.lmul, 1) := by decide +kernel
theorem dX9_sum_84 : decode cX9_sum 84 = .ok (.goto 21, 3) := by decide +kernel
theorem dX9_sum_87 : decode cX9_sum 87 = .ok (.lconst 0, 1) := by decide +kernel
theorem dX9_sum_88 : decode cX9_sum 88 = .ok (.goto 17, 3) := by decide +kernel
theorem dX9_sum_91 : decode cX9_sum 91 = .ok (.iload 11, 2) := by decide +kernel
theorem dX9_sum_93 : decode cX9_sum 93 = .ok (.sipush 9999, 3) := by decide +kernel
theorem dX9_sum_96 : decode cX9_sum 96 = .ok (.if_icmp .ge 7, 3) := by decide +kernel
theorem dX9_sum_99 : decode cX9_sum 99 = .ok (.lconst 0, 1) := by decide +kernel
theorem dX9_sum_100 : decode cX9_sum 100 = .ok (.goto 5, 3) := by decide +kernel
theorem dX9_sum_103 : decode cX9_sum 103 = .ok (.lload 9, 2) := by decide +kernel
theorem dX9_sum_105 : decode cX9_sum 105 = .ok (.ladd, 1) := by decide +kernel
theorem dX9_sum_106 : decode cX9_sum 106 = .ok (.lstore 6, 2) := by decide +kernel
theorem dX9_sum_108 : decode cX9_sum 108 = .ok (.iinc 8 1, 3) := by decide +kernel
theorem dX9_sum_111 : decode cX9_sum 111 = .ok (.goto (-105), 3) := by decide +kernel
theorem dX9_sum_114 : decode cX9_sum 114 = .ok (.lload 6, 2) := by decide +kernel
theorem dX9_sum_116 : decode cX9_sum 116 = .ok (.lreturn, 1) := by decide +kernel
theorem dX9_expected_0 : decode cX9_expected 0 = .ok (.aload_n 0, 1) := by decide +kernel
theorem dX9_expected_1 : decode cX9_expected 1 = .ok (.iload_n 1, 1) := by decide +kernel
theorem dX9_expected_2 : decode cX9_expected 2 = .ok (.iload_n 2, 1) := by decide +kernel
theorem dX9_expected_3 : decode cX9_expected 3 = .ok (.iload_n 3, 1) := by decide +kernel
theorem dX9_expected_4 : decode cX9_expected 4 = .ok (.iload 4, 2) := by decide +kernel
theorem dX9_expected_6 : decode cX9_expected 6 = .ok (.invokevirtual 180, 3) := by decide +kernel
theorem dX9_expected_9 : decode cX9_expected 9 = .ok (.ifCond .eq 16, 3) := by decide +kernel
theorem dX9_expected_12 : decode cX9_expected 12 = .ok (.aload_n 0, 1) := by decide +kernel
theorem dX9_expected_13 : decode cX9_expected 13 = .ok (.iload_n 1, 1) := by decide +kernel
theorem dX9_expected_14 : decode cX9_expected 14 = .ok (.iload_n 2, 1) := by decide +kernel
theorem dX9_expected_15 : decode cX9_expected 15 = .ok (.iload_n 3, 1) := by decide +kernel
theorem dX9_expected_16 : decode cX9_expected 16 = .ok (.iload 4, 2) := by decide +kernel
theorem dX9_expected_18 : decode cX9_expected 18 = .ok (.iconst 1, 1) := by decide +kernel
theorem dX9_expected_19 : decode cX9_expected 19 = .ok (.invokevirtual 184, 3) := by decide +kernel
theorem dX9_expected_22 : decode cX9_expected 22 = .ok (.goto 6, 3) := by decide +kernel
theorem dX9_expected_25 : decode cX9_expected 25 = .ok (.ldc2_w 188, 3) := by decide +kernel
theorem dX9_expected_28 : decode cX9_expected 28 = .ok (.lreturn, 1) := by decide +kernel
theorem dX9_lost_0 : decode cX9_lost 0 = .ok (.aload_n 0, 1) := by decide +kernel
theorem dX9_lost_1 : decode cX9_lost 1 = .ok (.iload_n 1, 1) := by decide +kernel
theorem dX9_lost_2 : decode cX9_lost 2 = .ok (.iload_n 2, 1) := by decide +kernel
theorem dX9_lost_3 : decode cX9_lost 3 = .ok (.iload_n 3, 1) := by decide +kernel
theorem dX9_lost_4 : decode cX9_lost 4 = .ok (.iload 4, 2) := by decide +kernel
theorem dX9_lost_6 : decode cX9_lost 6 = .ok (.invokevirtual 180, 3) := by decide +kernel
theorem dX9_lost_9 : decode cX9_lost 9 = .ok (.ifCond .eq 16, 3) := by decide +kernel
theorem dX9_lost_12 : decode cX9_lost 12 = .ok (.aload_n 0, 1) := by decide +kernel
theorem dX9_lost_13 : decode cX9_lost 13 = .ok (.iload_n 1, 1) := by decide +kernel
theorem dX9_lost_14 : decode cX9_lost 14 = .ok (.iload_n 2, 1) := by decide +kernel
theorem dX9_lost_15 : decode cX9_lost 15 = .ok (.iload_n 3, 1) := by decide +kernel
theorem dX9_lost_16 : decode cX9_lost 16 = .ok (.iload 4, 2) := by decide +kernel
theorem dX9_lost_18 : decode cX9_lost 18 = .ok (.iconst 0, 1) := by decide +kernel
theorem dX9_lost_19 : decode cX9_lost 19 = .ok (.invokevirtual 184, 3) := by decide +kernel
theorem dX9_lost_22 : decode cX9_lost 22 = .ok (.goto 6, 3) := by decide +kernel
theorem dX9_lost_25 : decode cX9_lost 25 = .ok (.ldc2_w 188, 3) := by decide +kernel
theorem dX9_lost_28 : decode cX9_lost 28 = .ok (.lreturn, 1) := by decide +kernel
theorem dX9_lengths_0 : decode cX9_lengths 0 = .ok (.iconst 0, 1) := by decide +kernel
theorem dX9_lengths_1 : decode cX9_lengths 1 = .ok (.istore_n 1, 1) := by decide +kernel
theorem dX9_lengths_2 : decode cX9_lengths 2 = .ok (.iconst 0, 1) := by decide +kernel
theorem dX9_lengths_3 : decode cX9_lengths 3 = .ok (.istore_n 2, 1) := by decide +kernel
theorem dX9_lengths_4 : decode cX9_lengths 4 = .ok (.iload_n 2, 1) := by decide +kernel
theorem dX9_lengths_5 : decode cX9_lengths 5 = .ok (.aload_n 0, 1) := by decide +kernel
theorem dX9_lengths_6 : decode cX9_lengths 6 = .ok (.getfield 7, 3) := by decide +kernel
theorem dX9_lengths_9 : decode cX9_lengths 9 = .ok (.bipush 80, 2) := by decide +kernel
theorem dX9_lengths_11 : decode cX9_lengths 11 = .ok (.iaload, 1) := by decide +kernel
theorem dX9_lengths_12 : decode cX9_lengths 12 = .ok (.if_icmp .ge 18, 3) := by decide +kernel
theorem dX9_lengths_15 : decode cX9_lengths 15 = .ok (.iload_n 1, 1) := by decide +kernel
theorem dX9_lengths_16 : decode cX9_lengths 16 = .ok (.aload_n 0, 1) := by decide +kernel
theorem dX9_lengths_17 : decode cX9_lengths 17 = .ok (.iload_n 2, 1) := by decide +kernel
theorem dX9_lengths_18 : decode cX9_lengths 18 = .ok (.iconst 2, 1) := by decide +kernel
theorem dX9_lengths_19 : decode cX9_lengths 19 = .ok (.invokevirtual 46, 3) := by decide +kernel
theorem dX9_lengths_22 : decode cX9_lengths 22 = .ok (.iadd, 1) := by decide +kernel
theorem dX9_lengths_23 : decode cX9_lengths 23 = .ok (.istore_n 1, 1) := by decide +kernel
theorem dX9_lengths_24 : decode cX9_lengths 24 = .ok (.iinc 2 1, 3) := by decide +kernel
theorem dX9_lengths_27 : decode cX9_lengths 27 = .ok (.goto (-23), 3) := by decide +kernel
theorem dX9_lengths_30 : decode cX9_lengths 30 = .ok (.iload_n 1, 1) := by decide +kernel
theorem dX9_lengths_31 : decode cX9_lengths 31 = .ok (.ireturn, 1) := by decide +kernel
theorem dX9_reachable_0 : decode cX9_reachable 0 = .ok (.iconst 0, 1) := by decide +kernel
theorem dX9_reachable_1 : decode cX9_reachable 1 = .ok (.istore_n 1, 1) := by decide +kernel
theorem dX9_reachable_2 : decode cX9_reachable 2 = .ok (.iconst 0, 1) := by decide +kernel
theorem dX9_reachable_3 : decode cX9_reachable 3 = .ok (.istore_n 2, 1) := by decide +kernel
theorem dX9_reachable_4 : decode cX9_reachable 4 = .ok (.iload_n 2, 1) := by decide +kernel
theorem dX9_reachable_5 : decode cX9_reachable 5 = .ok (.bipush 64, 2) := by decide +kernel
theorem dX9_reachable_7 : decode cX9_reachable 7 = .ok (.if_icmp .ge 54, 3) := by decide +kernel
theorem dX9_reachable_10 : decode cX9_reachable 10 = .ok (.iload_n 1, 1) := by decide +kernel
theorem dX9_reachable_11 : decode cX9_reachable 11 = .ok (.iload_n 2, 1) := by decide +kernel
theorem dX9_reachable_12 : decode cX9_reachable 12 = .ok (.bipush 8, 2) := by decide +kernel
theorem dX9_reachable_14 : decode cX9_reachable 14 = .ok (.idiv, 1) := by decide +kernel
theorem dX9_reachable_15 : decode cX9_reachable 15 = .ok (.iload_n 2, 1) := by decide +kernel
theorem dX9_reachable_16 : decode cX9_reachable 16 = .ok (.bipush 8, 2) := by decide +kernel
theorem dX9_reachable_18 : decode cX9_reachable 18 = .ok (.irem, 1) := by decide +kernel
theorem dX9_reachable_19 : decode cX9_reachable 19 = .ok (.if_icmp .eq 33, 3) := by decide +kernel
theorem dX9_reachable_22 : decode cX9_reachable 22 = .ok (.aload_n 0, 1) := by decide +kernel
theorem dX9_reachable_23 : decode cX9_reachable 23 = .ok (.iload_n 2, 1) := by decide +kernel
theorem dX9_reachable_24 : decode cX9_reachable 24 = .ok (.bipush 8, 2) := by decide +kernel
theorem dX9_reachable_26 : decode cX9_reachable 26 = .ok (.idiv, 1) := by decide +kernel
theorem dX9_reachable_27 : decode cX9_reachable 27 = .ok (.iload_n 2, 1) := by decide +kernel
theorem dX9_reachable_28 : decode cX9_reachable 28 = .ok (.bipush 8, 2) := by decide +kernel
theorem dX9_reachable_30 : decode cX9_reachable 30 = .ok (.irem, 1) := by decide +kernel
theorem dX9_reachable_31 : decode cX9_reachable 31 = .ok (.aload_n 0, 1) := by decide +kernel
theorem dX9_reachable_32 : decode cX9_reachable 32 = .ok (.getfield 7, 3) := by decide +kernel
theorem dX9_reachable_35 : decode cX9_reachable 35 = .ok (.bipush 81, 2) := by decide +kernel
theorem dX9_reachable_37 : decode cX9_reachable 37 = .ok (.iaload, 1) := by decide +kernel
theorem dX9_reachable_38 : decode cX9_reachable 38 = .ok (.iconst 0, 1) := by decide +kernel
theorem dX9_reachable_39 : decode cX9_reachable 39 = .ok (.invokevirtual 134, 3) := by decide +kernel
theorem dX9_reachable_42 : decode cX9_reachable 42 = .ok (.sipush 9999, 3) := by decide +kernel
theorem dX9_reachable_45 : decode cX9_reachable 45 = .ok (.if_icmp .ge 7, 3) := by decide +kernel
theorem dX9_reachable_48 : decode cX9_reachable 48 = .ok (.iconst 1, 1) := by decide +kernel
theorem dX9_reachable_49 : decode cX9_reachable 49 = .ok (.goto 4, 3) := by decide +kernel
theorem dX9_reachable_52 : decode cX9_reachable 52 = .ok (.iconst 0, 1) := by decide +kernel
theorem dX9_reachable_53 : decode cX9_reachable 53 = .ok (.iadd, 1) := by decide +kernel
theorem dX9_reachable_54 : decode cX9_reachable 54 = .ok (.istore_n 1, 1) := by decide +kernel
theorem dX9_reachable_55 : decode cX9_reachable 55 = .ok (.iinc 2 1, 3) := by decide +kernel
theorem dX9_reachable_58 : decode cX9_reachable 58 = .ok (.goto (-54), 3) := by decide +kernel
theorem dX9_reachable_61 : decode cX9_reachable 61 = .ok (.iload_n 1, 1) := by decide +kernel
theorem dX9_reachable_62 : decode cX9_reachable 62 = .ok (.ireturn, 1) := by decide +kernel
theorem dX9_count_0 : decode cX9_count 0 = .ok (.iload_n 1, 1) := by decide +kernel
theorem dX9_count_1 : decode cX9_count 1 = .ok (.tableswitch 94 0 6 #[43, 51, 62, 74, 79, 84, 89], 43) := by decide +kernel
theorem dX9_count_44 : decode cX9_count 44 = .ok (.aload_n 0, 1) := by decide +kernel
theorem dX9_count_45 : decode cX9_count 45 = .ok (.getfield 7, 3) := by decide +kernel
theorem dX9_count_48 : decode cX9_count 48 = .ok (.bipush 80, 2) := by decide +kernel
theorem dX9_count_50 : decode cX9_count 50 = .ok (.iaload, 1) := by decide +kernel
theorem dX9_count_51 : decode cX9_count 51 = .ok (.ireturn, 1) := by decide +kernel
theorem dX9_count_52 : decode cX9_count 52 = .ok (.aload_n 0, 1) := by decide +kernel
theorem dX9_count_53 : decode cX9_count 53 = .ok (.getfield 7, 3) := by decide +kernel
theorem dX9_count_56 : decode cX9_count 56 = .ok (.bipush 81, 2) := by decide +kernel
theorem dX9_count_58 : decode cX9_count 58 = .ok (.iaload, 1) := by decide +kernel
theorem dX9_count_59 : decode cX9_count 59 = .ok (.invokestatic 173, 3) := by decide +kernel
theorem dX9_count_62 : decode cX9_count 62 = .ok (.ireturn, 1) := by decide +kernel
theorem dX9_count_63 : decode cX9_count 63 = .ok (.aload_n 0, 1) := by decide +kernel
theorem dX9_count_64 : decode cX9_count 64 = .ok (.aload_n 0, 1) := by decide +kernel
theorem dX9_count_65 : decode cX9_count 65 = .ok (.getfield 7, 3) := by decide +kernel
theorem dX9_count_68 : decode cX9_count 68 = .ok (.bipush 81, 2) := by decide +kernel
theorem dX9_count_70 : decode cX9_count 70 = .ok (.iaload, 1) := by decide +kernel
theorem dX9_count_71 : decode cX9_count 71 = .ok (.invokevirtual 118, 3) := by decide +kernel
theorem dX9_count_74 : decode cX9_count 74 = .ok (.ireturn, 1) := by decide +kernel
theorem dX9_count_75 : decode cX9_count 75 = .ok (.aload_n 0, 1) := by decide +kernel
theorem dX9_count_76 : decode cX9_count 76 = .ok (.getfield 50, 3) := by decide +kernel
theorem dX9_count_79 : decode cX9_count 79 = .ok (.ireturn, 1) := by decide +kernel
theorem dX9_count_80 : decode cX9_count 80 = .ok (.aload_n 0, 1) := by decide +kernel
theorem dX9_count_81 : decode cX9_count 81 = .ok (.getfield 70, 3) := by decide +kernel
theorem dX9_count_84 : decode cX9_count 84 = .ok (.ireturn, 1) := by decide +kernel
theorem dX9_count_85 : decode cX9_count 85 = .ok (.aload_n 0, 1) := by decide +kernel
theorem dX9_count_86 : decode cX9_count 86 = .ok (.invokevirtual 190, 3) := by decide +kernel
theorem dX9_count_89 : decode cX9_count 89 = .ok (.ireturn, 1) := by decide +kernel
theorem dX9_count_90 : decode cX9_count 90 = .ok (.aload_n 0, 1) := by decide +kernel
theorem dX9_count_91 : decode cX9_count 91 = .ok (.invokevirtual 192, 3) := by decide +kernel
theorem dX9_count_94 : decode cX9_count 94 = .ok (.ireturn, 1) := by decide +kernel
theorem dX9_count_95 : decode cX9_count 95 = .ok (.bipush (-2), 2) := by decide +kernel
theorem dX9_count_97 : decode cX9_count 97 = .ok (.ireturn, 1) := by decide +kernel
theorem dX9_mixes_0 : decode cX9_mixes 0 = .ok (.aload_n 0, 1) := by decide +kernel
theorem dX9_mixes_1 : decode cX9_mixes 1 = .ok (.ldc2_w 195, 3) := by decide +kernel
theorem dX9_mixes_4 : decode cX9_mixes 4 = .ok (.aload_n 0, 1) := by decide +kernel
theorem dX9_mixes_5 : decode cX9_mixes 5 = .ok (.getfield 197, 3) := by decide +kernel
theorem dX9_mixes_8 : decode cX9_mixes 8 = .ok (.lmul, 1) := by decide +kernel
theorem dX9_mixes_9 : decode cX9_mixes 9 = .ok (.iload_n 1, 1) := by decide +kernel
theorem dX9_mixes_10 : decode cX9_mixes 10 = .ok (.i2l, 1) := by decide +kernel
theorem dX9_mixes_11 : decode cX9_mixes 11 = .ok (.ladd, 1) := by decide +kernel
theorem dX9_mixes_12 : decode cX9_mixes 12 = .ok (.putfield 197, 3) := by decide +kernel
theorem dX9_mixes_15 : decode cX9_mixes 15 = .ok (.return_, 1) := by decide +kernel
theorem dX9_digest_0 : decode cX9_digest 0 = .ok (.aload_n 0, 1) := by decide +kernel
theorem dX9_digest_1 : decode cX9_digest 1 = .ok (.ldc2_w 201, 3) := by decide +kernel
theorem dX9_digest_4 : decode cX9_digest 4 = .ok (.putfield 197, 3) := by decide +kernel
theorem dX9_digest_7 : decode cX9_digest 7 = .ok (.iconst 0, 1) := by decide +kernel
theorem dX9_digest_8 : decode cX9_digest 8 = .ok (.istore_n 1, 1) := by decide +kernel
theorem dX9_digest_9 : decode cX9_digest 9 = .ok (.iload_n 1, 1) := by decide +kernel
theorem dX9_digest_10 : decode cX9_digest 10 = .ok (.bipush 7, 2) := by decide +kernel
theorem dX9_digest_12 : decode cX9_digest 12 = .ok (.if_icmp .ge 18, 3) := by decide +kernel
theorem dX9_digest_15 : decode cX9_digest 15 = .ok (.aload_n 0, 1) := by decide +kernel
theorem dX9_digest_16 : decode cX9_digest 16 = .ok (.aload_n 0, 1) := by decide +kernel
theorem dX9_digest_17 : decode cX9_digest 17 = .ok (.iload_n 1, 1) := by decide +kernel
theorem dX9_digest_18 : decode cX9_digest 18 = .ok (.invokevirtual 203, 3) := by decide +kernel
theorem dX9_digest_21 : decode cX9_digest 21 = .ok (.invokevirtual 206, 3) := by decide +kernel
theorem dX9_digest_24 : decode cX9_digest 24 = .ok (.iinc 1 1, 3) := by decide +kernel
theorem dX9_digest_27 : decode cX9_digest 27 = .ok (.goto (-18), 3) := by decide +kernel
theorem dX9_digest_30 : decode cX9_digest 30 = .ok (.iconst 0, 1) := by decide +kernel
theorem dX9_digest_31 : decode cX9_digest 31 = .ok (.istore_n 1, 1) := by decide +kernel
theorem dX9_digest_32 : decode cX9_digest 32 = .ok (.iload_n 1, 1) := by decide +kernel
theorem dX9_digest_33 : decode cX9_digest 33 = .ok (.bipush 6, 2) := by decide +kernel
theorem dX9_digest_35 : decode cX9_digest 35 = .ok (.aload_n 0, 1) := by decide +kernel
theorem dX9_digest_36 : decode cX9_digest 36 = .ok (.getfield 7, 3) := by decide +kernel
theorem dX9_digest_39 : decode cX9_digest 39 = .ok (.bipush 80, 2) := by decide +kernel
theorem dX9_digest_41 : decode cX9_digest 41 = .ok (.iaload, 1) := by decide +kernel
theorem dX9_digest_42 : decode cX9_digest 42 = .ok (.imul, 1) := by decide +kernel
theorem dX9_digest_43 : decode cX9_digest 43 = .ok (.if_icmp .ge 25, 3) := by decide +kernel
theorem dX9_digest_46 : decode cX9_digest 46 = .ok (.aload_n 0, 1) := by decide +kernel
theorem dX9_digest_47 : decode cX9_digest 47 = .ok (.aload_n 0, 1) := by decide +kernel
theorem dX9_digest_48 : decode cX9_digest 48 = .ok (.iload_n 1, 1) := by decide +kernel
theorem dX9_digest_49 : decode cX9_digest 49 = .ok (.bipush 6, 2) := by decide +kernel
theorem dX9_digest_51 : decode cX9_digest 51 = .ok (.idiv, 1) := by decide +kernel
theorem dX9_digest_52 : decode cX9_digest 52 = .ok (.iload_n 1, 1) := by decide +kernel
theorem dX9_digest_53 : decode cX9_digest 53 = .ok (.bipush 6, 2) := by decide +kernel
theorem dX9_digest_55 : decode cX9_digest 55 = .ok (.irem, 1) := by decide +kernel
theorem dX9_digest_56 : decode cX9_digest 56 = .ok (.invokevirtual 209, 3) := by decide +kernel
theorem dX9_digest_59 : decode cX9_digest 59 = .ok (.invokevirtual 206, 3) := by decide +kernel
theorem dX9_digest_62 : decode cX9_digest 62 = .ok (.iinc 1 1, 3) := by decide +kernel
theorem dX9_digest_65 : decode cX9_digest 65 = .ok (.goto (-33), 3) := by decide +kernel
theorem dX9_digest_68 : decode cX9_digest 68 = .ok (.iconst 0, 1) := by decide +kernel
theorem dX9_digest_69 : decode cX9_digest 69 = .ok (.istore_n 1, 1) := by decide +kernel
theorem dX9_digest_70 : decode cX9_digest 70 = .ok (.iload_n 1, 1) := by decide +kernel
theorem dX9_digest_71 : decode cX9_digest 71 = .ok (.bipush 64, 2) := by decide +kernel
theorem dX9_digest_73 : decode cX9_digest 73 = .ok (.if_icmp .ge 25, 3) := by decide +kernel
theorem dX9_digest_76 : decode cX9_digest 76 = .ok (.aload_n 0, 1) := by decide +kernel
theorem dX9_digest_77 : decode cX9_digest 77 = .ok (.aload_n 0, 1) := by decide +kernel
theorem dX9_digest_78 : decode cX9_digest 78 = .ok (.iload_n 1, 1) := by decide +kernel
theorem dX9_digest_79 : decode cX9_digest 79 = .ok (.bipush 8, 2) := by decide +kernel
theorem dX9_digest_81 : decode cX9_digest 81 = .ok (.idiv, 1) := by decide +kernel
theorem dX9_digest_82 : decode cX9_digest 82 = .ok (.iload_n 1, 1) := by decide +kernel
theorem dX9_digest_83 : decode cX9_digest 83 = .ok (.bipush 8, 2) := by decide +kernel
theorem dX9_digest_85 : decode cX9_digest 85 = .ok (.irem, 1) := by decide +kernel
theorem dX9_digest_86 : decode cX9_digest 86 = .ok (.invokevirtual 212, 3) := by decide +kernel
theorem dX9_digest_89 : decode cX9_digest 89 = .ok (.invokevirtual 206, 3) := by decide +kernel
theorem dX9_digest_92 : decode cX9_digest 92 = .ok (.iinc 1 1, 3) := by decide +kernel
theorem dX9_digest_95 : decode cX9_digest 95 = .ok (.goto (-25), 3) := by decide +kernel
theorem dX9_digest_98 : decode cX9_digest 98 = .ok (.aload_n 0, 1) := by decide +kernel
theorem dX9_digest_99 : decode cX9_digest 99 = .ok (.aload_n 0, 1) := by decide +kernel
theorem dX9_digest_100 : decode cX9_digest 100 = .ok (.getfield 16, 3) := by decide +kernel
theorem dX9_digest_103 : decode cX9_digest 103 = .ok (.invokevirtual 206, 3) := by decide +kernel
theorem dX9_digest_106 : decode cX9_digest 106 = .ok (.iconst 0, 1) := by decide +kernel
theorem dX9_digest_107 : decode cX9_digest 107 = .ok (.istore_n 1, 1) := by decide +kernel
theorem dX9_digest_108 : decode cX9_digest 108 = .ok (.iload_n 1, 1) := by decide +kernel
theorem dX9_digest_109 : decode cX9_digest 109 = .ok (.aload_n 0, 1) := by decide +kernel
theorem dX9_digest_110 : decode cX9_digest 110 = .ok (.getfield 70, 3) := by decide +kernel
theorem dX9_digest_113 : decode cX9_digest 113 = .ok (.if_icmp .ge 19, 3) := by decide +kernel
theorem dX9_digest_116 : decode cX9_digest 116 = .ok (.aload_n 0, 1) := by decide +kernel
theorem dX9_digest_117 : decode cX9_digest 117 = .ok (.aload_n 0, 1) := by decide +kernel
theorem dX9_digest_118 : decode cX9_digest 118 = .ok (.getfield 20, 3) := by decide +kernel
theorem dX9_digest_121 : decode cX9_digest 121 = .ok (.iload_n 1, 1) := by decide +kernel
theorem dX9_digest_122 : decode cX9_digest 122 = .ok (.iaload, 1) := by decide +kernel
theorem dX9_digest_123 : decode cX9_digest 123 = .ok (.invokevirtual 206, 3) := by decide +kernel
theorem dX9_digest_126 : decode cX9_digest 126 = .ok (.iinc 1 1, 3) := by decide +kernel
theorem dX9_digest_129 : decode cX9_digest 129 = .ok (.goto (-21), 3) := by decide +kernel
theorem dX9_digest_132 : decode cX9_digest 132 = .ok (.aload_n 0, 1) := by decide +kernel
theorem dX9_digest_133 : decode cX9_digest 133 = .ok (.getfield 197, 3) := by decide +kernel
theorem dX9_digest_136 : decode cX9_digest 136 = .ok (.lreturn, 1) := by decide +kernel
theorem dJ6_bitCount_0f7a4_0 : decode cJ6_bitCount_0f7a4 0 = .ok (.iload_n 0, 1) := by decide +kernel
theorem dJ6_bitCount_0f7a4_1 : decode cJ6_bitCount_0f7a4 1 = .ok (.iload_n 0, 1) := by decide +kernel
theorem dJ6_bitCount_0f7a4_2 : decode cJ6_bitCount_0f7a4 2 = .ok (.iconst 1, 1) := by decide +kernel
theorem dJ6_bitCount_0f7a4_3 : decode cJ6_bitCount_0f7a4 3 = .ok (.iushr, 1) := by decide +kernel
theorem dJ6_bitCount_0f7a4_4 : decode cJ6_bitCount_0f7a4 4 = .ok (.ldc_w 265, 3) := by decide +kernel
theorem dJ6_bitCount_0f7a4_7 : decode cJ6_bitCount_0f7a4 7 = .ok (.iand, 1) := by decide +kernel
theorem dJ6_bitCount_0f7a4_8 : decode cJ6_bitCount_0f7a4 8 = .ok (.isub, 1) := by decide +kernel
theorem dJ6_bitCount_0f7a4_9 : decode cJ6_bitCount_0f7a4 9 = .ok (.istore_n 0, 1) := by decide +kernel
theorem dJ6_bitCount_0f7a4_10 : decode cJ6_bitCount_0f7a4 10 = .ok (.iload_n 0, 1) := by decide +kernel
theorem dJ6_bitCount_0f7a4_11 : decode cJ6_bitCount_0f7a4 11 = .ok (.ldc_w 266, 3) := by decide +kernel
theorem dJ6_bitCount_0f7a4_14 : decode cJ6_bitCount_0f7a4 14 = .ok (.iand, 1) := by decide +kernel
theorem dJ6_bitCount_0f7a4_15 : decode cJ6_bitCount_0f7a4 15 = .ok (.iload_n 0, 1) := by decide +kernel
theorem dJ6_bitCount_0f7a4_16 : decode cJ6_bitCount_0f7a4 16 = .ok (.iconst 2, 1) := by decide +kernel
theorem dJ6_bitCount_0f7a4_17 : decode cJ6_bitCount_0f7a4 17 = .ok (.iushr, 1) := by decide +kernel
theorem dJ6_bitCount_0f7a4_18 : decode cJ6_bitCount_0f7a4 18 = .ok (.ldc_w 266, 3) := by decide +kernel
theorem dJ6_bitCount_0f7a4_21 : decode cJ6_bitCount_0f7a4 21 = .ok (.iand, 1) := by decide +kernel
theorem dJ6_bitCount_0f7a4_22 : decode cJ6_bitCount_0f7a4 22 = .ok (.iadd, 1) := by decide +kernel
theorem dJ6_bitCount_0f7a4_23 : decode cJ6_bitCount_0f7a4 23 = .ok (.istore_n 0, 1) := by decide +kernel
theorem dJ6_bitCount_0f7a4_24 : decode cJ6_bitCount_0f7a4 24 = .ok (.iload_n 0, 1) := by decide +kernel
theorem dJ6_bitCount_0f7a4_25 : decode cJ6_bitCount_0f7a4 25 = .ok (.iload_n 0, 1) := by decide +kernel
theorem dJ6_bitCount_0f7a4_26 : decode cJ6_bitCount_0f7a4 26 = .ok (.iconst 4, 1) := by decide +kernel
theorem dJ6_bitCount_0f7a4_27 : decode cJ6_bitCount_0f7a4 27 = .ok (.iushr, 1) := by decide +kernel
theorem dJ6_bitCount_0f7a4_28 : decode cJ6_bitCount_0f7a4 28 = .ok (.iadd, 1) := by decide +kernel
theorem dJ6_bitCount_0f7a4_29 : decode cJ6_bitCount_0f7a4 29 = .ok (.ldc_w 267, 3) := by decide +kernel
theorem dJ6_bitCount_0f7a4_32 : decode cJ6_bitCount_0f7a4 32 = .ok (.iand, 1) := by decide +kernel
theorem dJ6_bitCount_0f7a4_33 : decode cJ6_bitCount_0f7a4 33 = .ok (.istore_n 0, 1) := by decide +kernel
theorem dJ6_bitCount_0f7a4_34 : decode cJ6_bitCount_0f7a4 34 = .ok (.iload_n 0, 1) := by decide +kernel
theorem dJ6_bitCount_0f7a4_35 : decode cJ6_bitCount_0f7a4 35 = .ok (.iload_n 0, 1) := by decide +kernel
theorem dJ6_bitCount_0f7a4_36 : decode cJ6_bitCount_0f7a4 36 = .ok (.bipush 8, 2) := by decide +kernel
theorem dJ6_bitCount_0f7a4_38 : decode cJ6_bitCount_0f7a4 38 = .ok (.iushr, 1) := by decide +kernel
theorem dJ6_bitCount_0f7a4_39 : decode cJ6_bitCount_0f7a4 39 = .ok (.iadd, 1) := by decide +kernel
theorem dJ6_bitCount_0f7a4_40 : decode cJ6_bitCount_0f7a4 40 = .ok (.istore_n 0, 1) := by decide +kernel
theorem dJ6_bitCount_0f7a4_41 : decode cJ6_bitCount_0f7a4 41 = .ok (.iload_n 0, 1) := by decide +kernel
theorem dJ6_bitCount_0f7a4_42 : decode cJ6_bitCount_0f7a4 42 = .ok (.iload_n 0, 1) := by decide +kernel
theorem dJ6_bitCount_0f7a4_43 : decode cJ6_bitCount_0f7a4 43 = .ok (.bipush 16, 2) := by decide +kernel
theorem dJ6_bitCount_0f7a4_45 : decode cJ6_bitCount_0f7a4 45 = .ok (.iushr, 1) := by decide +kernel
theorem dJ6_bitCount_0f7a4_46 : decode cJ6_bitCount_0f7a4 46 = .ok (.iadd, 1) := by decide +kernel
theorem dJ6_bitCount_0f7a4_47 : decode cJ6_bitCount_0f7a4 47 = .ok (.istore_n 0, 1) := by decide +kernel
theorem dJ6_bitCount_0f7a4_48 : decode cJ6_bitCount_0f7a4 48 = .ok (.iload_n 0, 1) := by decide +kernel
theorem dJ6_bitCount_0f7a4_49 : decode cJ6_bitCount_0f7a4 49 = .ok (.bipush 63, 2) := by decide +kernel
theorem dJ6_bitCount_0f7a4_51 : decode cJ6_bitCount_0f7a4 51 = .ok (.iand, 1) := by decide +kernel
theorem dJ6_bitCount_0f7a4_52 : decode cJ6_bitCount_0f7a4 52 = .ok (.ireturn, 1) := by decide +kernel
theorem dJ9_min_7cf53_0 : decode cJ9_min_7cf53 0 = .ok (.iload_n 0, 1) := by decide +kernel
theorem dJ9_min_7cf53_1 : decode cJ9_min_7cf53 1 = .ok (.iload_n 1, 1) := by decide +kernel
theorem dJ9_min_7cf53_2 : decode cJ9_min_7cf53 2 = .ok (.if_icmp .gt 7, 3) := by decide +kernel
theorem dJ9_min_7cf53_5 : decode cJ9_min_7cf53 5 = .ok (.iload_n 0, 1) := by decide +kernel
theorem dJ9_min_7cf53_6 : decode cJ9_min_7cf53 6 = .ok (.goto 4, 3) := by decide +kernel
theorem dJ9_min_7cf53_9 : decode cJ9_min_7cf53 9 = .ok (.iload_n 1, 1) := by decide +kernel
theorem dJ9_min_7cf53_10 : decode cJ9_min_7cf53 10 = .ok (.ireturn, 1) := by decide +kernel
theorem dJ7_fill_53178_0 : decode cJ7_fill_53178 0 = .ok (.iconst 0, 1) := by decide +kernel
theorem dJ7_fill_53178_1 : decode cJ7_fill_53178 1 = .ok (.istore_n 2, 1) := by decide +kernel
theorem dJ7_fill_53178_2 : decode cJ7_fill_53178 2 = .ok (.aload_n 0, 1) := by decide +kernel
theorem dJ7_fill_53178_3 : decode cJ7_fill_53178 3 = .ok (.arraylength, 1) := by decide +kernel
theorem dJ7_fill_53178_4 : decode cJ7_fill_53178 4 = .ok (.istore_n 3, 1) := by decide +kernel
theorem dJ7_fill_53178_5 : decode cJ7_fill_53178 5 = .ok (.iload_n 2, 1) := by decide +kernel
theorem dJ7_fill_53178_6 : decode cJ7_fill_53178 6 = .ok (.iload_n 3, 1) := by decide +kernel
theorem dJ7_fill_53178_7 : decode cJ7_fill_53178 7 = .ok (.if_icmp .ge 13, 3) := by decide +kernel
theorem dJ7_fill_53178_10 : decode cJ7_fill_53178 10 = .ok (.aload_n 0, 1) := by decide +kernel
theorem dJ7_fill_53178_11 : decode cJ7_fill_53178 11 = .ok (.iload_n 2, 1) := by decide +kernel
theorem dJ7_fill_53178_12 : decode cJ7_fill_53178 12 = .ok (.iload_n 1, 1) := by decide +kernel
theorem dJ7_fill_53178_13 : decode cJ7_fill_53178 13 = .ok (.iastore, 1) := by decide +kernel
theorem dJ7_fill_53178_14 : decode cJ7_fill_53178 14 = .ok (.iinc 2 1, 3) := by decide +kernel
theorem dJ7_fill_53178_17 : decode cJ7_fill_53178 17 = .ok (.goto (-12), 3) := by decide +kernel
theorem dJ7_fill_53178_20 : decode cJ7_fill_53178 20 = .ok (.return_, 1) := by decide +kernel
end
section
/-! decode rows -/
theorem dL_law_0 : decode cL_law 0 = .ok (.new 7, 3) := by decide +kernel
theorem dL_law_3 : decode cL_law 3 = .ok (.dup, 1) := by decide +kernel
theorem dL_law_4 : decode cL_law 4 = .ok (.invokespecial 9, 3) := by decide +kernel
theorem dL_law_7 : decode cL_law 7 = .ok (.astore_n 1, 1) := by decide +kernel
theorem dL_law_8 : decode cL_law 8 = .ok (.new 10, 3) := by decide +kernel
theorem dL_law_11 : decode cL_law 11 = .ok (.dup, 1) := by decide +kernel
theorem dL_law_12 : decode cL_law 12 = .ok (.invokespecial 12, 3) := by decide +kernel
theorem dL_law_15 : decode cL_law 15 = .ok (.astore_n 2, 1) := by decide +kernel
theorem dL_law_16 : decode cL_law 16 = .ok (.iconst 0, 1) := by decide +kernel
theorem dL_law_17 : decode cL_law 17 = .ok (.istore_n 3, 1) := by decide +kernel
theorem dL_law_18 : decode cL_law 18 = .ok (.iload_n 3, 1) := by decide +kernel
theorem dL_law_19 : decode cL_law 19 = .ok (.aload_n 0, 1) := by decide +kernel
theorem dL_law_20 : decode cL_law 20 = .ok (.arraylength, 1) := by decide +kernel
theorem dL_law_21 : decode cL_law 21 = .ok (.bipush 6, 2) := by decide +kernel
theorem dL_law_23 : decode cL_law 23 = .ok (.isub, 1) := by decide +kernel
theorem dL_law_24 : decode cL_law 24 = .ok (.if_icmp .gt 1236, 3) := by decide +kernel
theorem dL_law_27 : decode cL_law 27 = .ok (.aload_n 0, 1) := by decide +kernel
theorem dL_law_28 : decode cL_law 28 = .ok (.iload_n 3, 1) := by decide +kernel
theorem dL_law_29 : decode cL_law 29 = .ok (.iaload, 1) := by decide +kernel
theorem dL_law_30 : decode cL_law 30 = .ok (.bipush 31, 2) := by decide +kernel
theorem dL_law_32 : decode cL_law 32 = .ok (.iand, 1) := by decide +kernel
theorem dL_law_33 : decode cL_law 33 = .ok (.tableswitch 1221 0 30 #[139, 202, 225, 268, 301, 314, 337, 350, 363, 376, 425, 448, 481, 524, 567, 610, 643, 686, 729, 772, 805, 858, 911, 964, 977, 1020, 1063, 1117, 1171, 1184, 1207], 139) := by decide +kernel
theorem dL_law_172 : decode cL_law 172 = .ok (.aload_n 1, 1) := by decide +kernel
theorem dL_law_173 : decode cL_law 173 = .ok (.aload_n 0, 1) := by decide +kernel
theorem dL_law_174 : decode cL_law 174 = .ok (.iload_n 3, 1) := by decide +kernel
theorem dL_law_175 : decode cL_law 175 = .ok (.iconst 1, 1) := by decide +kernel
theorem dL_law_176 : decode cL_law 176 = .ok (.iadd, 1) := by decide +kernel
theorem dL_law_177 : decode cL_law 177 = .ok (.iaload, 1) := by decide +kernel
theorem dL_law_178 : decode cL_law 178 = .ok (.aload_n 0, 1) := by decide +kernel
theorem dL_law_179 : decode cL_law 179 = .ok (.iload_n 3, 1) := by decide +kernel
theorem dL_law_180 : decode cL_law 180 = .ok (.iconst 2, 1) := by decide +kernel
theorem dL_law_181 : decode cL_law 181 = .ok (.iadd, 1) := by decide +kernel
theorem dL_law_182 : decode cL_law 182 = .ok (.iaload, 1) := by decide +kernel
theorem dL_law_183 : decode cL_law 183 = .ok (.aload_n 0, 1) := by decide +kernel
theorem dL_law_184 : decode cL_law 184 = .ok (.iload_n 3, 1) := by decide +kernel
theorem dL_law_185 : decode cL_law 185 = .ok (.iconst 3, 1) := by decide +kernel
theorem dL_law_186 : decode cL_law 186 = .ok (.iadd, 1) := by decide +kernel
theorem dL_law_187 : decode cL_law 187 = .ok (.iaload, 1) := by decide +kernel
theorem dL_law_188 : decode cL_law 188 = .ok (.aload_n 0, 1) := by decide +kernel
theorem dL_law_189 : decode cL_law 189 = .ok (.iload_n 3, 1) := by decide +kernel
theorem dL_law_190 : decode cL_law 190 = .ok (.iconst 4, 1) := by decide +kernel
theorem dL_law_191 : decode cL_law 191 = .ok (.iadd, 1) := by decide +kernel
theorem dL_law_192 : decode cL_law 192 = .ok (.iaload, 1) := by decide +kernel
theorem dL_law_193 : decode cL_law 193 = .ok (.aload_n 0, 1) := by decide +kernel
theorem dL_law_194 : decode cL_law 194 = .ok (.iload_n 3, 1) := by decide +kernel
theorem dL_law_195 : decode cL_law 195 = .ok (.iconst 5, 1) := by decide +kernel
theorem dL_law_196 : decode cL_law 196 = .ok (.iadd, 1) := by decide +kernel
theorem dL_law_197 : decode cL_law 197 = .ok (.iaload, 1) := by decide +kernel
theorem dL_law_198 : decode cL_law 198 = .ok (.invokevirtual 13, 3) := by decide +kernel
theorem dL_law_201 : decode cL_law 201 = .ok (.aload_n 2, 1) := by decide +kernel
theorem dL_law_202 : decode cL_law 202 = .ok (.aload_n 0, 1) := by decide +kernel
theorem dL_law_203 : decode cL_law 203 = .ok (.iload_n 3, 1) := by decide +kernel
theorem dL_law_204 : decode cL_law 204 = .ok (.iconst 1, 1) := by decide +kernel
theorem dL_law_205 : decode cL_law 205 = .ok (.iadd, 1) := by decide +kernel
theorem dL_law_206 : decode cL_law 206 = .ok (.iaload, 1) := by decide +kernel
theorem dL_law_207 : decode cL_law 207 = .ok (.aload_n 0, 1) := by decide +kernel
theorem dL_law_208 : decode cL_law 208 = .ok (.iload_n 3, 1) := by decide +kernel
theorem dL_law_209 : decode cL_law 209 = .ok (.iconst 2, 1) := by decide +kernel
theorem dL_law_210 : decode cL_law 210 = .ok (.iadd, 1) := by decide +kernel
theorem dL_law_211 : decode cL_law 211 = .ok (.iaload, 1) := by decide +kernel
theorem dL_law_212 : decode cL_law 212 = .ok (.aload_n 0, 1) := by decide +kernel
theorem dL_law_213 : decode cL_law 213 = .ok (.iload_n 3, 1) := by decide +kernel
theorem dL_law_214 : decode cL_law 214 = .ok (.iconst 3, 1) := by decide +kernel
theorem dL_law_215 : decode cL_law 215 = .ok (.iadd, 1) := by decide +kernel
theorem dL_law_216 : decode cL_law 216 = .ok (.iaload, 1) := by decide +kernel
theorem dL_law_217 : decode cL_law 217 = .ok (.aload_n 0, 1) := by decide +kernel
theorem dL_law_218 : decode cL_law 218 = .ok (.iload_n 3, 1) := by decide +kernel
theorem dL_law_219 : decode cL_law 219 = .ok (.iconst 4, 1) := by decide +kernel
theorem dL_law_220 : decode cL_law 220 = .ok (.iadd, 1) := by decide +kernel
theorem dL_law_221 : decode cL_law 221 = .ok (.iaload, 1) := by decide +kernel
theorem dL_law_222 : decode cL_law 222 = .ok (.aload_n 0, 1) := by decide +kernel
theorem dL_law_223 : decode cL_law 223 = .ok (.iload_n 3, 1) := by decide +kernel
theorem dL_law_224 : decode cL_law 224 = .ok (.iconst 5, 1) := by decide +kernel
theorem dL_law_225 : decode cL_law 225 = .ok (.iadd, 1) := by decide +kernel
theorem dL_law_226 : decode cL_law 226 = .ok (.iaload, 1) := by decide +kernel
theorem dL_law_227 : decode cL_law 227 = .ok (.invokevirtual 17, 3) := by decide +kernel
theorem dL_law_230 : decode cL_law 230 = .ok (.if_icmp .eq 1024, 3) := by decide +kernel
theorem dL_law_233 : decode cL_law 233 = .ok (.iconst 0, 1) := by decide +kernel
theorem dL_law_234 : decode cL_law 234 = .ok (.ireturn, 1) := by decide +kernel
theorem dL_law_235 : decode cL_law 235 = .ok (.aload_n 1, 1) := by decide +kernel
theorem dL_law_236 : decode cL_law 236 = .ok (.aload_n 0, 1) := by decide +kernel
theorem dL_law_237 : decode cL_law 237 = .ok (.iload_n 3, 1) := by decide +kernel
theorem dL_law_238 : decode cL_law 238 = .ok (.iconst 1, 1) := by decide +kernel
theorem dL_law_239 : decode cL_law 239 = .ok (.iadd, 1) := by decide +kernel
theorem dL_law_240 : decode cL_law 240 = .ok (.iaload, 1) := by decide +kernel
theorem dL_law_241 : decode cL_law 241 = .ok (.invokevirtual 18, 3) := by decide +kernel
theorem dL_law_244 : decode cL_law 244 = .ok (.aload_n 2, 1) := by decide +kernel
theorem dL_law_245 : decode cL_law 245 = .ok (.aload_n 0, 1) := by decide +kernel
theorem dL_law_246 : decode cL_law 246 = .ok (.iload_n 3, 1) := by decide +kernel
theorem dL_law_247 : decode cL_law 247 = .ok (.iconst 1, 1) := by decide +kernel
theorem dL_law_248 : decode cL_law 248 = .ok (.iadd, 1) := by decide +kernel
theorem dL_law_249 : decode cL_law 249 = .ok (.iaload, 1) := by decide +kernel
theorem dL_law_250 : decode cL_law 250 = .ok (.invokevirtual 22, 3) := by decide +kernel
theorem dL_law_253 : decode cL_law 253 = .ok (.if_icmp .eq 1001, 3) := by decide +kernel
theorem dL_law_256 : decode cL_law 256 = .ok (.iconst 0, 1) := by decide +kernel
theorem dL_law_257 : decode cL_law 257 = .ok (.ireturn, 1) := by decide +kernel
theorem dL_law_258 : decode cL_law 258 = .ok (.aload_n 1, 1) := by decide +kernel
theorem dL_law_259 : decode cL_law 259 = .ok (.aload_n 0, 1) := by decide +kernel
theorem dL_law_260 : decode cL_law 260 = .ok (.iload_n 3, 1) := by decide +kernel
theorem dL_law_261 : decode cL_law 261 = .ok (.iconst 1, 1) := by decide +kernel
theorem dL_law_262 : decode cL_law 262 = .ok (.iadd, 1) := by decide +kernel
theorem dL_law_263 : decode cL_law 263 = .ok (.iaload, 1) := by decide +kernel
theorem dL_law_264 : decode cL_law 264 = .ok (.aload_n 0, 1) := by decide +kernel
theorem dL_law_265 : decode cL_law 265 = .ok (.iload_n 3, 1) := by decide +kernel
theorem dL_law_266 : decode cL_law 266 = .ok (.iconst 2, 1) := by decide +kernel
theorem dL_law_267 : decode cL_law 267 = .ok (.iadd, 1) := by decide +kernel
theorem dL_law_268 : decode cL_law 268 = .ok (.iaload, 1) := by decide +kernel
theorem dL_law_269 : decode cL_law 269 = .ok (.aload_n 0, 1) := by decide +kernel
theorem dL_law_270 : decode cL_law 270 = .ok (.iload_n 3, 1) := by decide +kernel
theorem dL_law_271 : decode cL_law 271 = .ok (.iconst 3, 1) := by decide +kernel
theorem dL_law_272 : decode cL_law 272 = .ok (.iadd, 1) := by decide +kernel
theorem dL_law_273 : decode cL_law 273 = .ok (.iaload, 1) := by decide +kernel
theorem dL_law_274 : decode cL_law 274 = .ok (.invokevirtual 23, 3) := by decide +kernel
theorem dL_law_277 : decode cL_law 277 = .ok (.aload_n 2, 1) := by decide +kernel
theorem dL_law_278 : decode cL_law 278 = .ok (.aload_n 0, 1) := by decide +kernel
theorem dL_law_279 : decode cL_law 279 = .ok (.iload_n 3, 1) := by decide +kernel
theorem dL_law_280 : decode cL_law 280 = .ok (.iconst 1, 1) := by decide +kernel
theorem dL_law_281 : decode cL_law 281 = .ok (.iadd, 1) := by decide +kernel
theorem dL_law_282 : decode cL_law 282 = .ok (.iaload, 1) := by decide +kernel
theorem dL_law_283 : decode cL_law 283 = .ok (.aload_n 0, 1) := by decide +kernel
theorem dL_law_284 : decode cL_law 284 = .ok (.iload_n 3, 1) := by decide +kernel
theorem dL_law_285 : decode cL_law 285 = .ok (.iconst 2, 1) := by decide +kernel
theorem dL_law_286 : decode cL_law 286 = .ok (.iadd, 1) := by decide +kernel
theorem dL_law_287 : decode cL_law 287 = .ok (.iaload, 1) := by decide +kernel
theorem dL_law_288 : decode cL_law 288 = .ok (.aload_n 0, 1) := by decide +kernel
theorem dL_law_289 : decode cL_law 289 = .ok (.iload_n 3, 1) := by decide +kernel
theorem dL_law_290 : decode cL_law 290 = .ok (.iconst 3, 1) := by decide +kernel
theorem dL_law_291 : decode cL_law 291 = .ok (.iadd, 1) := by decide +kernel
theorem dL_law_292 : decode cL_law 292 = .ok (.iaload, 1) := by decide +kernel
theorem dL_law_293 : decode cL_law 293 = .ok (.invokevirtual 27, 3) := by decide +kernel
theorem dL_law_296 : decode cL_law 296 = .ok (.if_icmp .eq 958, 3) := by decide +kernel
theorem dL_law_299 : decode cL_law 299 = .ok (.iconst 0, 1) := by decide +kernel
theorem dL_law_300 : decode cL_law 300 = .ok (.ireturn, 1) := by decide +kernel
theorem dL_law_301 : decode cL_law 301 = .ok (.aload_n 1, 1) := by decide +kernel
theorem dL_law_302 : decode cL_law 302 = .ok (.aload_n 0, 1) := by decide +kernel
theorem dL_law_303 : decode cL_law 303 = .ok (.iload_n 3, 1) := by decide +kernel
theorem dL_law_304 : decode cL_law 304 = .ok (.iconst 1, 1) := by decide +kernel
theorem dL_law_305 : decode cL_law 305 = .ok (.iadd, 1) := by decide +kernel
theorem dL_law_306 : decode cL_law 306 = .ok (.iaload, 1) := by decide +kernel
theorem dL_law_307 : decode cL_law 307 = .ok (.aload_n 0, 1) := by decide +kernel
theorem dL_law_308 : decode cL_law 308 = .ok (.iload_n 3, 1) := by decide +kernel
theorem dL_law_309 : decode cL_law 309 = .ok (.iconst 2, 1) := by decide +kernel
theorem dL_law_310 : decode cL_law 310 = .ok (.iadd, 1) := by decide +kernel
theorem dL_law_311 : decode cL_law 311 = .ok (.iaload, 1) := by decide +kernel
theorem dL_law_312 : decode cL_law 312 = .ok (.invokevirtual 28, 3) := by decide +kernel
theorem dL_law_315 : decode cL_law 315 = .ok (.aload_n 2, 1) := by decide +kernel
theorem dL_law_316 : decode cL_law 316 = .ok (.aload_n 0, 1) := by decide +kernel
theorem dL_law_317 : decode cL_law 317 = .ok (.iload_n 3, 1) := by decide +kernel
theorem dL_law_318 : decode cL_law 318 = .ok (.iconst 1, 1) := by decide +kernel
theorem dL_law_319 : decode cL_law 319 = .ok (.iadd, 1) := by decide +kernel
theorem dL_law_320 : decode cL_law 320 = .ok (.iaload, 1) := by decide +kernel
theorem dL_law_321 : decode cL_law 321 = .ok (.aload_n 0, 1) := by decide +kernel
theorem dL_law_322 : decode cL_law 322 = .ok (.iload_n 3, 1) := by decide +kernel
theorem dL_law_323 : decode cL_law 323 = .ok (.iconst 2, 1) := by decide +kernel
theorem dL_law_324 : decode cL_law 324 = .ok (.iadd, 1) := by decide +kernel
theorem dL_law_325 : decode cL_law 325 = .ok (.iaload, 1) := by decide +kernel
theorem dL_law_326 : decode cL_law 326 = .ok (.invokevirtual 32, 3) := by decide +kernel
theorem dL_law_329 : decode cL_law 329 = .ok (.if_icmp .eq 925, 3) := by decide +kernel
theorem dL_law_332 : decode cL_law 332 = .ok (.iconst 0, 1) := by decide +kernel
theorem dL_law_333 : decode cL_law 333 = .ok (.ireturn, 1) := by decide +kernel
theorem dL_law_334 : decode cL_law 334 = .ok (.aload_n 1, 1) := by decide +kernel
theorem dL_law_335 : decode cL_law 335 = .ok (.invokevirtual 33, 3) := by decide +kernel
theorem dL_law_338 : decode cL_law 338 = .ok (.aload_n 2, 1) := by decide +kernel
theorem dL_law_339 : decode cL_law 339 = .ok (.invokevirtual 37, 3) := by decide +kernel
theorem dL_law_342 : decode cL_law 342 = .ok (.if_icmp .eq 912, 3) := by decide +kernel
theorem dL_law_345 : decode cL_law 345 = .ok (.iconst 0, 1) := by decide +kernel
theorem dL_law_346 : decode cL_law 346 = .ok (.ireturn, 1) := by decide +kernel
theorem dL_law_347 : decode cL_law 347 = .ok (.aload_n 1, 1) := by decide +kernel
theorem dL_law_348 : decode cL_law 348 = .ok (.aload_n 0, 1) := by decide +kernel
theorem dL_law_349 : decode cL_law 349 = .ok (.iload_n 3, 1) := by decide +kernel
theorem dL_law_350 : decode cL_law 350 = .ok (.iconst 1, 1) := by decide +kernel
theorem dL_law_351 : decode cL_law 351 = .ok (.iadd, 1) := by decide +kernel
theorem dL_law_352 : decode cL_law 352 = .ok (.iaload, 1) := by decide +kernel
theorem dL_law_353 : decode cL_law 353 = .ok (.invokevirtual 38, 3) := by decide +kernel
theorem dL_law_356 : decode cL_law 356 = .ok (.aload_n 2, 1) := by decide +kernel
theorem dL_law_357 : decode cL_law 357 = .ok (.aload_n 0, 1) := by decide +kernel
theorem dL_law_358 : decode cL_law 358 = .ok (.iload_n 3, 1) := by decide +kernel
theorem dL_law_359 : decode cL_law 359 = .ok (.iconst 1, 1) := by decide +kernel
theorem dL_law_360 : decode cL_law 360 = .ok (.iadd, 1) := by decide +kernel
theorem dL_law_361 : decode cL_law 361 = .ok (.iaload, 1) := by decide +kernel
theorem dL_law_362 : decode cL_law 362 = .ok (.invokevirtual 41, 3) := by decide +kernel
theorem dL_law_365 : decode cL_law 365 = .ok (.if_icmp .eq 889, 3) := by decide +kernel
theorem dL_law_368 : decode cL_law 368 = .ok (.iconst 0, 1) := by decide +kernel
theorem dL_law_369 : decode cL_law 369 = .ok (.ireturn, 1) := by decide +kernel
theorem dL_law_370 : decode cL_law 370 = .ok (.aload_n 1, 1) := by decide +kernel
theorem dL_law_371 : decode cL_law 371 = .ok (.invokevirtual 42, 3) := by decide +kernel
theorem dL_law_374 : decode cL_law 374 = .ok (.aload_n 2, 1) := by decide +kernel
theorem dL_law_375 : decode cL_law 375 = .ok (.invokevirtual 45, 3) := by decide +kernel
theorem dL_law_378 : decode cL_law 378 = .ok (.if_icmp .eq 876, 3) := by decide +kernel
theorem dL_law_381 : decode cL_law 381 = .ok (.iconst 0, 1) := by decide +kernel
theorem dL_law_382 : decode cL_law 382 = .ok (.ireturn, 1) := by decide +kernel
theorem dL_law_383 : decode cL_law 383 = .ok (.aload_n 1, 1) := by decide +kernel
theorem dL_law_384 : decode cL_law 384 = .ok (.invokevirtual 46, 3) := by decide +kernel
theorem dL_law_387 : decode cL_law 387 = .ok (.aload_n 2, 1) := by decide +kernel
theorem dL_law_388 : decode cL_law 388 = .ok (.invokevirtual 49, 3) := by decide +kernel
theorem dL_law_391 : decode cL_law 391 = .ok (.if_icmp .eq 863, 3) := by decide +kernel
theorem dL_law_394 : decode cL_law 394 = .ok (.iconst 0, 1) := by decide +kernel
theorem dL_law_395 : decode cL_law 395 = .ok (.ireturn, 1) := by decide +kernel
theorem dL_law_396 : decode cL_law 396 = .ok (.aload_n 1, 1) := by decide +kernel
theorem dL_law_397 : decode cL_law 397 = .ok (.invokevirtual 50, 3) := by decide +kernel
theorem dL_law_400 : decode cL_law 400 = .ok (.aload_n 2, 1) := by decide +kernel
theorem dL_law_401 : decode cL_law 401 = .ok (.invokevirtual 53, 3) := by decide +kernel
theorem dL_law_404 : decode cL_law 404 = .ok (.if_icmp .eq 850, 3) := by decide +kernel
theorem dL_law_407 : decode cL_law 407 = .ok (.iconst 0, 1) := by decide +kernel
theorem dL_law_408 : decode cL_law 408 = .ok (.ireturn, 1) := by decide +kernel
theorem dL_law_409 : decode cL_law 409 = .ok (.aload_n 1, 1) := by decide +kernel
theorem dL_law_410 : decode cL_law 410 = .ok (.aload_n 0, 1) := by decide +kernel
theorem dL_law_411 : decode cL_law 411 = .ok (.iload_n 3, 1) := by decide +kernel
theorem dL_law_412 : decode cL_law 412 = .ok (.iconst 1, 1) := by decide +kernel
theorem dL_law_413 : decode cL_law 413 = .ok (.iadd, 1) := by decide +kernel
theorem dL_law_414 : decode cL_law 414 = .ok (.iaload, 1) := by decide +kernel
theorem dL_law_415 : decode cL_law 415 = .ok (.aload_n 0, 1) := by decide +kernel
theorem dL_law_416 : decode cL_law 416 = .ok (.iload_n 3, 1) := by decide +kernel
theorem dL_law_417 : decode cL_law 417 = .ok (.iconst 2, 1) := by decide +kernel
theorem dL_law_418 : decode cL_law 418 = .ok (.iadd, 1) := by decide +kernel
theorem dL_law_419 : decode cL_law 419 = .ok (.iaload, 1) := by decide +kernel
theorem dL_law_420 : decode cL_law 420 = .ok (.ifCond .eq 7, 3) := by decide +kernel
theorem dL_law_423 : decode cL_law 423 = .ok (.iconst 1, 1) := by decide +kernel
theorem dL_law_424 : decode cL_law 424 = .ok (.goto 4, 3) := by decide +kernel
theorem dL_law_427 : decode cL_law 427 = .ok (.iconst 0, 1) := by decide +kernel
theorem dL_law_428 : decode cL_law 428 = .ok (.invokevirtual 54, 3) := by decide +kernel
theorem dL_law_431 : decode cL_law 431 = .ok (.aload_n 2, 1) := by decide +kernel
theorem dL_law_432 : decode cL_law 432 = .ok (.aload_n 0, 1) := by decide +kernel
theorem dL_law_433 : decode cL_law 433 = .ok (.iload_n 3, 1) := by decide +kernel
theorem dL_law_434 : decode cL_law 434 = .ok (.iconst 1, 1) := by decide +kernel
theorem dL_law_435 : decode cL_law 435 = .ok (.iadd, 1) := by decide +kernel
theorem dL_law_436 : decode cL_law 436 = .ok (.iaload, 1) := by decide +kernel
theorem dL_law_437 : decode cL_law 437 = .ok (.aload_n 0, 1) := by decide +kernel
theorem dL_law_438 : decode cL_law 438 = .ok (.iload_n 3, 1) := by decide +kernel
theorem dL_law_439 : decode cL_law 439 = .ok (.iconst 2, 1) := by decide +kernel
theorem dL_law_440 : decode cL_law 440 = .ok (.iadd, 1) := by decide +kernel
theorem dL_law_441 : decode cL_law 441 = .ok (.iaload, 1) := by decide +kernel
theorem dL_law_442 : decode cL_law 442 = .ok (.ifCond .eq 7, 3) := by decide +kernel
theorem dL_law_445 : decode cL_law 445 = .ok (.iconst 1, 1) := by decide +kernel
theorem dL_law_446 : decode cL_law 446 = .ok (.goto 4, 3) := by decide +kernel
theorem dL_law_449 : decode cL_law 449 = .ok (.iconst 0, 1) := by decide +kernel
theorem dL_law_450 : decode cL_law 450 = .ok (.invokevirtual 58, 3) := by decide +kernel
theorem dL_law_453 : decode cL_law 453 = .ok (.if_icmp .eq 801, 3) := by decide +kernel
theorem dL_law_456 : decode cL_law 456 = .ok (.iconst 0, 1) := by decide +kernel
theorem dL_law_457 : decode cL_law 457 = .ok (.ireturn, 1) := by decide +kernel
theorem dL_law_458 : decode cL_law 458 = .ok (.aload_n 1, 1) := by decide +kernel
theorem dL_law_459 : decode cL_law 459 = .ok (.aload_n 0, 1) := by decide +kernel
theorem dL_law_460 : decode cL_law 460 = .ok (.iload_n 3, 1) := by decide +kernel
theorem dL_law_461 : decode cL_law 461 = .ok (.iconst 1, 1) := by decide +kernel
theorem dL_law_462 : decode cL_law 462 = .ok (.iadd, 1) := by decide +kernel
theorem dL_law_463 : decode cL_law 463 = .ok (.iaload, 1) := by decide +kernel
theorem dL_law_464 : decode cL_law 464 = .ok (.invokevirtual 59, 3) := by decide +kernel
theorem dL_law_467 : decode cL_law 467 = .ok (.aload_n 2, 1) := by decide +kernel
theorem dL_law_468 : decode cL_law 468 = .ok (.aload_n 0, 1) := by decide +kernel
theorem dL_law_469 : decode cL_law 469 = .ok (.iload_n 3, 1) := by decide +kernel
theorem dL_law_470 : decode cL_law 470 = .ok (.iconst 1, 1) := by decide +kernel
theorem dL_law_471 : decode cL_law 471 = .ok (.iadd, 1) := by decide +kernel
theorem dL_law_472 : decode cL_law 472 = .ok (.iaload, 1) := by decide +kernel
theorem dL_law_473 : decode cL_law 473 = .ok (.invokevirtual 62, 3) := by decide +kernel
theorem dL_law_476 : decode cL_law 476 = .ok (.if_icmp .eq 778, 3) := by decide +kernel
theorem dL_law_479 : decode cL_law 479 = .ok (.iconst 0, 1) := by decide +kernel
theorem dL_law_480 : decode cL_law 480 = .ok (.ireturn, 1) := by decide +kernel
theorem dL_law_481 : decode cL_law 481 = .ok (.aload_n 1, 1) := by decide +kernel
theorem dL_law_482 : decode cL_law 482 = .ok (.aload_n 0, 1) := by decide +kernel
theorem dL_law_483 : decode cL_law 483 = .ok (.iload_n 3, 1) := by decide +kernel
theorem dL_law_484 : decode cL_law 484 = .ok (.iconst 1, 1) := by decide +kernel
theorem dL_law_485 : decode cL_law 485 = .ok (.iadd, 1) := by decide +kernel
theorem dL_law_486 : decode cL_law 486 = .ok (.iaload, 1) := by decide +kernel
theorem dL_law_487 : decode cL_law 487 = .ok (.aload_n 0, 1) := by decide +kernel
theorem dL_law_488 : decode cL_law 488 = .ok (.iload_n 3, 1) := by decide +kernel
theorem dL_law_489 : decode cL_law 489 = .ok (.iconst 2, 1) := by decide +kernel
theorem dL_law_490 : decode cL_law 490 = .ok (.iadd, 1) := by decide +kernel
theorem dL_law_491 : decode cL_law 491 = .ok (.iaload, 1) := by decide +kernel
theorem dL_law_492 : decode cL_law 492 = .ok (.invokevirtual 63, 3) := by decide +kernel
theorem dL_law_495 : decode cL_law 495 = .ok (.aload_n 2, 1) := by decide +kernel
theorem dL_law_496 : decode cL_law 496 = .ok (.aload_n 0, 1) := by decide +kernel
theorem dL_law_497 : decode cL_law 497 = .ok (.iload_n 3, 1) := by decide +kernel
theorem dL_law_498 : decode cL_law 498 = .ok (.iconst 1, 1) := by decide +kernel
theorem dL_law_499 : decode cL_law 499 = .ok (.iadd, 1) := by decide +kernel
theorem dL_law_500 : decode cL_law 500 = .ok (.iaload, 1) := by decide +kernel
theorem dL_law_501 : decode cL_law 501 = .ok (.aload_n 0, 1) := by decide +kernel
theorem dL_law_502 : decode cL_law 502 = .ok (.iload_n 3, 1) := by decide +kernel
theorem dL_law_503 : decode cL_law 503 = .ok (.iconst 2, 1) := by decide +kernel
theorem dL_law_504 : decode cL_law 504 = .ok (.iadd, 1) := by decide +kernel
theorem dL_law_505 : decode cL_law 505 = .ok (.iaload, 1) := by decide +kernel
theorem dL_law_506 : decode cL_law 506 = .ok (.invokevirtual 66, 3) := by decide +kernel
theorem dL_law_509 : decode cL_law 509 = .ok (.if_icmp .eq 745, 3) := by decide +kernel
theorem dL_law_512 : decode cL_law 512 = .ok (.iconst 0, 1) := by decide +kernel
theorem dL_law_513 : decode cL_law 513 = .ok (.ireturn, 1) := by decide +kernel
theorem dL_law_514 : decode cL_law 514 = .ok (.aload_n 1, 1) := by decide +kernel
theorem dL_law_515 : decode cL_law 515 = .ok (.aload_n 0, 1) := by decide +kernel
theorem dL_law_516 : decode cL_law 516 = .ok (.iload_n 3, 1) := by decide +kernel
theorem dL_law_517 : decode cL_law 517 = .ok (.iconst 1, 1) := by decide +kernel
theorem dL_law_518 : decode cL_law 518 = .ok (.iadd, 1) := by decide +kernel
theorem dL_law_519 : decode cL_law 519 = .ok (.iaload, 1) := by decide +kernel
theorem dL_law_520 : decode cL_law 520 = .ok (.aload_n 0, 1) := by decide +kernel
theorem dL_law_521 : decode cL_law 521 = .ok (.iload_n 3, 1) := by decide +kernel
theorem dL_law_522 : decode cL_law 522 = .ok (.iconst 2, 1) := by decide +kernel
theorem dL_law_523 : decode cL_law 523 = .ok (.iadd, 1) := by decide +kernel
theorem dL_law_524 : decode cL_law 524 = .ok (.iaload, 1) := by decide +kernel
theorem dL_law_525 : decode cL_law 525 = .ok (.aload_n 0, 1) := by decide +kernel
theorem dL_law_526 : decode cL_law 526 = .ok (.iload_n 3, 1) := by decide +kernel
theorem dL_law_527 : decode cL_law 527 = .ok (.iconst 3, 1) := by decide +kernel
theorem dL_law_528 : decode cL_law 528 = .ok (.iadd, 1) := by decide +kernel
theorem dL_law_529 : decode cL_law 529 = .ok (.iaload, 1) := by decide +kernel
theorem dL_law_530 : decode cL_law 530 = .ok (.invokevirtual 67, 3) := by decide +kernel
theorem dL_law_533 : decode cL_law 533 = .ok (.aload_n 2, 1) := by decide +kernel
theorem dL_law_534 : decode cL_law 534 = .ok (.aload_n 0, 1) := by decide +kernel
theorem dL_law_535 : decode cL_law 535 = .ok (.iload_n 3, 1) := by decide +kernel
theorem dL_law_536 : decode cL_law 536 = .ok (.iconst 1, 1) := by decide +kernel
theorem dL_law_537 : decode cL_law 537 = .ok (.iadd, 1) := by decide +kernel
theorem dL_law_538 : decode cL_law 538 = .ok (.iaload, 1) := by decide +kernel
theorem dL_law_539 : decode cL_law 539 = .ok (.aload_n 0, 1) := by decide +kernel
theorem dL_law_540 : decode cL_law 540 = .ok (.iload_n 3, 1) := by decide +kernel
theorem dL_law_541 : decode cL_law 541 = .ok (.iconst 2, 1) := by decide +kernel
theorem dL_law_542 : decode cL_law 542 = .ok (.iadd, 1) := by decide +kernel
theorem dL_law_543 : decode cL_law 543 = .ok (.iaload, 1) := by decide +kernel
theorem dL_law_544 : decode cL_law 544 = .ok (.aload_n 0, 1) := by decide +kernel
theorem dL_law_545 : decode cL_law 545 = .ok (.iload_n 3, 1) := by decide +kernel
theorem dL_law_546 : decode cL_law 546 = .ok (.iconst 3, 1) := by decide +kernel
theorem dL_law_547 : decode cL_law 547 = .ok (.iadd, 1) := by decide +kernel
theorem dL_law_548 : decode cL_law 548 = .ok (.iaload, 1) := by decide +kernel
theorem dL_law_549 : decode cL_law 549 = .ok (.invokevirtual 70, 3) := by decide +kernel
theorem dL_law_552 : decode cL_law 552 = .ok (.if_icmp .eq 702, 3) := by decide +kernel
theorem dL_law_555 : decode cL_law 555 = .ok (.iconst 0, 1) := by decide +kernel
theorem dL_law_556 : decode cL_law 556 = .ok (.ireturn, 1) := by decide +kernel
theorem dL_law_557 : decode cL_law 557 = .ok (.aload_n 1, 1) := by decide +kernel
theorem dL_law_558 : decode cL_law 558 = .ok (.aload_n 0, 1) := by decide +kernel
theorem dL_law_559 : decode cL_law 559 = .ok (.iload_n 3, 1) := by decide +kernel
theorem dL_law_560 : decode cL_law 560 = .ok (.iconst 1, 1) := by decide +kernel
theorem dL_law_561 : decode cL_law 561 = .ok (.iadd, 1) := by decide +kernel
theorem dL_law_562 : decode cL_law 562 = .ok (.iaload, 1) := by decide +kernel
theorem dL_law_563 : decode cL_law 563 = .ok (.aload_n 0, 1) := by decide +kernel
theorem dL_law_564 : decode cL_law 564 = .ok (.iload_n 3, 1) := by decide +kernel
theorem dL_law_565 : decode cL_law 565 = .ok (.iconst 2, 1) := by decide +kernel
theorem dL_law_566 : decode cL_law 566 = .ok (.iadd, 1) := by decide +kernel
theorem dL_law_567 : decode cL_law 567 = .ok (.iaload, 1) := by decide +kernel
theorem dL_law_568 : decode cL_law 568 = .ok (.aload_n 0, 1) := by decide +kernel
theorem dL_law_569 : decode cL_law 569 = .ok (.iload_n 3, 1) := by decide +kernel
theorem dL_law_570 : decode cL_law 570 = .ok (.iconst 3, 1) := by decide +kernel
theorem dL_law_571 : decode cL_law 571 = .ok (.iadd, 1) := by decide +kernel
theorem dL_law_572 : decode cL_law 572 = .ok (.iaload, 1) := by decide +kernel
theorem dL_law_573 : decode cL_law 573 = .ok (.invokevirtual 71, 3) := by decide +kernel
theorem dL_law_576 : decode cL_law 576 = .ok (.aload_n 2, 1) := by decide +kernel
theorem dL_law_577 : decode cL_law 577 = .ok (.aload_n 0, 1) := by decide +kernel
theorem dL_law_578 : decode cL_law 578 = .ok (.iload_n 3, 1) := by decide +kernel
theorem dL_law_579 : decode cL_law 579 = .ok (.iconst 1, 1) := by decide +kernel
theorem dL_law_580 : decode cL_law 580 = .ok (.iadd, 1) := by decide +kernel
theorem dL_law_581 : decode cL_law 581 = .ok (.iaload, 1) := by decide +kernel
theorem dL_law_582 : decode cL_law 582 = .ok (.aload_n 0, 1) := by decide +kernel
theorem dL_law_583 : decode cL_law 583 = .ok (.iload_n 3, 1) := by decide +kernel
theorem dL_law_584 : decode cL_law 584 = .ok (.iconst 2, 1) := by decide +kernel
theorem dL_law_585 : decode cL_law 585 = .ok (.iadd, 1) := by decide +kernel
theorem dL_law_586 : decode cL_law 586 = .ok (.iaload, 1) := by decide +kernel
theorem dL_law_587 : decode cL_law 587 = .ok (.aload_n 0, 1) := by decide +kernel
theorem dL_law_588 : decode cL_law 588 = .ok (.iload_n 3, 1) := by decide +kernel
theorem dL_law_589 : decode cL_law 589 = .ok (.iconst 3, 1) := by decide +kernel
theorem dL_law_590 : decode cL_law 590 = .ok (.iadd, 1) := by decide +kernel
theorem dL_law_591 : decode cL_law 591 = .ok (.iaload, 1) := by decide +kernel
theorem dL_law_592 : decode cL_law 592 = .ok (.invokevirtual 74, 3) := by decide +kernel
theorem dL_law_595 : decode cL_law 595 = .ok (.if_icmp .eq 659, 3) := by decide +kernel
theorem dL_law_598 : decode cL_law 598 = .ok (.iconst 0, 1) := by decide +kernel
theorem dL_law_599 : decode cL_law 599 = .ok (.ireturn, 1) := by decide +kernel
theorem dL_law_600 : decode cL_law 600 = .ok (.aload_n 1, 1) := by decide +kernel
theorem dL_law_601 : decode cL_law 601 = .ok (.aload_n 0, 1) := by decide +kernel
theorem dL_law_602 : decode cL_law 602 = .ok (.iload_n 3, 1) := by decide +kernel
theorem dL_law_603 : decode cL_law 603 = .ok (.iconst 1, 1) := by decide +kernel
theorem dL_law_604 : decode cL_law 604 = .ok (.iadd, 1) := by decide +kernel
theorem dL_law_605 : decode cL_law 605 = .ok (.iaload, 1) := by decide +kernel
theorem dL_law_606 : decode cL_law 606 = .ok (.aload_n 0, 1) := by decide +kernel
theorem dL_law_607 : decode cL_law 607 = .ok (.iload_n 3, 1) := by decide +kernel
theorem dL_law_608 : decode cL_law 608 = .ok (.iconst 2, 1) := by decide +kernel
theorem dL_law_609 : decode cL_law 609 = .ok (.iadd, 1) := by decide +kernel
theorem dL_law_610 : decode cL_law 610 = .ok (.iaload, 1) := by decide +kernel
theorem dL_law_611 : decode cL_law 611 = .ok (.aload_n 0, 1) := by decide +kernel
theorem dL_law_612 : decode cL_law 612 = .ok (.iload_n 3, 1) := by decide +kernel
theorem dL_law_613 : decode cL_law 613 = .ok (.iconst 3, 1) := by decide +kernel
theorem dL_law_614 : decode cL_law 614 = .ok (.iadd, 1) := by decide +kernel
theorem dL_law_615 : decode cL_law 615 = .ok (.iaload, 1) := by decide +kernel
theorem dL_law_616 : decode cL_law 616 = .ok (.invokevirtual 75, 3) := by decide +kernel
theorem dL_law_619 : decode cL_law 619 = .ok (.aload_n 2, 1) := by decide +kernel
theorem dL_law_620 : decode cL_law 620 = .ok (.aload_n 0, 1) := by decide +kernel
theorem dL_law_621 : decode cL_law 621 = .ok (.iload_n 3, 1) := by decide +kernel
theorem dL_law_622 : decode cL_law 622 = .ok (.iconst 1, 1) := by decide +kernel
theorem dL_law_623 : decode cL_law 623 = .ok (.iadd, 1) := by decide +kernel
theorem dL_law_624 : decode cL_law 624 = .ok (.iaload, 1) := by decide +kernel
theorem dL_law_625 : decode cL_law 625 = .ok (.aload_n 0, 1) := by decide +kernel
theorem dL_law_626 : decode cL_law 626 = .ok (.iload_n 3, 1) := by decide +kernel
theorem dL_law_627 : decode cL_law 627 = .ok (.iconst 2, 1) := by decide +kernel
theorem dL_law_628 : decode cL_law 628 = .ok (.iadd, 1) := by decide +kernel
theorem dL_law_629 : decode cL_law 629 = .ok (.iaload, 1) := by decide +kernel
theorem dL_law_630 : decode cL_law 630 = .ok (.aload_n 0, 1) := by decide +kernel
theorem dL_law_631 : decode cL_law 631 = .ok (.iload_n 3, 1) := by decide +kernel
theorem dL_law_632 : decode cL_law 632 = .ok (.iconst 3, 1) := by decide +kernel
theorem dL_law_633 : decode cL_law 633 = .ok (.iadd, 1) := by decide +kernel
theorem dL_law_634 : decode cL_law 634 = .ok (.iaload, 1) := by decide +kernel
theorem dL_law_635 : decode cL_law 635 = .ok (.invokevirtual 78, 3) := by decide +kernel
theorem dL_law_638 : decode cL_law 638 = .ok (.if_icmp .eq 616, 3) := by decide +kernel
theorem dL_law_641 : decode cL_law 641 = .ok (.iconst 0, 1) := by decide +kernel
theorem dL_law_642 : decode cL_law 642 = .ok (.ireturn, 1) := by decide +kernel
theorem dL_law_643 : decode cL_law 643 = .ok (.aload_n 1, 1) := by decide +kernel
theorem dL_law_644 : decode cL_law 644 = .ok (.aload_n 0, 1) := by decide +kernel
theorem dL_law_645 : decode cL_law 645 = .ok (.iload_n 3, 1) := by decide +kernel
theorem dL_law_646 : decode cL_law 646 = .ok (.iconst 1, 1) := by decide +kernel
theorem dL_law_647 : decode cL_law 647 = .ok (.iadd, 1) := by decide +kernel
theorem dL_law_648 : decode cL_law 648 = .ok (.iaload, 1) := by decide +kernel
theorem dL_law_649 : decode cL_law 649 = .ok (.aload_n 0, 1) := by decide +kernel
theorem dL_law_650 : decode cL_law 650 = .ok (.iload_n 3, 1) := by decide +kernel
theorem dL_law_651 : decode cL_law 651 = .ok (.iconst 2, 1) := by decide +kernel
theorem dL_law_652 : decode cL_law 652 = .ok (.iadd, 1) := by decide +kernel
theorem dL_law_653 : decode cL_law 653 = .ok (.iaload, 1) := by decide +kernel
theorem dL_law_654 : decode cL_law 654 = .ok (.invokevirtual 79, 3) := by decide +kernel
theorem dL_law_657 : decode cL_law 657 = .ok (.aload_n 2, 1) := by decide +kernel
theorem dL_law_658 : decode cL_law 658 = .ok (.aload_n 0, 1) := by decide +kernel
theorem dL_law_659 : decode cL_law 659 = .ok (.iload_n 3, 1) := by decide +kernel
theorem dL_law_660 : decode cL_law 660 = .ok (.iconst 1, 1) := by decide +kernel
theorem dL_law_661 : decode cL_law 661 = .ok (.iadd, 1) := by decide +kernel
theorem dL_law_662 : decode cL_law 662 = .ok (.iaload, 1) := by decide +kernel
theorem dL_law_663 : decode cL_law 663 = .ok (.aload_n 0, 1) := by decide +kernel
theorem dL_law_664 : decode cL_law 664 = .ok (.iload_n 3, 1) := by decide +kernel
theorem dL_law_665 : decode cL_law 665 = .ok (.iconst 2, 1) := by decide +kernel
theorem dL_law_666 : decode cL_law 666 = .ok (.iadd, 1) := by decide +kernel
theorem dL_law_667 : decode cL_law 667 = .ok (.iaload, 1) := by decide +kernel
theorem dL_law_668 : decode cL_law 668 = .ok (.invokevirtual 82, 3) := by decide +kernel
theorem dL_law_671 : decode cL_law 671 = .ok (.if_icmp .eq 583, 3) := by decide +kernel
theorem dL_law_674 : decode cL_law 674 = .ok (.iconst 0, 1) := by decide +kernel
theorem dL_law_675 : decode cL_law 675 = .ok (.ireturn, 1) := by decide +kernel
theorem dL_law_676 : decode cL_law 676 = .ok (.aload_n 1, 1) := by decide +kernel
theorem dL_law_677 : decode cL_law 677 = .ok (.aload_n 0, 1) := by decide +kernel
theorem dL_law_678 : decode cL_law 678 = .ok (.iload_n 3, 1) := by decide +kernel
theorem dL_law_679 : decode cL_law 679 = .ok (.iconst 1, 1) := by decide +kernel
theorem dL_law_680 : decode cL_law 680 = .ok (.iadd, 1) := by decide +kernel
theorem dL_law_681 : decode cL_law 681 = .ok (.iaload, 1) := by decide +kernel
theorem dL_law_682 : decode cL_law 682 = .ok (.aload_n 0, 1) := by decide +kernel
theorem dL_law_683 : decode cL_law 683 = .ok (.iload_n 3, 1) := by decide +kernel
theorem dL_law_684 : decode cL_law 684 = .ok (.iconst 2, 1) := by decide +kernel
theorem dL_law_685 : decode cL_law 685 = .ok (.iadd, 1) := by decide +kernel
theorem dL_law_686 : decode cL_law 686 = .ok (.iaload, 1) := by decide +kernel
theorem dL_law_687 : decode cL_law 687 = .ok (.aload_n 0, 1) := by decide +kernel
theorem dL_law_688 : decode cL_law 688 = .ok (.iload_n 3, 1) := by decide +kernel
theorem dL_law_689 : decode cL_law 689 = .ok (.iconst 3, 1) := by decide +kernel
theorem dL_law_690 : decode cL_law 690 = .ok (.iadd, 1) := by decide +kernel
theorem dL_law_691 : decode cL_law 691 = .ok (.iaload, 1) := by decide +kernel
theorem dL_law_692 : decode cL_law 692 = .ok (.invokevirtual 83, 3) := by decide +kernel
theorem dL_law_695 : decode cL_law 695 = .ok (.aload_n 2, 1) := by decide +kernel
theorem dL_law_696 : decode cL_law 696 = .ok (.aload_n 0, 1) := by decide +kernel
theorem dL_law_697 : decode cL_law 697 = .ok (.iload_n 3, 1) := by decide +kernel
theorem dL_law_698 : decode cL_law 698 = .ok (.iconst 1, 1) := by decide +kernel
theorem dL_law_699 : decode cL_law 699 = .ok (.iadd, 1) := by decide +kernel
theorem dL_law_700 : decode cL_law 700 = .ok (.iaload, 1) := by decide +kernel
theorem dL_law_701 : decode cL_law 701 = .ok (.aload_n 0, 1) := by decide +kernel
theorem dL_law_702 : decode cL_law 702 = .ok (.iload_n 3, 1) := by decide +kernel
theorem dL_law_703 : decode cL_law 703 = .ok (.iconst 2, 1) := by decide +kernel
theorem dL_law_704 : decode cL_law 704 = .ok (.iadd, 1) := by decide +kernel
theorem dL_law_705 : decode cL_law 705 = .ok (.iaload, 1) := by decide +kernel
theorem dL_law_706 : decode cL_law 706 = .ok (.aload_n 0, 1) := by decide +kernel
theorem dL_law_707 : decode cL_law 707 = .ok (.iload_n 3, 1) := by decide +kernel
theorem dL_law_708 : decode cL_law 708 = .ok (.iconst 3, 1) := by decide +kernel
theorem dL_law_709 : decode cL_law 709 = .ok (.iadd, 1) := by decide +kernel
theorem dL_law_710 : decode cL_law 710 = .ok (.iaload, 1) := by decide +kernel
theorem dL_law_711 : decode cL_law 711 = .ok (.invokevirtual 86, 3) := by decide +kernel
theorem dL_law_714 : decode cL_law 714 = .ok (.if_icmp .eq 540, 3) := by decide +kernel
theorem dL_law_717 : decode cL_law 717 = .ok (.iconst 0, 1) := by decide +kernel
theorem dL_law_718 : decode cL_law 718 = .ok (.ireturn, 1) := by decide +kernel
theorem dL_law_719 : decode cL_law 719 = .ok (.aload_n 1, 1) := by decide +kernel
theorem dL_law_720 : decode cL_law 720 = .ok (.aload_n 0, 1) := by decide +kernel
theorem dL_law_721 : decode cL_law 721 = .ok (.iload_n 3, 1) := by decide +kernel
theorem dL_law_722 : decode cL_law 722 = .ok (.iconst 1, 1) := by decide +kernel
theorem dL_law_723 : decode cL_law 723 = .ok (.iadd, 1) := by decide +kernel
theorem dL_law_724 : decode cL_law 724 = .ok (.iaload, 1) := by decide +kernel
theorem dL_law_725 : decode cL_law 725 = .ok (.aload_n 0, 1) := by decide +kernel
theorem dL_law_726 : decode cL_law 726 = .ok (.iload_n 3, 1) := by decide +kernel
theorem dL_law_727 : decode cL_law 727 = .ok (.iconst 2, 1) := by decide +kernel
theorem dL_law_728 : decode cL_law 728 = .ok (.iadd, 1) := by decide +kernel
theorem dL_law_729 : decode cL_law 729 = .ok (.iaload, 1) := by decide +kernel
theorem dL_law_730 : decode cL_law 730 = .ok (.aload_n 0, 1) := by decide +kernel
theorem dL_law_731 : decode cL_law 731 = .ok (.iload_n 3, 1) := by decide +kernel
theorem dL_law_732 : decode cL_law 732 = .ok (.iconst 3, 1) := by decide +kernel
theorem dL_law_733 : decode cL_law 733 = .ok (.iadd, 1) := by decide +kernel
theorem dL_law_734 : decode cL_law 734 = .ok (.iaload, 1) := by decide +kernel
theorem dL_law_735 : decode cL_law 735 = .ok (.invokevirtual 87, 3) := by decide +kernel
theorem dL_law_738 : decode cL_law 738 = .ok (.aload_n 2, 1) := by decide +kernel
theorem dL_law_739 : decode cL_law 739 = .ok (.aload_n 0, 1) := by decide +kernel
theorem dL_law_740 : decode cL_law 740 = .ok (.iload_n 3, 1) := by decide +kernel
theorem dL_law_741 : decode cL_law 741 = .ok (.iconst 1, 1) := by decide +kernel
theorem dL_law_742 : decode cL_law 742 = .ok (.iadd, 1) := by decide +kernel
theorem dL_law_743 : decode cL_law 743 = .ok (.iaload, 1) := by decide +kernel
theorem dL_law_744 : decode cL_law 744 = .ok (.aload_n 0, 1) := by decide +kernel
theorem dL_law_745 : decode cL_law 745 = .ok (.iload_n 3, 1) := by decide +kernel
theorem dL_law_746 : decode cL_law 746 = .ok (.iconst 2, 1) := by decide +kernel
theorem dL_law_747 : decode cL_law 747 = .ok (.iadd, 1) := by decide +kernel
theorem dL_law_748 : decode cL_law 748 = .ok (.iaload, 1) := by decide +kernel
theorem dL_law_749 : decode cL_law 749 = .ok (.aload_n 0, 1) := by decide +kernel
theorem dL_law_750 : decode cL_law 750 = .ok (.iload_n 3, 1) := by decide +kernel
theorem dL_law_751 : decode cL_law 751 = .ok (.iconst 3, 1) := by decide +kernel
theorem dL_law_752 : decode cL_law 752 = .ok (.iadd, 1) := by decide +kernel
theorem dL_law_753 : decode cL_law 753 = .ok (.iaload, 1) := by decide +kernel
theorem dL_law_754 : decode cL_law 754 = .ok (.invokevirtual 90, 3) := by decide +kernel
theorem dL_law_757 : decode cL_law 757 = .ok (.if_icmp .eq 497, 3) := by decide +kernel
theorem dL_law_760 : decode cL_law 760 = .ok (.iconst 0, 1) := by decide +kernel
theorem dL_law_761 : decode cL_law 761 = .ok (.ireturn, 1) := by decide +kernel
theorem dL_law_762 : decode cL_law 762 = .ok (.aload_n 1, 1) := by decide +kernel
theorem dL_law_763 : decode cL_law 763 = .ok (.aload_n 0, 1) := by decide +kernel
theorem dL_law_764 : decode cL_law 764 = .ok (.iload_n 3, 1) := by decide +kernel
theorem dL_law_765 : decode cL_law 765 = .ok (.iconst 1, 1) := by decide +kernel
theorem dL_law_766 : decode cL_law 766 = .ok (.iadd, 1) := by decide +kernel
theorem dL_law_767 : decode cL_law 767 = .ok (.iaload, 1) := by decide +kernel
theorem dL_law_768 : decode cL_law 768 = .ok (.aload_n 0, 1) := by decide +kernel
theorem dL_law_769 : decode cL_law 769 = .ok (.iload_n 3, 1) := by decide +kernel
theorem dL_law_770 : decode cL_law 770 = .ok (.iconst 2, 1) := by decide +kernel
theorem dL_law_771 : decode cL_law 771 = .ok (.iadd, 1) := by decide +kernel
theorem dL_law_772 : decode cL_law 772 = .ok (.iaload, 1) := by decide +kernel
theorem dL_law_773 : decode cL_law 773 = .ok (.aload_n 0, 1) := by decide +kernel
theorem dL_law_774 : decode cL_law 774 = .ok (.iload_n 3, 1) := by decide +kernel
theorem dL_law_775 : decode cL_law 775 = .ok (.iconst 3, 1) := by decide +kernel
theorem dL_law_776 : decode cL_law 776 = .ok (.iadd, 1) := by decide +kernel
theorem dL_law_777 : decode cL_law 777 = .ok (.iaload, 1) := by decide +kernel
theorem dL_law_778 : decode cL_law 778 = .ok (.invokevirtual 91, 3) := by decide +kernel
theorem dL_law_781 : decode cL_law 781 = .ok (.aload_n 2, 1) := by decide +kernel
theorem dL_law_782 : decode cL_law 782 = .ok (.aload_n 0, 1) := by decide +kernel
theorem dL_law_783 : decode cL_law 783 = .ok (.iload_n 3, 1) := by decide +kernel
theorem dL_law_784 : decode cL_law 784 = .ok (.iconst 1, 1) := by decide +kernel
theorem dL_law_785 : decode cL_law 785 = .ok (.iadd, 1) := by decide +kernel
theorem dL_law_786 : decode cL_law 786 = .ok (.iaload, 1) := by decide +kernel
theorem dL_law_787 : decode cL_law 787 = .ok (.aload_n 0, 1) := by decide +kernel
theorem dL_law_788 : decode cL_law 788 = .ok (.iload_n 3, 1) := by decide +kernel
theorem dL_law_789 : decode cL_law 789 = .ok (.iconst 2, 1) := by decide +kernel
theorem dL_law_790 : decode cL_law 790 = .ok (.iadd, 1) := by decide +kernel
theorem dL_law_791 : decode cL_law 791 = .ok (.iaload, 1) := by decide +kernel
theorem dL_law_792 : decode cL_law 792 = .ok (.aload_n 0, 1) := by decide +kernel
theorem dL_law_793 : decode cL_law 793 = .ok (.iload_n 3, 1) := by decide +kernel
theorem dL_law_794 : decode cL_law 794 = .ok (.iconst 3, 1) := by decide +kernel
theorem dL_law_795 : decode cL_law 795 = .ok (.iadd, 1) := by decide +kernel
theorem dL_law_796 : decode cL_law 796 = .ok (.iaload, 1) := by decide +kernel
theorem dL_law_797 : decode cL_law 797 = .ok (.invokevirtual 94, 3) := by decide +kernel
theorem dL_law_800 : decode cL_law 800 = .ok (.if_icmp .eq 454, 3) := by decide +kernel
theorem dL_law_803 : decode cL_law 803 = .ok (.iconst 0, 1) := by decide +kernel
theorem dL_law_804 : decode cL_law 804 = .ok (.ireturn, 1) := by decide +kernel
theorem dL_law_805 : decode cL_law 805 = .ok (.aload_n 1, 1) := by decide +kernel
theorem dL_law_806 : decode cL_law 806 = .ok (.aload_n 0, 1) := by decide +kernel
theorem dL_law_807 : decode cL_law 807 = .ok (.iload_n 3, 1) := by decide +kernel
theorem dL_law_808 : decode cL_law 808 = .ok (.iconst 1, 1) := by decide +kernel
theorem dL_law_809 : decode cL_law 809 = .ok (.iadd, 1) := by decide +kernel
theorem dL_law_810 : decode cL_law 810 = .ok (.iaload, 1) := by decide +kernel
theorem dL_law_811 : decode cL_law 811 = .ok (.aload_n 0, 1) := by decide +kernel
theorem dL_law_812 : decode cL_law 812 = .ok (.iload_n 3, 1) := by decide +kernel
theorem dL_law_813 : decode cL_law 813 = .ok (.iconst 2, 1) := by decide +kernel
theorem dL_law_814 : decode cL_law 814 = .ok (.iadd, 1) := by decide +kernel
theorem dL_law_815 : decode cL_law 815 = .ok (.iaload, 1) := by decide +kernel
theorem dL_law_816 : decode cL_law 816 = .ok (.invokevirtual 95, 3) := by decide +kernel
theorem dL_law_819 : decode cL_law 819 = .ok (.aload_n 2, 1) := by decide +kernel
theorem dL_law_820 : decode cL_law 820 = .ok (.aload_n 0, 1) := by decide +kernel
theorem dL_law_821 : decode cL_law 821 = .ok (.iload_n 3, 1) := by decide +kernel
theorem dL_law_822 : decode cL_law 822 = .ok (.iconst 1, 1) := by decide +kernel
theorem dL_law_823 : decode cL_law 823 = .ok (.iadd, 1) := by decide +kernel
theorem dL_law_824 : decode cL_law 824 = .ok (.iaload, 1) := by decide +kernel
theorem dL_law_825 : decode cL_law 825 = .ok (.aload_n 0, 1) := by decide +kernel
theorem dL_law_826 : decode cL_law 826 = .ok (.iload_n 3, 1) := by decide +kernel
theorem dL_law_827 : decode cL_law 827 = .ok (.iconst 2, 1) := by decide +kernel
theorem dL_law_828 : decode cL_law 828 = .ok (.iadd, 1) := by decide +kernel
theorem dL_law_829 : decode cL_law 829 = .ok (.iaload, 1) := by decide +kernel
theorem dL_law_830 : decode cL_law 830 = .ok (.invokevirtual 98, 3) := by decide +kernel
theorem dL_law_833 : decode cL_law 833 = .ok (.if_icmp .eq 421, 3) := by decide +kernel
theorem dL_law_836 : decode cL_law 836 = .ok (.iconst 0, 1) := by decide +kernel
theorem dL_law_837 : decode cL_law 837 = .ok (.ireturn, 1) := by decide +kernel
theorem dL_law_838 : decode cL_law 838 = .ok (.aload_n 1, 1) := by decide +kernel
theorem dL_law_839 : decode cL_law 839 = .ok (.aload_n 0, 1) := by decide +kernel
theorem dL_law_840 : decode cL_law 840 = .ok (.iload_n 3, 1) := by decide +kernel
theorem dL_law_841 : decode cL_law 841 = .ok (.iconst 1, 1) := by decide +kernel
theorem dL_law_842 : decode cL_law 842 = .ok (.iadd, 1) := by decide +kernel
theorem dL_law_843 : decode cL_law 843 = .ok (.iaload, 1) := by decide +kernel
theorem dL_law_844 : decode cL_law 844 = .ok (.aload_n 0, 1) := by decide +kernel
theorem dL_law_845 : decode cL_law 845 = .ok (.iload_n 3, 1) := by decide +kernel
theorem dL_law_846 : decode cL_law 846 = .ok (.iconst 2, 1) := by decide +kernel
theorem dL_law_847 : decode cL_law 847 = .ok (.iadd, 1) := by decide +kernel
theorem dL_law_848 : decode cL_law 848 = .ok (.iaload, 1) := by decide +kernel
theorem dL_law_849 : decode cL_law 849 = .ok (.aload_n 0, 1) := by decide +kernel
theorem dL_law_850 : decode cL_law 850 = .ok (.iload_n 3, 1) := by decide +kernel
theorem dL_law_851 : decode cL_law 851 = .ok (.iconst 3, 1) := by decide +kernel
theorem dL_law_852 : decode cL_law 852 = .ok (.iadd, 1) := by decide +kernel
theorem dL_law_853 : decode cL_law 853 = .ok (.iaload, 1) := by decide +kernel
theorem dL_law_854 : decode cL_law 854 = .ok (.aload_n 0, 1) := by decide +kernel
theorem dL_law_855 : decode cL_law 855 = .ok (.iload_n 3, 1) := by decide +kernel
theorem dL_law_856 : decode cL_law 856 = .ok (.iconst 4, 1) := by decide +kernel
theorem dL_law_857 : decode cL_law 857 = .ok (.iadd, 1) := by decide +kernel
theorem dL_law_858 : decode cL_law 858 = .ok (.iaload, 1) := by decide +kernel
theorem dL_law_859 : decode cL_law 859 = .ok (.invokevirtual 99, 3) := by decide +kernel
theorem dL_law_862 : decode cL_law 862 = .ok (.aload_n 2, 1) := by decide +kernel
theorem dL_law_863 : decode cL_law 863 = .ok (.aload_n 0, 1) := by decide +kernel
theorem dL_law_864 : decode cL_law 864 = .ok (.iload_n 3, 1) := by decide +kernel
theorem dL_law_865 : decode cL_law 865 = .ok (.iconst 1, 1) := by decide +kernel
theorem dL_law_866 : decode cL_law 866 = .ok (.iadd, 1) := by decide +kernel
theorem dL_law_867 : decode cL_law 867 = .ok (.iaload, 1) := by decide +kernel
theorem dL_law_868 : decode cL_law 868 = .ok (.aload_n 0, 1) := by decide +kernel
theorem dL_law_869 : decode cL_law 869 = .ok (.iload_n 3, 1) := by decide +kernel
theorem dL_law_870 : decode cL_law 870 = .ok (.iconst 2, 1) := by decide +kernel
theorem dL_law_871 : decode cL_law 871 = .ok (.iadd, 1) := by decide +kernel
theorem dL_law_872 : decode cL_law 872 = .ok (.iaload, 1) := by decide +kernel
theorem dL_law_873 : decode cL_law 873 = .ok (.aload_n 0, 1) := by decide +kernel
theorem dL_law_874 : decode cL_law 874 = .ok (.iload_n 3, 1) := by decide +kernel
theorem dL_law_875 : decode cL_law 875 = .ok (.iconst 3, 1) := by decide +kernel
theorem dL_law_876 : decode cL_law 876 = .ok (.iadd, 1) := by decide +kernel
theorem dL_law_877 : decode cL_law 877 = .ok (.iaload, 1) := by decide +kernel
theorem dL_law_878 : decode cL_law 878 = .ok (.aload_n 0, 1) := by decide +kernel
theorem dL_law_879 : decode cL_law 879 = .ok (.iload_n 3, 1) := by decide +kernel
theorem dL_law_880 : decode cL_law 880 = .ok (.iconst 4, 1) := by decide +kernel
theorem dL_law_881 : decode cL_law 881 = .ok (.iadd, 1) := by decide +kernel
theorem dL_law_882 : decode cL_law 882 = .ok (.iaload, 1) := by decide +kernel
theorem dL_law_883 : decode cL_law 883 = .ok (.invokevirtual 103, 3) := by decide +kernel
theorem dL_law_886 : decode cL_law 886 = .ok (.if_icmp .eq 368, 3) := by decide +kernel
theorem dL_law_889 : decode cL_law 889 = .ok (.iconst 0, 1) := by decide +kernel
theorem dL_law_890 : decode cL_law 890 = .ok (.ireturn, 1) := by decide +kernel
theorem dL_law_891 : decode cL_law 891 = .ok (.aload_n 1, 1) := by decide +kernel
theorem dL_law_892 : decode cL_law 892 = .ok (.aload_n 0, 1) := by decide +kernel
theorem dL_law_893 : decode cL_law 893 = .ok (.iload_n 3, 1) := by decide +kernel
theorem dL_law_894 : decode cL_law 894 = .ok (.iconst 1, 1) := by decide +kernel
theorem dL_law_895 : decode cL_law 895 = .ok (.iadd, 1) := by decide +kernel
theorem dL_law_896 : decode cL_law 896 = .ok (.iaload, 1) := by decide +kernel
theorem dL_law_897 : decode cL_law 897 = .ok (.aload_n 0, 1) := by decide +kernel
theorem dL_law_898 : decode cL_law 898 = .ok (.iload_n 3, 1) := by decide +kernel
theorem dL_law_899 : decode cL_law 899 = .ok (.iconst 2, 1) := by decide +kernel
theorem dL_law_900 : decode cL_law 900 = .ok (.iadd, 1) := by decide +kernel
theorem dL_law_901 : decode cL_law 901 = .ok (.iaload, 1) := by decide +kernel
theorem dL_law_902 : decode cL_law 902 = .ok (.aload_n 0, 1) := by decide +kernel
theorem dL_law_903 : decode cL_law 903 = .ok (.iload_n 3, 1) := by decide +kernel
theorem dL_law_904 : decode cL_law 904 = .ok (.iconst 3, 1) := by decide +kernel
theorem dL_law_905 : decode cL_law 905 = .ok (.iadd, 1) := by decide +kernel
theorem dL_law_906 : decode cL_law 906 = .ok (.iaload, 1) := by decide +kernel
theorem dL_law_907 : decode cL_law 907 = .ok (.aload_n 0, 1) := by decide +kernel
theorem dL_law_908 : decode cL_law 908 = .ok (.iload_n 3, 1) := by decide +kernel
theorem dL_law_909 : decode cL_law 909 = .ok (.iconst 4, 1) := by decide +kernel
theorem dL_law_910 : decode cL_law 910 = .ok (.iadd, 1) := by decide +kernel
theorem dL_law_911 : decode cL_law 911 = .ok (.iaload, 1) := by decide +kernel
theorem dL_law_912 : decode cL_law 912 = .ok (.invokevirtual 104, 3) := by decide +kernel
theorem dL_law_915 : decode cL_law 915 = .ok (.aload_n 2, 1) := by decide +kernel
theorem dL_law_916 : decode cL_law 916 = .ok (.aload_n 0, 1) := by decide +kernel
theorem dL_law_917 : decode cL_law 917 = .ok (.iload_n 3, 1) := by decide +kernel
theorem dL_law_918 : decode cL_law 918 = .ok (.iconst 1, 1) := by decide +kernel
theorem dL_law_919 : decode cL_law 919 = .ok (.iadd, 1) := by decide +kernel
theorem dL_law_920 : decode cL_law 920 = .ok (.iaload, 1) := by decide +kernel
theorem dL_law_921 : decode cL_law 921 = .ok (.aload_n 0, 1) := by decide +kernel
theorem dL_law_922 : decode cL_law 922 = .ok (.iload_n 3, 1) := by decide +kernel
theorem dL_law_923 : decode cL_law 923 = .ok (.iconst 2, 1) := by decide +kernel
theorem dL_law_924 : decode cL_law 924 = .ok (.iadd, 1) := by decide +kernel
theorem dL_law_925 : decode cL_law 925 = .ok (.iaload, 1) := by decide +kernel
theorem dL_law_926 : decode cL_law 926 = .ok (.aload_n 0, 1) := by decide +kernel
theorem dL_law_927 : decode cL_law 927 = .ok (.iload_n 3, 1) := by decide +kernel
theorem dL_law_928 : decode cL_law 928 = .ok (.iconst 3, 1) := by decide +kernel
theorem dL_law_929 : decode cL_law 929 = .ok (.iadd, 1) := by decide +kernel
theorem dL_law_930 : decode cL_law 930 = .ok (.iaload, 1) := by decide +kernel
theorem dL_law_931 : decode cL_law 931 = .ok (.aload_n 0, 1) := by decide +kernel
theorem dL_law_932 : decode cL_law 932 = .ok (.iload_n 3, 1) := by decide +kernel
theorem dL_law_933 : decode cL_law 933 = .ok (.iconst 4, 1) := by decide +kernel
theorem dL_law_934 : decode cL_law 934 = .ok (.iadd, 1) := by decide +kernel
theorem dL_law_935 : decode cL_law 935 = .ok (.iaload, 1) := by decide +kernel
theorem dL_law_936 : decode cL_law 936 = .ok (.invokevirtual 107, 3) := by decide +kernel
theorem dL_law_939 : decode cL_law 939 = .ok (.if_icmp .eq 315, 3) := by decide +kernel
theorem dL_law_942 : decode cL_law 942 = .ok (.iconst 0, 1) := by decide +kernel
theorem dL_law_943 : decode cL_law 943 = .ok (.ireturn, 1) := by decide +kernel
theorem dL_law_944 : decode cL_law 944 = .ok (.aload_n 1, 1) := by decide +kernel
theorem dL_law_945 : decode cL_law 945 = .ok (.aload_n 0, 1) := by decide +kernel
theorem dL_law_946 : decode cL_law 946 = .ok (.iload_n 3, 1) := by decide +kernel
theorem dL_law_947 : decode cL_law 947 = .ok (.iconst 1, 1) := by decide +kernel
theorem dL_law_948 : decode cL_law 948 = .ok (.iadd, 1) := by decide +kernel
theorem dL_law_949 : decode cL_law 949 = .ok (.iaload, 1) := by decide +kernel
theorem dL_law_950 : decode cL_law 950 = .ok (.aload_n 0, 1) := by decide +kernel
theorem dL_law_951 : decode cL_law 951 = .ok (.iload_n 3, 1) := by decide +kernel
theorem dL_law_952 : decode cL_law 952 = .ok (.iconst 2, 1) := by decide +kernel
theorem dL_law_953 : decode cL_law 953 = .ok (.iadd, 1) := by decide +kernel
theorem dL_law_954 : decode cL_law 954 = .ok (.iaload, 1) := by decide +kernel
theorem dL_law_955 : decode cL_law 955 = .ok (.aload_n 0, 1) := by decide +kernel
theorem dL_law_956 : decode cL_law 956 = .ok (.iload_n 3, 1) := by decide +kernel
theorem dL_law_957 : decode cL_law 957 = .ok (.iconst 3, 1) := by decide +kernel
theorem dL_law_958 : decode cL_law 958 = .ok (.iadd, 1) := by decide +kernel
theorem dL_law_959 : decode cL_law 959 = .ok (.iaload, 1) := by decide +kernel
theorem dL_law_960 : decode cL_law 960 = .ok (.aload_n 0, 1) := by decide +kernel
theorem dL_law_961 : decode cL_law 961 = .ok (.iload_n 3, 1) := by decide +kernel
theorem dL_law_962 : decode cL_law 962 = .ok (.iconst 4, 1) := by decide +kernel
theorem dL_law_963 : decode cL_law 963 = .ok (.iadd, 1) := by decide +kernel
theorem dL_law_964 : decode cL_law 964 = .ok (.iaload, 1) := by decide +kernel
theorem dL_law_965 : decode cL_law 965 = .ok (.invokevirtual 108, 3) := by decide +kernel
theorem dL_law_968 : decode cL_law 968 = .ok (.aload_n 2, 1) := by decide +kernel
theorem dL_law_969 : decode cL_law 969 = .ok (.aload_n 0, 1) := by decide +kernel
theorem dL_law_970 : decode cL_law 970 = .ok (.iload_n 3, 1) := by decide +kernel
theorem dL_law_971 : decode cL_law 971 = .ok (.iconst 1, 1) := by decide +kernel
theorem dL_law_972 : decode cL_law 972 = .ok (.iadd, 1) := by decide +kernel
theorem dL_law_973 : decode cL_law 973 = .ok (.iaload, 1) := by decide +kernel
theorem dL_law_974 : decode cL_law 974 = .ok (.aload_n 0, 1) := by decide +kernel
theorem dL_law_975 : decode cL_law 975 = .ok (.iload_n 3, 1) := by decide +kernel
theorem dL_law_976 : decode cL_law 976 = .ok (.iconst 2, 1) := by decide +kernel
theorem dL_law_977 : decode cL_law 977 = .ok (.iadd, 1) := by decide +kernel
theorem dL_law_978 : decode cL_law 978 = .ok (.iaload, 1) := by decide +kernel
theorem dL_law_979 : decode cL_law 979 = .ok (.aload_n 0, 1) := by decide +kernel
theorem dL_law_980 : decode cL_law 980 = .ok (.iload_n 3, 1) := by decide +kernel
theorem dL_law_981 : decode cL_law 981 = .ok (.iconst 3, 1) := by decide +kernel
theorem dL_law_982 : decode cL_law 982 = .ok (.iadd, 1) := by decide +kernel
theorem dL_law_983 : decode cL_law 983 = .ok (.iaload, 1) := by decide +kernel
theorem dL_law_984 : decode cL_law 984 = .ok (.aload_n 0, 1) := by decide +kernel
theorem dL_law_985 : decode cL_law 985 = .ok (.iload_n 3, 1) := by decide +kernel
theorem dL_law_986 : decode cL_law 986 = .ok (.iconst 4, 1) := by decide +kernel
theorem dL_law_987 : decode cL_law 987 = .ok (.iadd, 1) := by decide +kernel
theorem dL_law_988 : decode cL_law 988 = .ok (.iaload, 1) := by decide +kernel
theorem dL_law_989 : decode cL_law 989 = .ok (.invokevirtual 111, 3) := by decide +kernel
theorem dL_law_992 : decode cL_law 992 = .ok (.if_icmp .eq 262, 3) := by decide +kernel
theorem dL_law_995 : decode cL_law 995 = .ok (.iconst 0, 1) := by decide +kernel
theorem dL_law_996 : decode cL_law 996 = .ok (.ireturn, 1) := by decide +kernel
theorem dL_law_997 : decode cL_law 997 = .ok (.aload_n 1, 1) := by decide +kernel
theorem dL_law_998 : decode cL_law 998 = .ok (.invokevirtual 112, 3) := by decide +kernel
theorem dL_law_1001 : decode cL_law 1001 = .ok (.aload_n 2, 1) := by decide +kernel
theorem dL_law_1002 : decode cL_law 1002 = .ok (.invokevirtual 115, 3) := by decide +kernel
theorem dL_law_1005 : decode cL_law 1005 = .ok (.if_icmp .eq 249, 3) := by decide +kernel
theorem dL_law_1008 : decode cL_law 1008 = .ok (.iconst 0, 1) := by decide +kernel
theorem dL_law_1009 : decode cL_law 1009 = .ok (.ireturn, 1) := by decide +kernel
theorem dL_law_1010 : decode cL_law 1010 = .ok (.aload_n 1, 1) := by decide +kernel
theorem dL_law_1011 : decode cL_law 1011 = .ok (.aload_n 0, 1) := by decide +kernel
theorem dL_law_1012 : decode cL_law 1012 = .ok (.iload_n 3, 1) := by decide +kernel
theorem dL_law_1013 : decode cL_law 1013 = .ok (.iconst 1, 1) := by decide +kernel
theorem dL_law_1014 : decode cL_law 1014 = .ok (.iadd, 1) := by decide +kernel
theorem dL_law_1015 : decode cL_law 1015 = .ok (.iaload, 1) := by decide +kernel
theorem dL_law_1016 : decode cL_law 1016 = .ok (.aload_n 0, 1) := by decide +kernel
theorem dL_law_1017 : decode cL_law 1017 = .ok (.iload_n 3, 1) := by decide +kernel
theorem dL_law_1018 : decode cL_law 1018 = .ok (.iconst 2, 1) := by decide +kernel
theorem dL_law_1019 : decode cL_law 1019 = .ok (.iadd, 1) := by decide +kernel
theorem dL_law_1020 : decode cL_law 1020 = .ok (.iaload, 1) := by decide +kernel
theorem dL_law_1021 : decode cL_law 1021 = .ok (.aload_n 0, 1) := by decide +kernel
theorem dL_law_1022 : decode cL_law 1022 = .ok (.iload_n 3, 1) := by decide +kernel
theorem dL_law_1023 : decode cL_law 1023 = .ok (.iconst 3, 1) := by decide +kernel
theorem dL_law_1024 : decode cL_law 1024 = .ok (.iadd, 1) := by decide +kernel
theorem dL_law_1025 : decode cL_law 1025 = .ok (.iaload, 1) := by decide +kernel
theorem dL_law_1026 : decode cL_law 1026 = .ok (.invokevirtual 116, 3) := by decide +kernel
theorem dL_law_1029 : decode cL_law 1029 = .ok (.aload_n 2, 1) := by decide +kernel
theorem dL_law_1030 : decode cL_law 1030 = .ok (.aload_n 0, 1) := by decide +kernel
theorem dL_law_1031 : decode cL_law 1031 = .ok (.iload_n 3, 1) := by decide +kernel
theorem dL_law_1032 : decode cL_law 1032 = .ok (.iconst 1, 1) := by decide +kernel
theorem dL_law_1033 : decode cL_law 1033 = .ok (.iadd, 1) := by decide +kernel
theorem dL_law_1034 : decode cL_law 1034 = .ok (.iaload, 1) := by decide +kernel
theorem dL_law_1035 : decode cL_law 1035 = .ok (.aload_n 0, 1) := by decide +kernel
theorem dL_law_1036 : decode cL_law 1036 = .ok (.iload_n 3, 1) := by decide +kernel
theorem dL_law_1037 : decode cL_law 1037 = .ok (.iconst 2, 1) := by decide +kernel
theorem dL_law_1038 : decode cL_law 1038 = .ok (.iadd, 1) := by decide +kernel
theorem dL_law_1039 : decode cL_law 1039 = .ok (.iaload, 1) := by decide +kernel
theorem dL_law_1040 : decode cL_law 1040 = .ok (.aload_n 0, 1) := by decide +kernel
theorem dL_law_1041 : decode cL_law 1041 = .ok (.iload_n 3, 1) := by decide +kernel
theorem dL_law_1042 : decode cL_law 1042 = .ok (.iconst 3, 1) := by decide +kernel
theorem dL_law_1043 : decode cL_law 1043 = .ok (.iadd, 1) := by decide +kernel
theorem dL_law_1044 : decode cL_law 1044 = .ok (.iaload, 1) := by decide +kernel
theorem dL_law_1045 : decode cL_law 1045 = .ok (.invokevirtual 119, 3) := by decide +kernel
theorem dL_law_1048 : decode cL_law 1048 = .ok (.if_icmp .eq 206, 3) := by decide +kernel
theorem dL_law_1051 : decode cL_law 1051 = .ok (.iconst 0, 1) := by decide +kernel
theorem dL_law_1052 : decode cL_law 1052 = .ok (.ireturn, 1) := by decide +kernel
theorem dL_law_1053 : decode cL_law 1053 = .ok (.aload_n 1, 1) := by decide +kernel
theorem dL_law_1054 : decode cL_law 1054 = .ok (.aload_n 0, 1) := by decide +kernel
theorem dL_law_1055 : decode cL_law 1055 = .ok (.iload_n 3, 1) := by decide +kernel
theorem dL_law_1056 : decode cL_law 1056 = .ok (.iconst 1, 1) := by decide +kernel
theorem dL_law_1057 : decode cL_law 1057 = .ok (.iadd, 1) := by decide +kernel
theorem dL_law_1058 : decode cL_law 1058 = .ok (.iaload, 1) := by decide +kernel
theorem dL_law_1059 : decode cL_law 1059 = .ok (.aload_n 0, 1) := by decide +kernel
theorem dL_law_1060 : decode cL_law 1060 = .ok (.iload_n 3, 1) := by decide +kernel
theorem dL_law_1061 : decode cL_law 1061 = .ok (.iconst 2, 1) := by decide +kernel
theorem dL_law_1062 : decode cL_law 1062 = .ok (.iadd, 1) := by decide +kernel
theorem dL_law_1063 : decode cL_law 1063 = .ok (.iaload, 1) := by decide +kernel
theorem dL_law_1064 : decode cL_law 1064 = .ok (.aload_n 0, 1) := by decide +kernel
theorem dL_law_1065 : decode cL_law 1065 = .ok (.iload_n 3, 1) := by decide +kernel
theorem dL_law_1066 : decode cL_law 1066 = .ok (.iconst 3, 1) := by decide +kernel
theorem dL_law_1067 : decode cL_law 1067 = .ok (.iadd, 1) := by decide +kernel
theorem dL_law_1068 : decode cL_law 1068 = .ok (.iaload, 1) := by decide +kernel
theorem dL_law_1069 : decode cL_law 1069 = .ok (.invokevirtual 120, 3) := by decide +kernel
theorem dL_law_1072 : decode cL_law 1072 = .ok (.aload_n 2, 1) := by decide +kernel
theorem dL_law_1073 : decode cL_law 1073 = .ok (.aload_n 0, 1) := by decide +kernel
theorem dL_law_1074 : decode cL_law 1074 = .ok (.iload_n 3, 1) := by decide +kernel
theorem dL_law_1075 : decode cL_law 1075 = .ok (.iconst 1, 1) := by decide +kernel
theorem dL_law_1076 : decode cL_law 1076 = .ok (.iadd, 1) := by decide +kernel
theorem dL_law_1077 : decode cL_law 1077 = .ok (.iaload, 1) := by decide +kernel
theorem dL_law_1078 : decode cL_law 1078 = .ok (.aload_n 0, 1) := by decide +kernel
theorem dL_law_1079 : decode cL_law 1079 = .ok (.iload_n 3, 1) := by decide +kernel
theorem dL_law_1080 : decode cL_law 1080 = .ok (.iconst 2, 1) := by decide +kernel
theorem dL_law_1081 : decode cL_law 1081 = .ok (.iadd, 1) := by decide +kernel
theorem dL_law_1082 : decode cL_law 1082 = .ok (.iaload, 1) := by decide +kernel
theorem dL_law_1083 : decode cL_law 1083 = .ok (.aload_n 0, 1) := by decide +kernel
theorem dL_law_1084 : decode cL_law 1084 = .ok (.iload_n 3, 1) := by decide +kernel
theorem dL_law_1085 : decode cL_law 1085 = .ok (.iconst 3, 1) := by decide +kernel
theorem dL_law_1086 : decode cL_law 1086 = .ok (.iadd, 1) := by decide +kernel
theorem dL_law_1087 : decode cL_law 1087 = .ok (.iaload, 1) := by decide +kernel
theorem dL_law_1088 : decode cL_law 1088 = .ok (.invokevirtual 123, 3) := by decide +kernel
theorem dL_law_1091 : decode cL_law 1091 = .ok (.if_icmp .eq 163, 3) := by decide +kernel
theorem dL_law_1094 : decode cL_law 1094 = .ok (.iconst 0, 1) := by decide +kernel
theorem dL_law_1095 : decode cL_law 1095 = .ok (.ireturn, 1) := by decide +kernel
theorem dL_law_1096 : decode cL_law 1096 = .ok (.aload_n 1, 1) := by decide +kernel
theorem dL_law_1097 : decode cL_law 1097 = .ok (.aload_n 0, 1) := by decide +kernel
theorem dL_law_1098 : decode cL_law 1098 = .ok (.iload_n 3, 1) := by decide +kernel
theorem dL_law_1099 : decode cL_law 1099 = .ok (.iconst 1, 1) := by decide +kernel
theorem dL_law_1100 : decode cL_law 1100 = .ok (.iadd, 1) := by decide +kernel
theorem dL_law_1101 : decode cL_law 1101 = .ok (.iaload, 1) := by decide +kernel
theorem dL_law_1102 : decode cL_law 1102 = .ok (.aload_n 0, 1) := by decide +kernel
theorem dL_law_1103 : decode cL_law 1103 = .ok (.iload_n 3, 1) := by decide +kernel
theorem dL_law_1104 : decode cL_law 1104 = .ok (.iconst 2, 1) := by decide +kernel
theorem dL_law_1105 : decode cL_law 1105 = .ok (.iadd, 1) := by decide +kernel
theorem dL_law_1106 : decode cL_law 1106 = .ok (.iaload, 1) := by decide +kernel
theorem dL_law_1107 : decode cL_law 1107 = .ok (.aload_n 0, 1) := by decide +kernel
theorem dL_law_1108 : decode cL_law 1108 = .ok (.iload_n 3, 1) := by decide +kernel
theorem dL_law_1109 : decode cL_law 1109 = .ok (.iconst 3, 1) := by decide +kernel
theorem dL_law_1110 : decode cL_law 1110 = .ok (.iadd, 1) := by decide +kernel
theorem dL_law_1111 : decode cL_law 1111 = .ok (.iaload, 1) := by decide +kernel
theorem dL_law_1112 : decode cL_law 1112 = .ok (.aload_n 0, 1) := by decide +kernel
theorem dL_law_1113 : decode cL_law 1113 = .ok (.iload_n 3, 1) := by decide +kernel
theorem dL_law_1114 : decode cL_law 1114 = .ok (.iconst 4, 1) := by decide +kernel
theorem dL_law_1115 : decode cL_law 1115 = .ok (.iadd, 1) := by decide +kernel
theorem dL_law_1116 : decode cL_law 1116 = .ok (.iaload, 1) := by decide +kernel
theorem dL_law_1117 : decode cL_law 1117 = .ok (.invokevirtual 124, 3) := by decide +kernel
theorem dL_law_1120 : decode cL_law 1120 = .ok (.aload_n 2, 1) := by decide +kernel
theorem dL_law_1121 : decode cL_law 1121 = .ok (.aload_n 0, 1) := by decide +kernel
theorem dL_law_1122 : decode cL_law 1122 = .ok (.iload_n 3, 1) := by decide +kernel
theorem dL_law_1123 : decode cL_law 1123 = .ok (.iconst 1, 1) := by decide +kernel
theorem dL_law_1124 : decode cL_law 1124 = .ok (.iadd, 1) := by decide +kernel
theorem dL_law_1125 : decode cL_law 1125 = .ok (.iaload, 1) := by decide +kernel
theorem dL_law_1126 : decode cL_law 1126 = .ok (.aload_n 0, 1) := by decide +kernel
theorem dL_law_1127 : decode cL_law 1127 = .ok (.iload_n 3, 1) := by decide +kernel
theorem dL_law_1128 : decode cL_law 1128 = .ok (.iconst 2, 1) := by decide +kernel
theorem dL_law_1129 : decode cL_law 1129 = .ok (.iadd, 1) := by decide +kernel
theorem dL_law_1130 : decode cL_law 1130 = .ok (.iaload, 1) := by decide +kernel
theorem dL_law_1131 : decode cL_law 1131 = .ok (.aload_n 0, 1) := by decide +kernel
theorem dL_law_1132 : decode cL_law 1132 = .ok (.iload_n 3, 1) := by decide +kernel
theorem dL_law_1133 : decode cL_law 1133 = .ok (.iconst 3, 1) := by decide +kernel
theorem dL_law_1134 : decode cL_law 1134 = .ok (.iadd, 1) := by decide +kernel
theorem dL_law_1135 : decode cL_law 1135 = .ok (.iaload, 1) := by decide +kernel
theorem dL_law_1136 : decode cL_law 1136 = .ok (.aload_n 0, 1) := by decide +kernel
theorem dL_law_1137 : decode cL_law 1137 = .ok (.iload_n 3, 1) := by decide +kernel
theorem dL_law_1138 : decode cL_law 1138 = .ok (.iconst 4, 1) := by decide +kernel
theorem dL_law_1139 : decode cL_law 1139 = .ok (.iadd, 1) := by decide +kernel
theorem dL_law_1140 : decode cL_law 1140 = .ok (.iaload, 1) := by decide +kernel
theorem dL_law_1141 : decode cL_law 1141 = .ok (.invokevirtual 128, 3) := by decide +kernel
theorem dL_law_1144 : decode cL_law 1144 = .ok (.lcmp, 1) := by decide +kernel
theorem dL_law_1145 : decode cL_law 1145 = .ok (.ifCond .eq 109, 3) := by decide +kernel
theorem dL_law_1148 : decode cL_law 1148 = .ok (.iconst 0, 1) := by decide +kernel
theorem dL_law_1149 : decode cL_law 1149 = .ok (.ireturn, 1) := by decide +kernel
theorem dL_law_1150 : decode cL_law 1150 = .ok (.aload_n 1, 1) := by decide +kernel
theorem dL_law_1151 : decode cL_law 1151 = .ok (.aload_n 0, 1) := by decide +kernel
theorem dL_law_1152 : decode cL_law 1152 = .ok (.iload_n 3, 1) := by decide +kernel
theorem dL_law_1153 : decode cL_law 1153 = .ok (.iconst 1, 1) := by decide +kernel
theorem dL_law_1154 : decode cL_law 1154 = .ok (.iadd, 1) := by decide +kernel
theorem dL_law_1155 : decode cL_law 1155 = .ok (.iaload, 1) := by decide +kernel
theorem dL_law_1156 : decode cL_law 1156 = .ok (.aload_n 0, 1) := by decide +kernel
theorem dL_law_1157 : decode cL_law 1157 = .ok (.iload_n 3, 1) := by decide +kernel
theorem dL_law_1158 : decode cL_law 1158 = .ok (.iconst 2, 1) := by decide +kernel
theorem dL_law_1159 : decode cL_law 1159 = .ok (.iadd, 1) := by decide +kernel
theorem dL_law_1160 : decode cL_law 1160 = .ok (.iaload, 1) := by decide +kernel
theorem dL_law_1161 : decode cL_law 1161 = .ok (.aload_n 0, 1) := by decide +kernel
theorem dL_law_1162 : decode cL_law 1162 = .ok (.iload_n 3, 1) := by decide +kernel
theorem dL_law_1163 : decode cL_law 1163 = .ok (.iconst 3, 1) := by decide +kernel
theorem dL_law_1164 : decode cL_law 1164 = .ok (.iadd, 1) := by decide +kernel
theorem dL_law_1165 : decode cL_law 1165 = .ok (.iaload, 1) := by decide +kernel
theorem dL_law_1166 : decode cL_law 1166 = .ok (.aload_n 0, 1) := by decide +kernel
theorem dL_law_1167 : decode cL_law 1167 = .ok (.iload_n 3, 1) := by decide +kernel
theorem dL_law_1168 : decode cL_law 1168 = .ok (.iconst 4, 1) := by decide +kernel
theorem dL_law_1169 : decode cL_law 1169 = .ok (.iadd, 1) := by decide +kernel
theorem dL_law_1170 : decode cL_law 1170 = .ok (.iaload, 1) := by decide +kernel
theorem dL_law_1171 : decode cL_law 1171 = .ok (.invokevirtual 129, 3) := by decide +kernel
theorem dL_law_1174 : decode cL_law 1174 = .ok (.aload_n 2, 1) := by decide +kernel
theorem dL_law_1175 : decode cL_law 1175 = .ok (.aload_n 0, 1) := by decide +kernel
theorem dL_law_1176 : decode cL_law 1176 = .ok (.iload_n 3, 1) := by decide +kernel
theorem dL_law_1177 : decode cL_law 1177 = .ok (.iconst 1, 1) := by decide +kernel
theorem dL_law_1178 : decode cL_law 1178 = .ok (.iadd, 1) := by decide +kernel
theorem dL_law_1179 : decode cL_law 1179 = .ok (.iaload, 1) := by decide +kernel
theorem dL_law_1180 : decode cL_law 1180 = .ok (.aload_n 0, 1) := by decide +kernel
theorem dL_law_1181 : decode cL_law 1181 = .ok (.iload_n 3, 1) := by decide +kernel
theorem dL_law_1182 : decode cL_law 1182 = .ok (.iconst 2, 1) := by decide +kernel
theorem dL_law_1183 : decode cL_law 1183 = .ok (.iadd, 1) := by decide +kernel
theorem dL_law_1184 : decode cL_law 1184 = .ok (.iaload, 1) := by decide +kernel
theorem dL_law_1185 : decode cL_law 1185 = .ok (.aload_n 0, 1) := by decide +kernel
theorem dL_law_1186 : decode cL_law 1186 = .ok (.iload_n 3, 1) := by decide +kernel
theorem dL_law_1187 : decode cL_law 1187 = .ok (.iconst 3, 1) := by decide +kernel
theorem dL_law_1188 : decode cL_law 1188 = .ok (.iadd, 1) := by decide +kernel
theorem dL_law_1189 : decode cL_law 1189 = .ok (.iaload, 1) := by decide +kernel
theorem dL_law_1190 : decode cL_law 1190 = .ok (.aload_n 0, 1) := by decide +kernel
theorem dL_law_1191 : decode cL_law 1191 = .ok (.iload_n 3, 1) := by decide +kernel
theorem dL_law_1192 : decode cL_law 1192 = .ok (.iconst 4, 1) := by decide +kernel
theorem dL_law_1193 : decode cL_law 1193 = .ok (.iadd, 1) := by decide +kernel
theorem dL_law_1194 : decode cL_law 1194 = .ok (.iaload, 1) := by decide +kernel
theorem dL_law_1195 : decode cL_law 1195 = .ok (.invokevirtual 132, 3) := by decide +kernel
theorem dL_law_1198 : decode cL_law 1198 = .ok (.lcmp, 1) := by decide +kernel
theorem dL_law_1199 : decode cL_law 1199 = .ok (.ifCond .eq 55, 3) := by decide +kernel
theorem dL_law_1202 : decode cL_law 1202 = .ok (.iconst 0, 1) := by decide +kernel
theorem dL_law_1203 : decode cL_law 1203 = .ok (.ireturn, 1) := by decide +kernel
theorem dL_law_1204 : decode cL_law 1204 = .ok (.aload_n 1, 1) := by decide +kernel
theorem dL_law_1205 : decode cL_law 1205 = .ok (.invokevirtual 133, 3) := by decide +kernel
theorem dL_law_1208 : decode cL_law 1208 = .ok (.aload_n 2, 1) := by decide +kernel
theorem dL_law_1209 : decode cL_law 1209 = .ok (.invokevirtual 136, 3) := by decide +kernel
theorem dL_law_1212 : decode cL_law 1212 = .ok (.if_icmp .eq 42, 3) := by decide +kernel
theorem dL_law_1215 : decode cL_law 1215 = .ok (.iconst 0, 1) := by decide +kernel
theorem dL_law_1216 : decode cL_law 1216 = .ok (.ireturn, 1) := by decide +kernel
theorem dL_law_1217 : decode cL_law 1217 = .ok (.aload_n 1, 1) := by decide +kernel
theorem dL_law_1218 : decode cL_law 1218 = .ok (.aload_n 0, 1) := by decide +kernel
theorem dL_law_1219 : decode cL_law 1219 = .ok (.iload_n 3, 1) := by decide +kernel
theorem dL_law_1220 : decode cL_law 1220 = .ok (.iconst 1, 1) := by decide +kernel
theorem dL_law_1221 : decode cL_law 1221 = .ok (.iadd, 1) := by decide +kernel
theorem dL_law_1222 : decode cL_law 1222 = .ok (.iaload, 1) := by decide +kernel
theorem dL_law_1223 : decode cL_law 1223 = .ok (.invokevirtual 137, 3) := by decide +kernel
theorem dL_law_1226 : decode cL_law 1226 = .ok (.aload_n 2, 1) := by decide +kernel
theorem dL_law_1227 : decode cL_law 1227 = .ok (.aload_n 0, 1) := by decide +kernel
theorem dL_law_1228 : decode cL_law 1228 = .ok (.iload_n 3, 1) := by decide +kernel
theorem dL_law_1229 : decode cL_law 1229 = .ok (.iconst 1, 1) := by decide +kernel
theorem dL_law_1230 : decode cL_law 1230 = .ok (.iadd, 1) := by decide +kernel
theorem dL_law_1231 : decode cL_law 1231 = .ok (.iaload, 1) := by decide +kernel
theorem dL_law_1232 : decode cL_law 1232 = .ok (.invokevirtual 140, 3) := by decide +kernel
theorem dL_law_1235 : decode cL_law 1235 = .ok (.if_icmp .eq 19, 3) := by decide +kernel
theorem dL_law_1238 : decode cL_law 1238 = .ok (.iconst 0, 1) := by decide +kernel
theorem dL_law_1239 : decode cL_law 1239 = .ok (.ireturn, 1) := by decide +kernel
theorem dL_law_1240 : decode cL_law 1240 = .ok (.aload_n 1, 1) := by decide +kernel
theorem dL_law_1241 : decode cL_law 1241 = .ok (.invokevirtual 141, 3) := by decide +kernel
theorem dL_law_1244 : decode cL_law 1244 = .ok (.aload_n 2, 1) := by decide +kernel
theorem dL_law_1245 : decode cL_law 1245 = .ok (.invokevirtual 145, 3) := by decide +kernel
theorem dL_law_1248 : decode cL_law 1248 = .ok (.lcmp, 1) := by decide +kernel
theorem dL_law_1249 : decode cL_law 1249 = .ok (.ifCond .eq 5, 3) := by decide +kernel
theorem dL_law_1252 : decode cL_law 1252 = .ok (.iconst 0, 1) := by decide +kernel
theorem dL_law_1253 : decode cL_law 1253 = .ok (.ireturn, 1) := by decide +kernel
theorem dL_law_1254 : decode cL_law 1254 = .ok (.iinc 3 6, 3) := by decide +kernel
theorem dL_law_1257 : decode cL_law 1257 = .ok (.goto (-1239), 3) := by decide +kernel
theorem dL_law_1260 : decode cL_law 1260 = .ok (.iconst 1, 1) := by decide +kernel
theorem dL_law_1261 : decode cL_law 1261 = .ok (.ireturn, 1) := by decide +kernel
end
section
/-! THE MACHINE, SAID ONCE: a judgement over flat memory. Cells are numbered; cell i's j-th int (a field or an element) is mu i j; references among them are numbers of cells; one long stands beside. -/
/-- a value, its cell number turned into the cell's address -/
def tv_v (ad : Nat → Nat) (v : Value) : Value := match v with
  | .ref i => .ref (ad i)
  | w => w
theorem tv_cat (ad : Nat → Nat) (v : Value) : (tv_v ad v).category = v.category := by cases v <;> rfl
def ly_fv (ad : Nat → Nat) (h : Int64) (mi : Nat → Int32) (j : Nat) (f : ly_F) : Value := match f with
  | none => .int (mi j)
  | some none => .long h
  | some (some c) => .ref (ad c)
def ly_av (h : Int64) (mi : Nat → Int32) (j : Nat) (f : ly_F) : Value := match f with
  | none => .int (mi j)
  | some none => .long h
  | some (some c) => .ref c
theorem ly_fv_av (ad : Nat → Nat) (h : Int64) (mi : Nat → Int32) (j : Nat) (f : ly_F) : ly_fv ad h mi j f = tv_v ad (ly_av h mi j f) := by
  cases f with
  | none => rfl
  | some g => cases g <;> rfl
def ly_e (ad : Nat → Nat) (ca : Nat → ClassId) (mu : Nat → Nat → Int32) (h : Int64) (i : Nat) (x : ly_E) : va_E := match x with
  | .inl a => .inl (ca a.1, a.2, .inl (mu i))
  | .inr o => .inr (o.1, o.2.mapIdx (fun j f => ly_fv ad h (mu i) j f))
def ly_w (ad : Nat → Nat) (ca : Nat → ClassId) (mu : Nat → Nat → Int32) (h : Int64) : va_W := ly_L.mapIdx (fun i x => (ad i, ly_e ad ca mu h i x))
theorem ly_at {ad : Nat → Nat} {ca : Nat → ClassId} {mu : Nat → Nat → Int32} {h : Int64} {i : Nat} {x : ly_E} (hi : ly_L[i]? = some x) : (ly_w ad ca mu h)[i]? = some (ad i, ly_e ad ca mu h i x) := by
  simp [ly_w, List.getElem?_mapIdx, hi]
theorem ly_of {ad : Nat → Nat} {ca : Nat → ClassId} {mu : Nat → Nat → Int32} {h : Int64} {i : Nat} {q : Nat × va_E} (hi : (ly_w ad ca mu h)[i]? = some q) : ∃ x, ly_L[i]? = some x ∧ q = (ad i, ly_e ad ca mu h i x) := by
  simp only [ly_w, List.getElem?_mapIdx, Option.map_eq_some_iff] at hi
  obtain ⟨x, h1, h2⟩ := hi
  exact ⟨x, h1, h2.symm⟩
/-- one int is written -/
def mu_s (mu : Nat → Nat → Int32) (i j : Nat) (v : Int32) : Nat → Nat → Int32 := fun a => if a = i then upd (mu i) j v else mu a
/-- a row is written -/
def mu_r (mu : Nat → Nat → Int32) (i : Nat) (f : Nat → Int32) : Nat → Nat → Int32 := fun a => if a = i then f else mu a
theorem mu_s_r (mu : Nat → Nat → Int32) (i j : Nat) (v : Int32) : mu_s mu i j v = mu_r mu i (upd (mu i) j v) := rfl
theorem mu_r_in (mu : Nat → Nat → Int32) (i : Nat) (f : Nat → Int32) : mu_r mu i f i = f := if_pos rfl
theorem mu_r_out {mu : Nat → Nat → Int32} {i a : Nat} {f : Nat → Int32} (h : a ≠ i) : mu_r mu i f a = mu a := if_neg h
theorem ly_w_setr {ad : Nat → Nat} {ca : Nat → ClassId} {mu : Nat → Nat → Int32} {h : Int64} {i : Nat} {x : ly_E} (hi : ly_L[i]? = some x) (f : Nat → Int32) : (ly_w ad ca mu h).set i (ad i, ly_e ad ca (mu_r mu i f) h i x) = ly_w ad ca (mu_r mu i f) h := by
  apply List.ext_getElem?
  intro k
  by_cases hk : k = i
  · subst hk
    have hl : k < (ly_w ad ca mu h).length := (List.getElem?_eq_some_iff.mp (ly_at hi)).1
    rw [List.getElem?_set_self hl, ly_at hi]
  · rw [List.getElem?_set_ne (Ne.symm hk)]
    simp only [ly_w, List.getElem?_mapIdx]
    cases ly_L[k]? with
    | none => rfl
    | some z => simp [ly_e, mu_r_out hk]
theorem ly_obj_set {ad : Nat → Nat} {h : Int64} {mi : Nat → Int32} {fs : List ly_F} {j : Nat} (hj : fs[j]? = some none) (v : Int32) : (fs.mapIdx (fun j f => ly_fv ad h mi j f)).set j (.int v) = fs.mapIdx (fun q f => ly_fv ad h (upd mi j v) q f) := by
  apply List.ext_getElem?
  intro k
  by_cases hk : k = j
  · subst hk
    have hl : k < (fs.mapIdx (fun j f => ly_fv ad h mi j f)).length := by simpa using (List.getElem?_eq_some_iff.mp hj).1
    rw [List.getElem?_set_self hl]
    simp [List.getElem?_mapIdx, hj, ly_fv, upd]
  · rw [List.getElem?_set_ne (Ne.symm hk)]
    simp only [List.getElem?_mapIdx]
    cases fs[k]? with
    | none => rfl
    | some z =>
      cases z with
      | none => simp [ly_fv, upd, hk]
      | some g => cases g <;> rfl
theorem ly_D {A : Nat → Prop} {ad : Nat → Nat} {ca : Nat → ClassId} {mu mu' : Nat → Nat → Int32} {h h' : Int64} (hD : va_D A (ly_w ad ca mu h)) : va_D A (ly_w ad ca mu' h') := by
  refine ⟨fun i j p q hp hq e => ?_, fun k q hq => ?_⟩
  · obtain ⟨x, h1, rfl⟩ := ly_of hp
    obtain ⟨z, h2, rfl⟩ := ly_of hq
    exact hD.1 i j _ _ (ly_at h1) (ly_at h2) e
  · obtain ⟨x, h1, rfl⟩ := ly_of hq
    exact hD.2 k (ad k, ly_e ad ca mu h k x) (ly_at h1)
theorem ly_A {ad : Nat → Nat} {ca : Nat → ClassId} {mu mu' : Nat → Nat → Int32} {h h' : Int64} {sz q : Nat} (hq : va_A (ly_w ad ca mu h) sz q) : va_A (ly_w ad ca mu' h') sz q := by
  rcases hq with ⟨k, e, he⟩ | he
  · obtain ⟨x, h1, h2⟩ := ly_of he
    cases h2
    exact Or.inl ⟨k, _, ly_at h1⟩
  · exact Or.inr he
/-! locals: a list, in the order of their numbers -/
def lc_p (ad : Nat → Nat) (L : List (Option Value)) : List (Nat × Value) := L.zipIdx.filterMap (fun q => q.1.map (fun v => (q.2, tv_v ad v)))
def lc_h (ad : Nat → Nat) (ls : Array Slot) (L : List (Option Value)) : Prop := lv_has ls L.length (lc_p ad L)
theorem lc_p_mem {ad : Nat → Nat} {L : List (Option Value)} {i : Nat} {v : Value} : (i, v) ∈ lc_p ad L ↔ ∃ w, L[i]? = some (some w) ∧ v = tv_v ad w := by
  simp only [lc_p, List.mem_filterMap, Option.map_eq_some_iff, Prod.exists, Prod.mk.injEq]
  constructor
  · rintro ⟨o, k, hm, w, hw, rfl, rfl⟩
    have h1 := List.mem_zipIdx_iff_getElem?.mp hm
    simp only at h1 hw
    exact ⟨w, by rw [h1, hw], rfl⟩
  · rintro ⟨w, hw, rfl⟩
    exact ⟨some w, i, List.mem_zipIdx_iff_getElem?.mpr hw, w, rfl, rfl, rfl⟩
theorem lc_at {ad : Nat → Nat} {ls : Array Slot} {L : List (Option Value)} (h : lc_h ad ls L) {i : Nat} {v : Value} (hi : L[i]? = some (some v)) : ls[i]? = some (.val (tv_v ad v)) := h.2.2 (i, tv_v ad v) (lc_p_mem.mpr ⟨v, hi, rfl⟩)
/-- what a store does to the local before it: a long there is gone -/
def lc_k (L : List (Option Value)) (i : Nat) : List (Option Value) := match i with
  | 0 => L
  | j + 1 => match L[j]? with
    | some (some w) => if w.category = 2 then L.set j none else L
    | _ => L
def lc_1 (L : List (Option Value)) (i : Nat) (v : Value) : List (Option Value) := (lc_k L i).set i (some v)
def lc_2 (L : List (Option Value)) (i : Nat) (v : Value) : List (Option Value) := ((lc_k L i).set i (some v)).set (i + 1) none
theorem lc_k_len (L : List (Option Value)) (i : Nat) : (lc_k L i).length = L.length := by
  unfold lc_k
  split
  · rfl
  · split
    · split <;> simp
    · rfl
theorem lc_k_get {L : List (Option Value)} {i k : Nat} {w : Value} (h : (lc_k L i)[k]? = some (some w)) : L[k]? = some (some w) ∧ ¬ (k + 1 = i ∧ w.category = 2) := by
  unfold lc_k at h
  split at h
  · exact ⟨h, fun q => by omega⟩
  · rename_i j
    split at h
    · rename_i w' hw'
      split at h
      · rename_i hc
        by_cases hk : k = j
        · subst hk
          rw [List.getElem?_set_self (List.getElem?_eq_some_iff.mp hw').1] at h
          cases h
        · rw [List.getElem?_set_ne (Ne.symm hk)] at h
          exact ⟨h, fun q => hk (by omega)⟩
      · rename_i hc
        refine ⟨h, fun q => ?_⟩
        have : k = j := by omega
        subst this
        rw [hw'] at h
        cases h
        exact hc q.2
    · rename_i hn
      refine ⟨h, fun q => ?_⟩
      have : k = j := by omega
      subst this
      exact hn _ h
theorem lc_st1 {ad : Nat → Nat} {ls' : Array Slot} {L : List (Option Value)} {i : Nat} {v : Value} (hi : i < L.length) (h : lv_has ls' L.length ((i, tv_v ad v) :: (lc_p ad L).filter (fun q => !(q.1 == i) && !(q.1 + 1 == i && q.2.category == 2)))) : lc_h ad ls' (lc_1 L i v) := by
  obtain ⟨h1, h2, h3⟩ := h
  refine ⟨by simp [lc_1, lc_k_len, h1], h2, fun q hq => ?_⟩
  obtain ⟨k, x⟩ := q
  obtain ⟨w, hw, rfl⟩ := lc_p_mem.mp hq
  unfold lc_1 at hw
  by_cases hk : k = i
  · subst hk
    rw [List.getElem?_set_self (by rw [lc_k_len]; exact hi)] at hw
    cases hw
    exact h3 _ List.mem_cons_self
  · rw [List.getElem?_set_ne (Ne.symm hk)] at hw
    obtain ⟨g1, g2⟩ := lc_k_get hw
    refine h3 (k, tv_v ad w) (List.mem_cons_of_mem _ (List.mem_filter.mpr ⟨lc_p_mem.mpr ⟨w, g1, rfl⟩, ?_⟩))
    simp only [tv_cat, Bool.and_eq_true, Bool.not_eq_true', beq_eq_false_iff_ne, ne_eq, Bool.and_eq_false_iff]
    refine ⟨hk, ?_⟩
    by_cases h5 : k + 1 = i
    · exact Or.inr (fun q => g2 ⟨h5, q⟩)
    · exact Or.inl h5
theorem lc_st2 {ad : Nat → Nat} {ls' : Array Slot} {L : List (Option Value)} {i : Nat} {v : Value} (hi : i + 1 < L.length) (h : lv_has ls' L.length ((i, tv_v ad v) :: (lc_p ad L).filter (fun q => !(q.1 == i) && (!(q.1 == i + 1) && !(q.1 + 1 == i && q.2.category == 2))))) : lc_h ad ls' (lc_2 L i v) := by
  obtain ⟨h1, h2, h3⟩ := h
  refine ⟨by simp [lc_2, lc_k_len, h1], h2, fun q hq => ?_⟩
  obtain ⟨k, x⟩ := q
  obtain ⟨w, hw, rfl⟩ := lc_p_mem.mp hq
  unfold lc_2 at hw
  by_cases hk1 : k = i + 1
  · subst hk1
    rw [List.getElem?_set_self (by rw [List.length_set, lc_k_len]; exact hi)] at hw
    cases hw
  · rw [List.getElem?_set_ne (Ne.symm hk1)] at hw
    by_cases hk : k = i
    · subst hk
      rw [List.getElem?_set_self (by rw [lc_k_len]; omega)] at hw
      cases hw
      exact h3 _ List.mem_cons_self
    · rw [List.getElem?_set_ne (Ne.symm hk)] at hw
      obtain ⟨g1, g2⟩ := lc_k_get hw
      refine h3 (k, tv_v ad w) (List.mem_cons_of_mem _ (List.mem_filter.mpr ⟨lc_p_mem.mpr ⟨w, g1, rfl⟩, ?_⟩))
      simp only [tv_cat, Bool.and_eq_true, Bool.not_eq_true', beq_eq_false_iff_ne, ne_eq, Bool.and_eq_false_iff]
      refine ⟨hk, hk1, ?_⟩
      by_cases h5 : k + 1 = i
      · exact Or.inr (fun q => g2 ⟨h5, q⟩)
      · exact Or.inl h5
end
section
/-! THE JUDGEMENTS: rn_R, the machine within a method at a place; gd_G, a method's contract -/
def rt_ok (ret : Option FieldType) (r : Option Value) : Prop := match ret, r with
  | none, none => True
  | some .int, some (.int _) => True
  | some .boolean, some (.int v) => narrow .boolean (.int v) = .int v
  | some .long, some (.long _) => True
  | _, _ => False
def rt_i (ret : Option FieldType) : ClassFile.Instr := match ret with
  | none => .return_
  | some .long => .lreturn
  | _ => .ireturn
/-- the statics that nobody writes -/
def zs_ok (ad : Nat → Nat) (A : Nat → Prop) (U : State) (H : Heap) : Prop := ∀ z ∈ ly_Z, va_Z z.2.1 z.2.2.1 z.2.2.2.1 (.ref (ad z.1)) A U H ∧ va_T .int (ad z.1) z.2.2.2.2.1 (fun j => .int (z.2.2.2.2.2 j)) A U H
theorem zs_ok.moved {ad : Nat → Nat} {A : Nat → Prop} {u U : State} {H : Heap} (hvm : u.vm.Alike U.vm) (h : zs_ok ad A u H) : zs_ok ad A U H := fun z hz => ⟨(h z hz).1.moved hvm, (h z hz).2.moved hvm⟩
theorem zs_ok.kept {ad : Nat → Nat} {A : Nat → Prop} {U : State} {H H1 : Heap} (h : zs_ok ad A U H) (hq : ∀ a : Nat, a < H.size → ¬ A a → H1[a]? = H[a]?) : zs_ok ad A U H1 := fun z hz => ⟨(h z hz).1.kept hq, (h z hz).2.kept hq⟩
theorem zs_ok.narrow {ad : Nat → Nat} {A B : Nat → Prop} {U : State} {H : Heap} (h : zs_ok ad A U H) (hAB : ∀ q, B q → A q) : zs_ok ad B U H := fun z hz => ⟨(h z hz).1.narrow hAB, (h z hz).2.narrow hAB⟩
/-- the words of nest mates -/
def nw_k : Cond → Bool
  | .fieldLinkNest .. => true
  | .methodLinkNest .. => true
  | _ => false
def nw_ok (U : State) : Prop := ∀ w ∈ ly_N, nw_k w = true ∧ va_Nw w U
theorem nw_ok.same {u U : State} (h : u.vm = U.vm) (hN : nw_ok u) : nw_ok U := fun w hw => by
  obtain ⟨h1, h2⟩ := hN w hw
  refine ⟨h1, ?_⟩
  cases w <;> first | (simp [nw_k] at h1; done) | exact va_Nw.same rfl h h2
theorem nw_ok.warm {u U : State} (h : u.WarmedH U.vm) (hN : nw_ok u) : nw_ok U := fun w hw => by
  obtain ⟨h1, h2⟩ := hN w hw
  refine ⟨h1, ?_⟩
  cases w <;> first | (simp [nw_k] at h1; done) | exact va_Nw.warmF h h2 | exact va_Nw.warmM h h2
/-- what holds of the tables and statics -/
def en_U (dC : Nat → ClassId) (dI : Nat → Nat → Nat) (ad : Nat → Nat) (ca : Nat → ClassId) (A : Nat → Prop) (U : State) (H : Heap) : Prop := va_K (dC, dI) ly_C [(ca 0, .int), (ca 1, .byte)] U ∧ nw_ok U ∧ zs_ok ad A U H
/-- the script, where there is one: cell 99 -/
def xs_ok (X : Option (Nat × (Nat → Int32))) (ad : Nat → Nat) (A : Nat → Prop) (s : State) : Prop := match X with
  | none => True
  | some x => va_X (ad 99) x.1 x.2 s s.heap ∧ ad 99 < s.heap.size ∧ ¬ A (ad 99)
def en_E (X : Option (Nat × (Nat → Int32))) (y : ym_T) (d : Nat) (p : Program) (R : Room) (s : State) (m : MethodId) (args : Array Value) (meth : Method) (c : Code) (cells slots : Nat) (dC : Nat → ClassId) (dI : Nat → Nat → Nat) (ad : Nat → Nat) (ca : Nat → ClassId) (A : Nat → Prop) : Prop :=
  p.tables.exec = Jvm.exec ∧ c.code = y.2.1 ∧ c.maxLocals = y.2.2.1 ∧ meth.locks = false ∧ s.vm.findClass y.1.cls = some m.cls ∧ (∀ w ∈ ly_G, w.before args s = true) ∧ en_U dC dI ad ca A s s.heap ∧ (d ≤ R.frames ∧ 40 * d ≤ R.locals ∧ cells ≤ R.cells ∧ slots ≤ R.slots) ∧ (∀ q : Nat, s.heap.size ≤ q → A q) ∧ xs_ok X ad A s
def st_ok (dC : Nat → ClassId) (dI : Nat → Nat → Nat) (ad : Nat → Nat) (ca : Nat → ClassId) (A : Nat → Prop) (H0 : Heap) (mu : Nat → Nat → Int32) (h : Int64) (H : Heap) (locs : List Loc) : Prop := va_P (dC, dI) ly_C (ly_w ad ca mu h) H ∧ va_D A (ly_w ad ca mu h) ∧ va_S A H0 H locs
abbrev rn_Q : Type := Option Value → (Nat → Nat → Int32) → Int64 → Prop
def rn_R (X : Option (Nat × (Nat → Int32))) (y : ym_T) (d : Nat) (pc : Nat) (L : List (Option Value)) (S : List Value) (mu : Nat → Nat → Int32) (h : Int64) (Q : rn_Q) : Prop :=
  ∀ (p : Program) (l : Launch) (e : Env) (R : Room) (s : State) (m : MethodId) (args : Array Value) (below : List Frame) (meth : Method) (c : Code) (cells slots : Nat) (dC : Nat → ClassId) (dI : Nat → Nat → Nat) (ad : Nat → Nat) (ca : Nat → ClassId) (A : Nat → Prop) (Qt : State → Prop),
    en_E X y d p R s m args meth c cells slots dC dI ad ca A →
    (∀ (r : Option Value) (mu' : Nat → Nat → Int32) (h' : Int64) (H' : Heap) (locs' : List Loc) (pc' : Nat) (ls' : Array Slot), Q r mu' h' → rt_ok y.2.2.2 r → st_ok dC dI ad ca A s.heap mu' h' H' locs' → decode y.2.1 pc' = .ok (rt_i y.2.2.2, 1) → W p l e R s m args below meth c H' locs' cells slots Qt (F0 m pc' ls' (r.toList.map (tv_v ad)))) →
    ∀ (H : Heap) (locs : List Loc) (ls : Array Slot), st_ok dC dI ad ca A s.heap mu h H locs → lc_h ad ls L → L.length = y.2.2.1 → W p l e R s m args below meth c H locs cells slots Qt (F0 m pc ls (S.map (tv_v ad)))
/-- the words of a method: its own code, then all -/
def ws_y (y : ym_T) : List Cond := Cond.code y.1 y.2.1 y.2.2.1 y.2.2.2 :: ly_G
def rm_d (d : Nat) : Room := { frames := d, cells := 0, slots := 0, locals := 40 * d }
def gd_P (dC : Nat → ClassId) (dI : Nat → Nat → Nat) (ad : Nat → Nat) (ca : Nat → ClassId) (sz : Nat) (mu : Nat → Nat → Int32) (h : Int64) (U : State) : Prop := U.heap.size = sz ∧ va_P (dC, dI) ly_C (ly_w ad ca mu h) U.heap ∧ va_D (fun _ => True) (ly_w ad ca mu h) ∧ en_U dC dI ad ca (va_A (ly_w ad ca mu h) sz) U U.heap
def gd_Q (dC : Nat → ClassId) (dI : Nat → Nat → Nat) (ad : Nat → Nat) (ca : Nat → ClassId) (ret : Option FieldType) (Q : rn_Q) (A : Nat → Prop) : Array Value → State → Outcome → State → Prop := fun _ st oc t => (∃ (r : Option Value) (mu' : Nat → Nat → Int32) (h' : Int64), oc = .returned (r.map (tv_v ad)) ∧ Q r mu' h' ∧ rt_ok ret r ∧ va_P (dC, dI) ly_C (ly_w ad ca mu' h') t.heap) ∧ va_F A st t
def gd_G (y : ym_T) (d : Nat) (av : List Value) (mu : Nat → Nat → Int32) (h : Int64) (Q : rn_Q) : Prop :=
  ∀ (l : Launch) (dC : Nat → ClassId) (dI : Nat → Nat → Nat) (ad : Nat → Nat) (ca : Nat → ClassId) (sz : Nat), Met l y.1 (ws_y y) (rm_d d) (va_Pc (av.map (tv_v ad)) (gd_P dC dI ad ca sz mu h)) (gd_Q dC dI ad ca y.2.2.2 Q (va_A (ly_w ad ca mu h) sz)) 0 0 (va_A (ly_w ad ca mu h) sz)
/-- the locals with which a method begins -/
def lc_0 : List Value → List (Option Value)
  | [] => []
  | v :: vs => if v.category = 2 then some v :: none :: lc_0 vs else some v :: lc_0 vs
theorem lc_0_sl (ad : Nat → Nat) (vs : List Value) : (lg_sl (vs.map (tv_v ad))).length = (lc_0 vs).length := by
  induction vs with
  | nil => rfl
  | cons v vs ih =>
    simp only [lg_sl, List.map_cons, List.flatMap_cons, List.length_append] at ih ⊢
    rw [ih]
    cases v <;> simp [lc_0, tv_v, Value.category] <;> first | rfl | omega
theorem lc_0_args (ad : Nat → Nat) (vs : List Value) : ∀ (k i : Nat) (w : Value), (lc_0 vs)[i]? = some (some w) → (k + i, tv_v ad w) ∈ lv_args k (vs.map (tv_v ad)) := by
  induction vs with
  | nil => intro k i w h; simp [lc_0] at h
  | cons v vs ih =>
    intro k i w h
    simp only [lc_0] at h
    simp only [List.map_cons, lv_args, tv_cat]
    by_cases hc : v.category = 2
    · rw [if_pos hc] at h ⊢
      match i, h with
      | 0, h =>
        simp only [List.getElem?_cons_zero, Option.some.injEq] at h
        subst h
        exact List.mem_cons_self
      | 1, h => simp at h
      | i + 2, h =>
        simp only [List.getElem?_cons_succ] at h
        have := ih (k + 2) i w h
        refine List.mem_cons_of_mem _ ?_
        rw [show k + (i + 2) = k + 2 + i by omega]
        exact this
    · rw [if_neg hc] at h ⊢
      match i, h with
      | 0, h =>
        simp only [List.getElem?_cons_zero, Option.some.injEq] at h
        subst h
        exact List.mem_cons_self
      | i + 1, h =>
        simp only [List.getElem?_cons_succ] at h
        have := ih (k + 1) i w h
        refine List.mem_cons_of_mem _ ?_
        rw [show k + (i + 1) = k + 1 + i by omega]
        exact this
def lc_b (y : ym_T) (av : List Value) : List (Option Value) := lc_0 av ++ List.replicate (y.2.2.1 - (lc_0 av).length) none
theorem lc_entry {y : ym_T} {av : List Value} (hl : (lc_0 av).length ≤ y.2.2.1) (ad : Nat → Nat) : lc_h ad ((lg_sl (av.map (tv_v ad)) ++ List.replicate (y.2.2.1 - (lg_sl (av.map (tv_v ad))).length) Slot.unset).toArray) (lc_b y av) ∧ (lc_b y av).length = y.2.2.1 := by
  have hlen : (lc_b y av).length = y.2.2.1 := by simp [lc_b]; omega
  refine ⟨?_, hlen⟩
  obtain ⟨h1, h2, h3⟩ := lv_entry (av.map (tv_v ad)) (n := y.2.2.1) (by rw [lc_0_sl]; exact hl)
  refine ⟨by rw [h1, hlen], h2, fun q hq => ?_⟩
  obtain ⟨i, v⟩ := q
  obtain ⟨w, hw, rfl⟩ := lc_p_mem.mp hq
  refine h3 (i, tv_v ad w) ?_
  have hw' : (lc_0 av)[i]? = some (some w) := by
    unfold lc_b at hw
    by_cases hi : i < (lc_0 av).length
    · rwa [List.getElem?_append_left hi] at hw
    · rw [List.getElem?_append_right (by omega)] at hw
      exact absurd (List.mem_of_getElem? hw) (by simp [List.mem_replicate])
  have := lc_0_args ad av 0 i w hw'
  rwa [Nat.zero_add] at this
set_option maxHeartbeats 1000000 in
/-- a method's contract out of the walk of its body -/
theorem gd_of {y : ym_T} {d : Nat} {av : List Value} {mu : Nat → Nat → Int32} {h : Int64} {Q : rn_Q} (hy : plainName y.1.cls = true) (hl : (lc_0 av).length ≤ y.2.2.1) (k : rn_R none y d 0 (lc_b y av) [] mu h Q) : gd_G y d av mu h Q := by
  intro l dC dI ad ca sz
  refine Met.ofW (cc := y.2.1) (maxL := y.2.2.1) (ret := y.2.2.2) hy rfl ?_
  intro p e s m args below meth c s₁ B hml hv
  obtain ⟨rfl, hsz, hP, hD0, hU⟩ := hv
  have hts := atoms_spec (ws := ws_y y) B.pre
  have hr := B.returns
  have hlocks := B.notSynchronized
  subst hsz
  rw [lg_entry_eq]
  obtain ⟨hl1, hl2⟩ := lc_entry hl ad
  refine k p l e _ s m _ below meth c 0 0 dC dI ad ca (va_A (ly_w ad ca mu h) s.heap.size) _ ⟨B.exec, B.bytes, hml, hlocks, findClass_of_methodNamed B.named, fun w hw => hts w (List.mem_cons_of_mem _ hw), hU, ⟨Nat.le_refl _, Nat.le_refl _, Nat.le_refl _, Nat.le_refl _⟩, fun q hq => Or.inr hq, trivial⟩ ?_ s.heap [] _ ⟨hP, hD0.self, va_S.rf⟩ hl1 hl2
  intro r mu' h' H' locs' pc' ls' hQ hok hst hdg
  obtain ⟨hP', hD', hS'⟩ := hst
  have hq : ∀ t : State, t.heap = H' → s.WarmedH t.vm → gd_Q dC dI ad ca y.2.2.2 Q (va_A (ly_w ad ca mu h) s.heap.size) (av.map (tv_v ad)).toArray s (.returned (r.map (tv_v ad))) t := fun t ht _ => ⟨⟨r, mu', h', rfl, hQ, hok, by rw [ht]; exact hP'⟩, hS'.F ht⟩
  obtain ⟨yn, yb, yl, yr⟩ := y
  have hb := B.bytes
  have hx := B.exec
  match yr, r, hok with
  | none, none, _ => exact W.vret hx hb hr hq hS'.2.2 hdg
  | some .int, some (.int v), _ => exact W.iret hx hb hr hq hS'.2.2 hdg
  | some .boolean, some (.int v), hn => exact W.zret hx hb hr hn hq hS'.2.2 hdg
  | some .long, some (.long v), _ => exact W.lret hx hb hr hq hS'.2.2 hdg
section RNC
variable {p : Program} {l : Launch} {e : Env} {R : Room} {s : State} {m : MethodId} {args : Array Value} {below : List Frame} {meth : Method} {c : Code} {H : Heap} {locs : List Loc} {cells slots : Nat} {Qt : State → Prop}
variable {pc : Nat} {ls : Array Slot} {rest st0 : List Value} {a : Array Value} {A A1 : Nat → Prop} {H0 : Heap} {dC : Nat → ClassId} {dI : Nat → Nat → Nat} {ad : Nat → Nat} {ca : Nat → ClassId} {ret : Option FieldType} {Q1 : rn_Q}
theorem rn_goes (hr : va_Run p l e R s m args below meth c H locs cells slots 0 0 (F0 m pc ls st0) rest (gd_Q dC dI ad ca ret Q1 A1 a) A1) (hS : va_S A H0 H locs) (hA : ∀ q, A1 q → A q)
    (kk : ∀ (r : Option Value) (mu' : Nat → Nat → Int32) (h' : Int64) (H1 : Heap) (locs1 : List Loc), Q1 r mu' h' → rt_ok ret r → va_P (dC, dI) ly_C (ly_w ad ca mu' h') H1 → va_S A H0 H1 locs1 → W p l e R s m args below meth c H1 locs1 cells slots Qt (F0 m (pc + 3) ls ((r.map (tv_v ad)).toList ++ rest))) : W p l e R s m args below meth c H locs cells slots Qt (F0 m pc ls st0) := by
  intro T hT X
  obtain ⟨v, st₀, t, T', L, h0, X', hL, e1, e2, ⟨⟨r, mu', h', hv, hq, hok, hp⟩, hz, hk⟩, st⟩ := hr T hT X
  cases hv
  rw [h0] at hz hk
  obtain ⟨t2, a1, b1⟩ := kk r mu' h' T'.heap (locs ++ L) hq hok (by rw [e1]; exact hp)
    ⟨Nat.le_trans hS.1 (by rw [e1]; exact hz), fun q h1 h2 => by rw [e1, hk q (Nat.lt_of_lt_of_le h1 hS.1) (fun z => h2 (hA q z))]; exact hS.2.1 q h1 h2, fun q hq => by
      rcases List.mem_append.mp hq with h | h
      · exact hS.2.2 q h
      · exact hA _ (hL q h)⟩ T' rfl X'
  exact ⟨t2, st t2 a1, b1⟩
end RNC
theorem en_U.to {dC : Nat → ClassId} {dI : Nat → Nat → Nat} {ad : Nat → Nat} {ca : Nat → ClassId} {A B : Nat → Prop} {s U : State} {H : Heap} {locs : List Loc} (h : en_U dC dI ad ca A s s.heap) (hS : va_S A s.heap H locs) (hB : ∀ q, B q → A q) (hU : U.heap = H) (hW : s.WarmedH U.vm) : en_U dC dI ad ca B U U.heap := by
  obtain ⟨h1, h2, h3⟩ := h
  refine ⟨h1.moved hW.alike, h2.warm hW, ?_⟩
  rw [hU]
  exact ((h3.kept hS.2.1).narrow hB).moved hW.alike
theorem gd_blind {dC : Nat → ClassId} {dI : Nat → Nat → Nat} {ad : Nat → Nat} {ca : Nat → ClassId} {sz : Nat} {mu : Nat → Nat → Int32} {h : Int64} {av : List Value} : FrameBlind (va_Pc av (gd_P dC dI ad ca sz mu h)) := by
  intro a U g mk q
  obtain ⟨q0, q1, q2, q3, k1, k2, k3⟩ := q
  exact ⟨q0, q1, q2, q3, k1.moved (u := U) (U := U.calling g mk a) (Vm.Alike.refl U.vm), nw_ok.same (u := U) (U := U.calling g mk a) rfl k2, k3.moved (u := U) (U := U.calling g mk a) (Vm.Alike.refl U.vm)⟩
theorem ly_free {A : Nat → Prop} {ad : Nat → Nat} {ca : Nat → ClassId} {mu : Nat → Nat → Int32} {h : Int64} {H0 H : Heap} {locs : List Loc} (hD : va_D A (ly_w ad ca mu h)) (hS : va_S A H0 H locs) (hA : ∀ q : Nat, H0.size ≤ q → A q) : ∀ q, va_A (ly_w ad ca mu h) H.size q → A q := by
  intro q hq
  rcases hq with ⟨k, e, he⟩ | he
  · exact hD.2 k _ he
  · exact hA q (Nat.le_trans hS.1 he)
theorem ws_good {y1 : ym_T} (hc : Cond.code y1.1 y1.2.1 y1.2.2.1 y1.2.2.2 ∈ ly_G) : GoodIn ly_G (ws_y y1) := by
  intro w hw
  have : w ∈ ly_G := by
    rcases List.mem_cons.mp hw with rfl | h
    · exact hc
    · exact h
  exact ⟨this, good_of_word (List.mem_filter.mp this).2⟩
theorem tv_toList (ad : Nat → Nat) (r : Option Value) (S : List Value) : (r.map (tv_v ad)).toList ++ S.map (tv_v ad) = (r.toList ++ S).map (tv_v ad) := by
  cases r <;> simp
theorem tv_catsum (ad : Nat → Nat) (S : List Value) : ((S.map (tv_v ad)).map fun v => v.category).sum = (S.map fun v => v.category).sum := by
  rw [List.map_map]
  congr 1
  exact List.map_congr_left (fun v _ => tv_cat ad v)
theorem tv_args (ad : Nat → Nat) (As S : List Value) (i : Nat) : (As.reverse ++ Value.ref i :: S).map (tv_v ad) = (As.map (tv_v ad)).reverse ++ Value.ref (ad i) :: S.map (tv_v ad) := by
  simp [tv_v]
theorem tv_argsS (ad : Nat → Nat) (As S : List Value) : (As.reverse ++ S).map (tv_v ad) = (As.map (tv_v ad)).reverse ++ S.map (tv_v ad) := by
  simp
set_option maxHeartbeats 1000000 in
theorem rn_callV {X : Option (Nat × (Nat → Int32))} {y : ym_T} {d pc : Nat} {L : List (Option Value)} {mu : Nat → Nat → Int32} {h : Int64} {Q Q1 : rn_Q} (y1 : ym_T) (As S : List Value) {S0 : List Value} {i ci n idx : Nat} {fs : List ly_F} (hd : decode y.2.1 pc = .ok (.invokevirtual idx, 3)) (hc : cv_ok y.1.cls idx y1 ci n) (hi : ly_L[i]? = some (.inr (ci, fs))) (hS0 : S0 = As.reverse ++ .ref i :: S) (hn : As.length = n) (hcat : (S.map fun v => v.category).sum ≤ 8) (hG : gd_G y1 d (.ref i :: As) mu h Q1)
    (k : ∀ (r : Option Value) (mu' : Nat → Nat → Int32) (h' : Int64), Q1 r mu' h' → rt_ok y1.2.2.2 r → rn_R X y (d + 1) (pc + 3) L (r.toList ++ S) mu' h' Q) : rn_R X y (d + 1) pc L S0 mu h Q := by
  subst hS0
  intro p l e R s m args below meth c cells slots dC dI ad ca A Qt E F H locs ls hst hl hlen
  obtain ⟨hP, hD, hS⟩ := hst
  have E' := E
  obtain ⟨hx, hb, hml, hlk, hown, hts, hU, ⟨hR1, hR2, hR3, hR4⟩, hA, hX⟩ := E
  obtain ⟨c1, c2, c3, c4, c5, c6, c7, c8⟩ := hc
  obtain ⟨q, hq, hq1⟩ := Option.map_eq_some_iff.mp c1
  have hfree := ly_free hD hS hA
  have hrecv := va_recv hU.1 hP hq (ly_at hi)
  rw [hq1] at hrecv
  have hpre : PreV s H y1.1.cls (ad i) (va_Pc ((Value.ref i :: As).map (tv_v ad)) (gd_P dC dI ad ca H.size mu h)) (As.map (tv_v ad)) :=
    ⟨gd_blind, hrecv, fun U hUh hW => ⟨rfl, by rw [hUh], by rw [hUh]; exact hP, hD.weaken (fun _ _ _ _ => trivial), hU.to hS hfree hUh hW⟩⟩
  have hn' : (As.map (tv_v ad)).length = n := by simpa using hn
  have hroom : 2 * (F0 m pc ls ((As.map (tv_v ad)).reverse ++ Value.ref (ad i) :: S.map (tv_v ad))).monitorRoom + ((S.map (tv_v ad)).map fun v => v.category).sum ≤ 8 := lv_room (by rw [tv_catsum]; exact hcat)
  have hRf : (rm_d d).frames + 1 ≤ R.frames := hR1
  have hRl : 8 + (y1.2.2.1 + 11) + (rm_d d).locals ≤ R.locals := by
    show 8 + (y1.2.2.1 + 11) + 40 * d ≤ R.locals
    omega
  have hlens : ∀ sig, parseMethodDescriptor y1.1.desc = some sig → n = sig.parameters.length := fun sig hs => by
    have h2 := c7.2.2
    rw [hs] at h2
    exact (Option.some.inj h2).symm
  rw [tv_args]
  have hrun : va_Run p l e R s m args below meth c H locs cells slots 0 0 (F0 m pc ls ((As.map (tv_v ad)).reverse ++ Value.ref (ad i) :: S.map (tv_v ad))) (S.map (tv_v ad)) (gd_Q dC dI ad ca y1.2.2.2 Q1 (va_A (ly_w ad ca mu h) H.size) (Value.ref (ad i) :: As.map (tv_v ad)).toArray) (va_A (ly_w ad ca mu h) H.size) := by
    rcases c2 with c2 | ⟨host, c2⟩
    · exact va_runV (nL := y.2.2.1) (Ts := ly_G) (n := n) ⟨hx, hb, hml, hown, hts⟩ (hG l dC dI ad ca H.size) ⟨⟨rfl, rfl, hRf, hRl, pay_in hts (ws_good c6), List.mem_cons_self, hts _ c6, hts _ c5, ⟨c7.1, c7.2.1⟩, hlens, hts _ c2⟩, hts _ c3, hts _ c4⟩ hpre rfl hn' (by show ls.size = _; rw [hl.1, hlen]) rfl hroom hd ⟨hR3, hR4⟩
    · exact va_runVN (nL := y.2.2.1) (Ts := ly_G) (n := n) ⟨hx, hb, hml, hown, hts⟩ (hG l dC dI ad ca H.size) ⟨⟨⟨rfl, rfl, hRf, hRl, pay_in hts (ws_good c6), List.mem_cons_self⟩, hts _ c6, hts _ c5, ⟨c7.1, c7.2.1⟩, hlens, (hU.2.1 _ c2).2.use rfl⟩, hts _ c3, hts _ c4⟩ hpre rfl hn' (by show ls.size = _; rw [hl.1, hlen]) rfl hroom hd ⟨hR3, hR4⟩
  refine rn_goes hrun hS hfree (fun r mu' h' H1 locs1 hq' hok hP1 hS1 => ?_)
  rw [tv_toList]
  exact k r mu' h' hq' hok p l e R s m args below meth c cells slots dC dI ad ca A Qt E' F H1 locs1 ls ⟨hP1, ly_D hD, hS1⟩ hl hlen
set_option maxHeartbeats 1000000 in
theorem rn_callS {X : Option (Nat × (Nat → Int32))} {y : ym_T} {d pc : Nat} {L : List (Option Value)} {mu : Nat → Nat → Int32} {h : Int64} {Q Q1 : rn_Q} (y1 : ym_T) (As S : List Value) {S0 : List Value} {n idx : Nat} (hd : decode y.2.1 pc = .ok (.invokestatic idx, 3)) (hc : cs_ok y.1.cls idx y1 n) (hS0 : S0 = As.reverse ++ S) (hn : As.length = n) (hcat : (S.map fun v => v.category).sum ≤ 8) (hG : gd_G y1 d As mu h Q1)
    (k : ∀ (r : Option Value) (mu' : Nat → Nat → Int32) (h' : Int64), Q1 r mu' h' → rt_ok y1.2.2.2 r → rn_R X y (d + 1) (pc + 3) L (r.toList ++ S) mu' h' Q) : rn_R X y (d + 1) pc L S0 mu h Q := by
  subst hS0
  intro p l e R s m args below meth c cells slots dC dI ad ca A Qt E F H locs ls hst hl hlen
  obtain ⟨hP, hD, hS⟩ := hst
  have E' := E
  obtain ⟨hx, hb, hml, hlk, hown, hts, hU, ⟨hR1, hR2, hR3, hR4⟩, hA, hX⟩ := E
  obtain ⟨c2, c3, c5, c6, c7, c8⟩ := hc
  have hfree := ly_free hD hS hA
  have hpre : PreS s H (va_Pc (As.map (tv_v ad)) (gd_P dC dI ad ca H.size mu h)) (As.map (tv_v ad)) :=
    ⟨gd_blind, fun U hUh hW => ⟨rfl, by rw [hUh], by rw [hUh]; exact hP, hD.weaken (fun _ _ _ _ => trivial), hU.to hS hfree hUh hW⟩⟩
  have hn' : (As.map (tv_v ad)).length = n := by simpa using hn
  have hroom : 2 * (F0 m pc ls ((As.map (tv_v ad)).reverse ++ S.map (tv_v ad))).monitorRoom + ((S.map (tv_v ad)).map fun v => v.category).sum ≤ 8 := lv_room (by rw [tv_catsum]; exact hcat)
  have hRf : (rm_d d).frames + 1 ≤ R.frames := hR1
  have hRl : 8 + (y1.2.2.1 + 11) + (rm_d d).locals ≤ R.locals := by
    show 8 + (y1.2.2.1 + 11) + 40 * d ≤ R.locals
    omega
  have hlens : ∀ sig, parseMethodDescriptor y1.1.desc = some sig → n = sig.parameters.length := fun sig hs => by
    have h2 := c7.2.2
    rw [hs] at h2
    exact (Option.some.inj h2).symm
  rw [tv_argsS]
  have hrun : va_Run p l e R s m args below meth c H locs cells slots 0 0 (F0 m pc ls ((As.map (tv_v ad)).reverse ++ S.map (tv_v ad))) (S.map (tv_v ad)) (gd_Q dC dI ad ca y1.2.2.2 Q1 (va_A (ly_w ad ca mu h) H.size) (As.map (tv_v ad)).toArray) (va_A (ly_w ad ca mu h) H.size) := by
    rcases c2 with c2 | ⟨host, c2⟩
    · exact va_runS (nL := y.2.2.1) (Ts := ly_G) (n := n) ⟨hx, hb, hml, hown, hts⟩ (hG l dC dI ad ca H.size) ⟨⟨rfl, rfl, hRf, hRl, pay_in hts (ws_good c6), List.mem_cons_self, hts _ c6, hts _ c5, ⟨c7.1, c7.2.1⟩, hlens, hts _ c2⟩, hts _ c3⟩ hpre rfl hn' (by show ls.size = _; rw [hl.1, hlen]) rfl hroom hd ⟨hR3, hR4⟩
    · exact va_runSN (nL := y.2.2.1) (Ts := ly_G) (n := n) ⟨hx, hb, hml, hown, hts⟩ (hG l dC dI ad ca H.size) ⟨⟨⟨rfl, rfl, hRf, hRl, pay_in hts (ws_good c6), List.mem_cons_self⟩, hts _ c6, hts _ c5, ⟨c7.1, c7.2.1⟩, hlens, (hU.2.1 _ c2).2.use rfl⟩, hts _ c3, trivial⟩ hpre rfl hn' (by show ls.size = _; rw [hl.1, hlen]) rfl hroom hd ⟨hR3, hR4⟩
  refine rn_goes hrun hS hfree (fun r mu' h' H1 locs1 hq' hok hP1 hS1 => ?_)
  rw [tv_toList]
  exact k r mu' h' hq' hok p l e R s m args below meth c cells slots dC dI ad ca A Qt E' F H1 locs1 ls ⟨hP1, ly_D hD, hS1⟩ hl hlen
end
section
/-! A RULE AN INSTRUCTION, over rn_R (written by wip/whole/gen_rules.py) -/
theorem lc_1_len (L : List (Option Value)) (i : Nat) (v : Value) : (lc_1 L i v).length = L.length := by simp [lc_1, lc_k_len]
theorem lc_2_len (L : List (Option Value)) (i : Nat) (v : Value) : (lc_2 L i v).length = L.length := by simp [lc_2, lc_k_len]
theorem rn_iconst {X : Option (Nat × (Nat → Int32))} {y : ym_T} {d pc : Nat} {L : List (Option Value)} {S : List Value} {mu : Nat → Nat → Int32} {h : Int64} {Q : rn_Q} {z : Int} {v : Int32} (n : Nat) (hd : decode y.2.1 pc = .ok (.iconst z, 1)) (hv : Int32.ofInt z = v) (hp : pc + 1 = n) (k : rn_R X y d n L (.int v :: S) mu h Q) : rn_R X y d pc L (S) mu h Q := by
  subst hp
  intro p l e R s m args below meth c cells slots dC dI ad ca A Qt E F H locs ls hst hl hlen
  exact lv_iconst E.1 E.2.1 hd hv (k p l e R s m args below meth c cells slots dC dI ad ca A Qt E F H locs ls hst hl hlen)
theorem rn_bipush {X : Option (Nat × (Nat → Int32))} {y : ym_T} {d pc : Nat} {L : List (Option Value)} {S : List Value} {mu : Nat → Nat → Int32} {h : Int64} {Q : rn_Q} {z : Int} {v : Int32} (n : Nat) (hd : decode y.2.1 pc = .ok (.bipush z, 2)) (hv : (Int8.ofInt z).toInt32 = v) (hp : pc + 2 = n) (k : rn_R X y d n L (.int v :: S) mu h Q) : rn_R X y d pc L (S) mu h Q := by
  subst hp
  intro p l e R s m args below meth c cells slots dC dI ad ca A Qt E F H locs ls hst hl hlen
  exact lv_bipush E.1 E.2.1 hd hv (k p l e R s m args below meth c cells slots dC dI ad ca A Qt E F H locs ls hst hl hlen)
theorem rn_sipush {X : Option (Nat × (Nat → Int32))} {y : ym_T} {d pc : Nat} {L : List (Option Value)} {S : List Value} {mu : Nat → Nat → Int32} {h : Int64} {Q : rn_Q} {z : Int} {v : Int32} (n : Nat) (hd : decode y.2.1 pc = .ok (.sipush z, 3)) (hv : (Int16.ofInt z).toInt32 = v) (hp : pc + 3 = n) (k : rn_R X y d n L (.int v :: S) mu h Q) : rn_R X y d pc L (S) mu h Q := by
  subst hp
  intro p l e R s m args below meth c cells slots dC dI ad ca A Qt E F H locs ls hst hl hlen
  exact lv_sipush E.1 E.2.1 hd hv (k p l e R s m args below meth c cells slots dC dI ad ca A Qt E F H locs ls hst hl hlen)
theorem rn_lconst {X : Option (Nat × (Nat → Int32))} {y : ym_T} {d pc : Nat} {L : List (Option Value)} {S : List Value} {mu : Nat → Nat → Int32} {h : Int64} {Q : rn_Q} {z : Fin 2} {v : Int64} (n : Nat) (hd : decode y.2.1 pc = .ok (.lconst z, 1)) (hv : Int64.ofNat (z : Nat) = v) (hp : pc + 1 = n) (k : rn_R X y d n L (.long v :: S) mu h Q) : rn_R X y d pc L (S) mu h Q := by
  subst hp
  intro p l e R s m args below meth c cells slots dC dI ad ca A Qt E F H locs ls hst hl hlen
  exact lv_lconst E.1 E.2.1 hd hv (k p l e R s m args below meth c cells slots dC dI ad ca A Qt E F H locs ls hst hl hlen)
theorem rn_iadd {X : Option (Nat × (Nat → Int32))} {y : ym_T} {d pc : Nat} {L : List (Option Value)} {S : List Value} {mu : Nat → Nat → Int32} {h : Int64} {Q : rn_Q} {a b : Int32} (n : Nat) (hd : decode y.2.1 pc = .ok (.iadd, 1))  (hp : pc + 1 = n) (k : rn_R X y d n L (.int (a + b) :: S) mu h Q) : rn_R X y d pc L (.int b :: .int a :: S) mu h Q := by
  subst hp
  intro p l e R s m args below meth c cells slots dC dI ad ca A Qt E F H locs ls hst hl hlen
  exact lv_iadd E.1 E.2.1 hd (k p l e R s m args below meth c cells slots dC dI ad ca A Qt E F H locs ls hst hl hlen)
theorem rn_isub {X : Option (Nat × (Nat → Int32))} {y : ym_T} {d pc : Nat} {L : List (Option Value)} {S : List Value} {mu : Nat → Nat → Int32} {h : Int64} {Q : rn_Q} {a b : Int32} (n : Nat) (hd : decode y.2.1 pc = .ok (.isub, 1))  (hp : pc + 1 = n) (k : rn_R X y d n L (.int (a - b) :: S) mu h Q) : rn_R X y d pc L (.int b :: .int a :: S) mu h Q := by
  subst hp
  intro p l e R s m args below meth c cells slots dC dI ad ca A Qt E F H locs ls hst hl hlen
  exact lv_isub E.1 E.2.1 hd (k p l e R s m args below meth c cells slots dC dI ad ca A Qt E F H locs ls hst hl hlen)
theorem rn_imul {X : Option (Nat × (Nat → Int32))} {y : ym_T} {d pc : Nat} {L : List (Option Value)} {S : List Value} {mu : Nat → Nat → Int32} {h : Int64} {Q : rn_Q} {a b : Int32} (n : Nat) (hd : decode y.2.1 pc = .ok (.imul, 1))  (hp : pc + 1 = n) (k : rn_R X y d n L (.int (a * b) :: S) mu h Q) : rn_R X y d pc L (.int b :: .int a :: S) mu h Q := by
  subst hp
  intro p l e R s m args below meth c cells slots dC dI ad ca A Qt E F H locs ls hst hl hlen
  exact lv_imul E.1 E.2.1 hd (k p l e R s m args below meth c cells slots dC dI ad ca A Qt E F H locs ls hst hl hlen)
theorem rn_iand {X : Option (Nat × (Nat → Int32))} {y : ym_T} {d pc : Nat} {L : List (Option Value)} {S : List Value} {mu : Nat → Nat → Int32} {h : Int64} {Q : rn_Q} {a b : Int32} (n : Nat) (hd : decode y.2.1 pc = .ok (.iand, 1))  (hp : pc + 1 = n) (k : rn_R X y d n L (.int (a &&& b) :: S) mu h Q) : rn_R X y d pc L (.int b :: .int a :: S) mu h Q := by
  subst hp
  intro p l e R s m args below meth c cells slots dC dI ad ca A Qt E F H locs ls hst hl hlen
  exact lv_iand E.1 E.2.1 hd (k p l e R s m args below meth c cells slots dC dI ad ca A Qt E F H locs ls hst hl hlen)
theorem rn_ior {X : Option (Nat × (Nat → Int32))} {y : ym_T} {d pc : Nat} {L : List (Option Value)} {S : List Value} {mu : Nat → Nat → Int32} {h : Int64} {Q : rn_Q} {a b : Int32} (n : Nat) (hd : decode y.2.1 pc = .ok (.ior, 1))  (hp : pc + 1 = n) (k : rn_R X y d n L (.int (a ||| b) :: S) mu h Q) : rn_R X y d pc L (.int b :: .int a :: S) mu h Q := by
  subst hp
  intro p l e R s m args below meth c cells slots dC dI ad ca A Qt E F H locs ls hst hl hlen
  exact lv_ior E.1 E.2.1 hd (k p l e R s m args below meth c cells slots dC dI ad ca A Qt E F H locs ls hst hl hlen)
theorem rn_ixor {X : Option (Nat × (Nat → Int32))} {y : ym_T} {d pc : Nat} {L : List (Option Value)} {S : List Value} {mu : Nat → Nat → Int32} {h : Int64} {Q : rn_Q} {a b : Int32} (n : Nat) (hd : decode y.2.1 pc = .ok (.ixor, 1))  (hp : pc + 1 = n) (k : rn_R X y d n L (.int (a ^^^ b) :: S) mu h Q) : rn_R X y d pc L (.int b :: .int a :: S) mu h Q := by
  subst hp
  intro p l e R s m args below meth c cells slots dC dI ad ca A Qt E F H locs ls hst hl hlen
  exact lv_ixor E.1 E.2.1 hd (k p l e R s m args below meth c cells slots dC dI ad ca A Qt E F H locs ls hst hl hlen)
theorem rn_ladd {X : Option (Nat × (Nat → Int32))} {y : ym_T} {d pc : Nat} {L : List (Option Value)} {S : List Value} {mu : Nat → Nat → Int32} {h : Int64} {Q : rn_Q} {a b : Int64} (n : Nat) (hd : decode y.2.1 pc = .ok (.ladd, 1))  (hp : pc + 1 = n) (k : rn_R X y d n L (.long (a + b) :: S) mu h Q) : rn_R X y d pc L (.long b :: .long a :: S) mu h Q := by
  subst hp
  intro p l e R s m args below meth c cells slots dC dI ad ca A Qt E F H locs ls hst hl hlen
  exact lv_ladd E.1 E.2.1 hd (k p l e R s m args below meth c cells slots dC dI ad ca A Qt E F H locs ls hst hl hlen)
theorem rn_lsub {X : Option (Nat × (Nat → Int32))} {y : ym_T} {d pc : Nat} {L : List (Option Value)} {S : List Value} {mu : Nat → Nat → Int32} {h : Int64} {Q : rn_Q} {a b : Int64} (n : Nat) (hd : decode y.2.1 pc = .ok (.lsub, 1))  (hp : pc + 1 = n) (k : rn_R X y d n L (.long (a - b) :: S) mu h Q) : rn_R X y d pc L (.long b :: .long a :: S) mu h Q := by
  subst hp
  intro p l e R s m args below meth c cells slots dC dI ad ca A Qt E F H locs ls hst hl hlen
  exact lv_lsub E.1 E.2.1 hd (k p l e R s m args below meth c cells slots dC dI ad ca A Qt E F H locs ls hst hl hlen)
theorem rn_lmul {X : Option (Nat × (Nat → Int32))} {y : ym_T} {d pc : Nat} {L : List (Option Value)} {S : List Value} {mu : Nat → Nat → Int32} {h : Int64} {Q : rn_Q} {a b : Int64} (n : Nat) (hd : decode y.2.1 pc = .ok (.lmul, 1))  (hp : pc + 1 = n) (k : rn_R X y d n L (.long (a * b) :: S) mu h Q) : rn_R X y d pc L (.long b :: .long a :: S) mu h Q := by
  subst hp
  intro p l e R s m args below meth c cells slots dC dI ad ca A Qt E F H locs ls hst hl hlen
  exact lv_lmul E.1 E.2.1 hd (k p l e R s m args below meth c cells slots dC dI ad ca A Qt E F H locs ls hst hl hlen)
theorem rn_land {X : Option (Nat × (Nat → Int32))} {y : ym_T} {d pc : Nat} {L : List (Option Value)} {S : List Value} {mu : Nat → Nat → Int32} {h : Int64} {Q : rn_Q} {a b : Int64} (n : Nat) (hd : decode y.2.1 pc = .ok (.land, 1))  (hp : pc + 1 = n) (k : rn_R X y d n L (.long (a &&& b) :: S) mu h Q) : rn_R X y d pc L (.long b :: .long a :: S) mu h Q := by
  subst hp
  intro p l e R s m args below meth c cells slots dC dI ad ca A Qt E F H locs ls hst hl hlen
  exact lv_land E.1 E.2.1 hd (k p l e R s m args below meth c cells slots dC dI ad ca A Qt E F H locs ls hst hl hlen)
theorem rn_lor {X : Option (Nat × (Nat → Int32))} {y : ym_T} {d pc : Nat} {L : List (Option Value)} {S : List Value} {mu : Nat → Nat → Int32} {h : Int64} {Q : rn_Q} {a b : Int64} (n : Nat) (hd : decode y.2.1 pc = .ok (.lor, 1))  (hp : pc + 1 = n) (k : rn_R X y d n L (.long (a ||| b) :: S) mu h Q) : rn_R X y d pc L (.long b :: .long a :: S) mu h Q := by
  subst hp
  intro p l e R s m args below meth c cells slots dC dI ad ca A Qt E F H locs ls hst hl hlen
  exact lv_lor E.1 E.2.1 hd (k p l e R s m args below meth c cells slots dC dI ad ca A Qt E F H locs ls hst hl hlen)
theorem rn_lxor {X : Option (Nat × (Nat → Int32))} {y : ym_T} {d pc : Nat} {L : List (Option Value)} {S : List Value} {mu : Nat → Nat → Int32} {h : Int64} {Q : rn_Q} {a b : Int64} (n : Nat) (hd : decode y.2.1 pc = .ok (.lxor, 1))  (hp : pc + 1 = n) (k : rn_R X y d n L (.long (a ^^^ b) :: S) mu h Q) : rn_R X y d pc L (.long b :: .long a :: S) mu h Q := by
  subst hp
  intro p l e R s m args below meth c cells slots dC dI ad ca A Qt E F H locs ls hst hl hlen
  exact lv_lxor E.1 E.2.1 hd (k p l e R s m args below meth c cells slots dC dI ad ca A Qt E F H locs ls hst hl hlen)
theorem rn_idiv {X : Option (Nat × (Nat → Int32))} {y : ym_T} {d pc : Nat} {L : List (Option Value)} {S : List Value} {mu : Nat → Nat → Int32} {h : Int64} {Q : rn_Q} {a b : Int32} (n : Nat) (hd : decode y.2.1 pc = .ok (.idiv, 1)) (hne : ¬ b = 0) (hp : pc + 1 = n) (k : rn_R X y d n L (.int (a / b) :: S) mu h Q) : rn_R X y d pc L (.int b :: .int a :: S) mu h Q := by
  subst hp
  intro p l e R s m args below meth c cells slots dC dI ad ca A Qt E F H locs ls hst hl hlen
  exact lv_idiv E.1 E.2.1 hd hne (k p l e R s m args below meth c cells slots dC dI ad ca A Qt E F H locs ls hst hl hlen)
theorem rn_irem {X : Option (Nat × (Nat → Int32))} {y : ym_T} {d pc : Nat} {L : List (Option Value)} {S : List Value} {mu : Nat → Nat → Int32} {h : Int64} {Q : rn_Q} {a b : Int32} (n : Nat) (hd : decode y.2.1 pc = .ok (.irem, 1)) (hne : ¬ b = 0) (hp : pc + 1 = n) (k : rn_R X y d n L (.int (a - a / b * b) :: S) mu h Q) : rn_R X y d pc L (.int b :: .int a :: S) mu h Q := by
  subst hp
  intro p l e R s m args below meth c cells slots dC dI ad ca A Qt E F H locs ls hst hl hlen
  exact lv_irem E.1 E.2.1 hd hne (k p l e R s m args below meth c cells slots dC dI ad ca A Qt E F H locs ls hst hl hlen)
theorem rn_ineg {X : Option (Nat × (Nat → Int32))} {y : ym_T} {d pc : Nat} {L : List (Option Value)} {S : List Value} {mu : Nat → Nat → Int32} {h : Int64} {Q : rn_Q} {a : Int32} (n : Nat) (hd : decode y.2.1 pc = .ok (.ineg, 1))  (hp : pc + 1 = n) (k : rn_R X y d n L (.int (-a) :: S) mu h Q) : rn_R X y d pc L (.int a :: S) mu h Q := by
  subst hp
  intro p l e R s m args below meth c cells slots dC dI ad ca A Qt E F H locs ls hst hl hlen
  exact lv_ineg E.1 E.2.1 hd (k p l e R s m args below meth c cells slots dC dI ad ca A Qt E F H locs ls hst hl hlen)
theorem rn_ishl {X : Option (Nat × (Nat → Int32))} {y : ym_T} {d pc : Nat} {L : List (Option Value)} {S : List Value} {mu : Nat → Nat → Int32} {h : Int64} {Q : rn_Q} {a b : Int32} (n : Nat) (hd : decode y.2.1 pc = .ok (.ishl, 1))  (hp : pc + 1 = n) (k : rn_R X y d n L (.int (a <<< (b &&& 31)) :: S) mu h Q) : rn_R X y d pc L (.int b :: .int a :: S) mu h Q := by
  subst hp
  intro p l e R s m args below meth c cells slots dC dI ad ca A Qt E F H locs ls hst hl hlen
  exact lv_ishl E.1 E.2.1 hd (k p l e R s m args below meth c cells slots dC dI ad ca A Qt E F H locs ls hst hl hlen)
theorem rn_ishr {X : Option (Nat × (Nat → Int32))} {y : ym_T} {d pc : Nat} {L : List (Option Value)} {S : List Value} {mu : Nat → Nat → Int32} {h : Int64} {Q : rn_Q} {a b : Int32} (n : Nat) (hd : decode y.2.1 pc = .ok (.ishr, 1))  (hp : pc + 1 = n) (k : rn_R X y d n L (.int (a >>> (b &&& 31)) :: S) mu h Q) : rn_R X y d pc L (.int b :: .int a :: S) mu h Q := by
  subst hp
  intro p l e R s m args below meth c cells slots dC dI ad ca A Qt E F H locs ls hst hl hlen
  exact lv_ishr E.1 E.2.1 hd (k p l e R s m args below meth c cells slots dC dI ad ca A Qt E F H locs ls hst hl hlen)
theorem rn_iushr {X : Option (Nat × (Nat → Int32))} {y : ym_T} {d pc : Nat} {L : List (Option Value)} {S : List Value} {mu : Nat → Nat → Int32} {h : Int64} {Q : rn_Q} {a b v : Int32} (n : Nat) (hd : decode y.2.1 pc = .ok (.iushr, 1)) (hv : (a.toUInt32 >>> (b.toUInt32 &&& Int32.toUInt32 31)).toInt32 = v) (hp : pc + 1 = n) (k : rn_R X y d n L (.int v :: S) mu h Q) : rn_R X y d pc L (.int b :: .int a :: S) mu h Q := by
  subst hp
  intro p l e R s m args below meth c cells slots dC dI ad ca A Qt E F H locs ls hst hl hlen
  exact lv_iushr E.1 E.2.1 hd hv (k p l e R s m args below meth c cells slots dC dI ad ca A Qt E F H locs ls hst hl hlen)
theorem rn_i2l {X : Option (Nat × (Nat → Int32))} {y : ym_T} {d pc : Nat} {L : List (Option Value)} {S : List Value} {mu : Nat → Nat → Int32} {h : Int64} {Q : rn_Q} {a : Int32} (n : Nat) (hd : decode y.2.1 pc = .ok (.i2l, 1))  (hp : pc + 1 = n) (k : rn_R X y d n L (.long a.toInt64 :: S) mu h Q) : rn_R X y d pc L (.int a :: S) mu h Q := by
  subst hp
  intro p l e R s m args below meth c cells slots dC dI ad ca A Qt E F H locs ls hst hl hlen
  exact lv_i2l E.1 E.2.1 hd rfl (k p l e R s m args below meth c cells slots dC dI ad ca A Qt E F H locs ls hst hl hlen)
theorem rn_i2b {X : Option (Nat × (Nat → Int32))} {y : ym_T} {d pc : Nat} {L : List (Option Value)} {S : List Value} {mu : Nat → Nat → Int32} {h : Int64} {Q : rn_Q} {a : Int32} (n : Nat) (hd : decode y.2.1 pc = .ok (.i2b, 1))  (hp : pc + 1 = n) (k : rn_R X y d n L (.int a.toInt8.toInt32 :: S) mu h Q) : rn_R X y d pc L (.int a :: S) mu h Q := by
  subst hp
  intro p l e R s m args below meth c cells slots dC dI ad ca A Qt E F H locs ls hst hl hlen
  exact lv_i2b E.1 E.2.1 hd rfl (k p l e R s m args below meth c cells slots dC dI ad ca A Qt E F H locs ls hst hl hlen)
theorem rn_iload_n {X : Option (Nat × (Nat → Int32))} {y : ym_T} {d pc : Nat} {L : List (Option Value)} {S : List Value} {mu : Nat → Nat → Int32} {h : Int64} {Q : rn_Q} {kk : Fin 4} {i : Nat} {x : Int32} (n : Nat) (hd : decode y.2.1 pc = .ok (.iload_n kk, 1)) (hi : (kk : Nat) = i) (hx : L[i]? = some (some (.int x))) (hp : pc + 1 = n) (k : rn_R X y d n L (.int x :: S) mu h Q) : rn_R X y d pc L S mu h Q := by
  subst hp
  intro p l e R s m args below meth c cells slots dC dI ad ca A Qt E F H locs ls hst hl hlen
  exact lv_iload_n E.1 E.2.1 hd hi (lc_at hl hx) (k p l e R s m args below meth c cells slots dC dI ad ca A Qt E F H locs ls hst hl hlen)
theorem rn_iload {X : Option (Nat × (Nat → Int32))} {y : ym_T} {d pc : Nat} {L : List (Option Value)} {S : List Value} {mu : Nat → Nat → Int32} {h : Int64} {Q : rn_Q} {i : Nat} {x : Int32} (n : Nat) (hd : decode y.2.1 pc = .ok (.iload i, 2)) (hx : L[i]? = some (some (.int x))) (hp : pc + 2 = n) (k : rn_R X y d n L (.int x :: S) mu h Q) : rn_R X y d pc L S mu h Q := by
  subst hp
  intro p l e R s m args below meth c cells slots dC dI ad ca A Qt E F H locs ls hst hl hlen
  exact lv_iload E.1 E.2.1 hd (lc_at hl hx) (k p l e R s m args below meth c cells slots dC dI ad ca A Qt E F H locs ls hst hl hlen)
theorem rn_lload_n {X : Option (Nat × (Nat → Int32))} {y : ym_T} {d pc : Nat} {L : List (Option Value)} {S : List Value} {mu : Nat → Nat → Int32} {h : Int64} {Q : rn_Q} {kk : Fin 4} {i : Nat} {x : Int64} (n : Nat) (hd : decode y.2.1 pc = .ok (.lload_n kk, 1)) (hi : (kk : Nat) = i) (hx : L[i]? = some (some (.long x))) (hp : pc + 1 = n) (k : rn_R X y d n L (.long x :: S) mu h Q) : rn_R X y d pc L S mu h Q := by
  subst hp
  intro p l e R s m args below meth c cells slots dC dI ad ca A Qt E F H locs ls hst hl hlen
  exact lv_lload_n E.1 E.2.1 hd hi (lc_at hl hx) (k p l e R s m args below meth c cells slots dC dI ad ca A Qt E F H locs ls hst hl hlen)
theorem rn_lload {X : Option (Nat × (Nat → Int32))} {y : ym_T} {d pc : Nat} {L : List (Option Value)} {S : List Value} {mu : Nat → Nat → Int32} {h : Int64} {Q : rn_Q} {i : Nat} {x : Int64} (n : Nat) (hd : decode y.2.1 pc = .ok (.lload i, 2)) (hx : L[i]? = some (some (.long x))) (hp : pc + 2 = n) (k : rn_R X y d n L (.long x :: S) mu h Q) : rn_R X y d pc L S mu h Q := by
  subst hp
  intro p l e R s m args below meth c cells slots dC dI ad ca A Qt E F H locs ls hst hl hlen
  exact lv_lload E.1 E.2.1 hd (lc_at hl hx) (k p l e R s m args below meth c cells slots dC dI ad ca A Qt E F H locs ls hst hl hlen)
theorem rn_aload_n {X : Option (Nat × (Nat → Int32))} {y : ym_T} {d pc : Nat} {L : List (Option Value)} {S : List Value} {mu : Nat → Nat → Int32} {h : Int64} {Q : rn_Q} {kk : Fin 4} {i : Nat} {x : Nat} (n : Nat) (hd : decode y.2.1 pc = .ok (.aload_n kk, 1)) (hi : (kk : Nat) = i) (hx : L[i]? = some (some (.ref x))) (hp : pc + 1 = n) (k : rn_R X y d n L (.ref x :: S) mu h Q) : rn_R X y d pc L S mu h Q := by
  subst hp
  intro p l e R s m args below meth c cells slots dC dI ad ca A Qt E F H locs ls hst hl hlen
  exact lv_aload_n E.1 E.2.1 hd hi (lc_at hl hx) (k p l e R s m args below meth c cells slots dC dI ad ca A Qt E F H locs ls hst hl hlen)
theorem rn_aload {X : Option (Nat × (Nat → Int32))} {y : ym_T} {d pc : Nat} {L : List (Option Value)} {S : List Value} {mu : Nat → Nat → Int32} {h : Int64} {Q : rn_Q} {i : Nat} {x : Nat} (n : Nat) (hd : decode y.2.1 pc = .ok (.aload i, 2)) (hx : L[i]? = some (some (.ref x))) (hp : pc + 2 = n) (k : rn_R X y d n L (.ref x :: S) mu h Q) : rn_R X y d pc L S mu h Q := by
  subst hp
  intro p l e R s m args below meth c cells slots dC dI ad ca A Qt E F H locs ls hst hl hlen
  exact lv_aload E.1 E.2.1 hd (lc_at hl hx) (k p l e R s m args below meth c cells slots dC dI ad ca A Qt E F H locs ls hst hl hlen)
theorem rn_istore_n {X : Option (Nat × (Nat → Int32))} {y : ym_T} {d pc : Nat} {L : List (Option Value)} {S : List Value} {mu : Nat → Nat → Int32} {h : Int64} {Q : rn_Q} {kk : Fin 4} {i : Nat} {x : Int32} (n : Nat) (L' : List (Option Value)) (hd : decode y.2.1 pc = .ok (.istore_n kk, 1)) (hi : (kk : Nat) = i) (hL : lc_1 L i (.int x) = L') (hlt : i < L.length) (hp : pc + 1 = n) (k : rn_R X y d n L' S mu h Q) : rn_R X y d pc L (.int x :: S) mu h Q := by
  subst hp; subst hL
  intro p l e R s m args below meth c cells slots dC dI ad ca A Qt E F H locs ls hst hl hlen
  exact lv_istore_n E.1 E.2.1 hd hi hl hlt rfl (fun ls' h' => k p l e R s m args below meth c cells slots dC dI ad ca A Qt E F H locs ls' hst (lc_st1 (v := .int x) hlt h') (by rw [lc_1_len]; exact hlen))
theorem rn_istore {X : Option (Nat × (Nat → Int32))} {y : ym_T} {d pc : Nat} {L : List (Option Value)} {S : List Value} {mu : Nat → Nat → Int32} {h : Int64} {Q : rn_Q} {i : Nat} {x : Int32} (n : Nat) (L' : List (Option Value)) (hd : decode y.2.1 pc = .ok (.istore i, 2)) (hL : lc_1 L i (.int x) = L') (hlt : i < L.length) (hp : pc + 2 = n) (k : rn_R X y d n L' S mu h Q) : rn_R X y d pc L (.int x :: S) mu h Q := by
  subst hp; subst hL
  intro p l e R s m args below meth c cells slots dC dI ad ca A Qt E F H locs ls hst hl hlen
  exact lv_istore E.1 E.2.1 hd hl hlt rfl (fun ls' h' => k p l e R s m args below meth c cells slots dC dI ad ca A Qt E F H locs ls' hst (lc_st1 (v := .int x) hlt h') (by rw [lc_1_len]; exact hlen))
theorem rn_lstore_n {X : Option (Nat × (Nat → Int32))} {y : ym_T} {d pc : Nat} {L : List (Option Value)} {S : List Value} {mu : Nat → Nat → Int32} {h : Int64} {Q : rn_Q} {kk : Fin 4} {i : Nat} {x : Int64} (n : Nat) (L' : List (Option Value)) (hd : decode y.2.1 pc = .ok (.lstore_n kk, 1)) (hi : (kk : Nat) = i) (hL : lc_2 L i (.long x) = L') (hlt : i + 1 < L.length) (hp : pc + 1 = n) (k : rn_R X y d n L' S mu h Q) : rn_R X y d pc L (.long x :: S) mu h Q := by
  subst hp; subst hL
  intro p l e R s m args below meth c cells slots dC dI ad ca A Qt E F H locs ls hst hl hlen
  exact lv_lstore_n E.1 E.2.1 hd hi hl hlt rfl (fun ls' h' => k p l e R s m args below meth c cells slots dC dI ad ca A Qt E F H locs ls' hst (lc_st2 (v := .long x) hlt h') (by rw [lc_2_len]; exact hlen))
theorem rn_lstore {X : Option (Nat × (Nat → Int32))} {y : ym_T} {d pc : Nat} {L : List (Option Value)} {S : List Value} {mu : Nat → Nat → Int32} {h : Int64} {Q : rn_Q} {i : Nat} {x : Int64} (n : Nat) (L' : List (Option Value)) (hd : decode y.2.1 pc = .ok (.lstore i, 2)) (hL : lc_2 L i (.long x) = L') (hlt : i + 1 < L.length) (hp : pc + 2 = n) (k : rn_R X y d n L' S mu h Q) : rn_R X y d pc L (.long x :: S) mu h Q := by
  subst hp; subst hL
  intro p l e R s m args below meth c cells slots dC dI ad ca A Qt E F H locs ls hst hl hlen
  exact lv_lstore E.1 E.2.1 hd hl hlt rfl (fun ls' h' => k p l e R s m args below meth c cells slots dC dI ad ca A Qt E F H locs ls' hst (lc_st2 (v := .long x) hlt h') (by rw [lc_2_len]; exact hlen))
theorem rn_astore_n {X : Option (Nat × (Nat → Int32))} {y : ym_T} {d pc : Nat} {L : List (Option Value)} {S : List Value} {mu : Nat → Nat → Int32} {h : Int64} {Q : rn_Q} {kk : Fin 4} {i : Nat} {x : Nat} (n : Nat) (L' : List (Option Value)) (hd : decode y.2.1 pc = .ok (.astore_n kk, 1)) (hi : (kk : Nat) = i) (hL : lc_1 L i (.ref x) = L') (hlt : i < L.length) (hp : pc + 1 = n) (k : rn_R X y d n L' S mu h Q) : rn_R X y d pc L (.ref x :: S) mu h Q := by
  subst hp; subst hL
  intro p l e R s m args below meth c cells slots dC dI ad ca A Qt E F H locs ls hst hl hlen
  exact lv_astore_n E.1 E.2.1 hd hi hl hlt rfl (fun ls' h' => k p l e R s m args below meth c cells slots dC dI ad ca A Qt E F H locs ls' hst (lc_st1 (v := .ref x) hlt h') (by rw [lc_1_len]; exact hlen))
theorem rn_astore {X : Option (Nat × (Nat → Int32))} {y : ym_T} {d pc : Nat} {L : List (Option Value)} {S : List Value} {mu : Nat → Nat → Int32} {h : Int64} {Q : rn_Q} {i : Nat} {x : Nat} (n : Nat) (L' : List (Option Value)) (hd : decode y.2.1 pc = .ok (.astore i, 2)) (hL : lc_1 L i (.ref x) = L') (hlt : i < L.length) (hp : pc + 2 = n) (k : rn_R X y d n L' S mu h Q) : rn_R X y d pc L (.ref x :: S) mu h Q := by
  subst hp; subst hL
  intro p l e R s m args below meth c cells slots dC dI ad ca A Qt E F H locs ls hst hl hlen
  exact lv_astore E.1 E.2.1 hd hl hlt rfl (fun ls' h' => k p l e R s m args below meth c cells slots dC dI ad ca A Qt E F H locs ls' hst (lc_st1 (v := .ref x) hlt h') (by rw [lc_1_len]; exact hlen))
theorem rn_iinc {X : Option (Nat × (Nat → Int32))} {y : ym_T} {d pc : Nat} {L : List (Option Value)} {S : List Value} {mu : Nat → Nat → Int32} {h : Int64} {Q : rn_Q} {i : Nat} {z : Int} {x v : Int32} (n : Nat) (L' : List (Option Value)) (hd : decode y.2.1 pc = .ok (.iinc i z, 3)) (hx : L[i]? = some (some (.int x))) (hv : x + Int32.ofInt z = v) (hL : lc_1 L i (.int v) = L') (hp : pc + 3 = n) (k : rn_R X y d n L' S mu h Q) : rn_R X y d pc L S mu h Q := by
  subst hp; subst hL
  intro p l e R s m args below meth c cells slots dC dI ad ca A Qt E F H locs ls hst hl hlen
  obtain ⟨kx, hkx⟩ := List.getElem?_of_mem (lc_p_mem (ad := ad).mpr ⟨_, hx, rfl⟩)
  have hlt : i < L.length := (List.getElem?_eq_some_iff.mp hx).1
  exact lv_iinc (k := kx) E.1 E.2.1 hd hl hkx hv hlt rfl (fun ls' h' => k p l e R s m args below meth c cells slots dC dI ad ca A Qt E F H locs ls' hst (lc_st1 (v := .int v) hlt h') (by rw [lc_1_len]; exact hlen))
theorem rn_dup {X : Option (Nat × (Nat → Int32))} {y : ym_T} {d pc : Nat} {L : List (Option Value)} {S : List Value} {mu : Nat → Nat → Int32} {h : Int64} {Q : rn_Q} {v : Value} (n : Nat) (hd : decode y.2.1 pc = .ok (.dup, 1)) (hc : v.category = 1) (hp : pc + 1 = n) (k : rn_R X y d n L (v :: v :: S) mu h Q) : rn_R X y d pc L (v :: S) mu h Q := by
  subst hp
  intro p l e R s m args below meth c cells slots dC dI ad ca A Qt E F H locs ls hst hl hlen
  exact lv_dup E.1 E.2.1 hd ((tv_cat _ _).trans hc) (k p l e R s m args below meth c cells slots dC dI ad ca A Qt E F H locs ls hst hl hlen)
theorem rn_pop {X : Option (Nat × (Nat → Int32))} {y : ym_T} {d pc : Nat} {L : List (Option Value)} {S : List Value} {mu : Nat → Nat → Int32} {h : Int64} {Q : rn_Q} {v : Value} (n : Nat) (hd : decode y.2.1 pc = .ok (.pop, 1)) (hc : v.category = 1) (hp : pc + 1 = n) (k : rn_R X y d n L (S) mu h Q) : rn_R X y d pc L (v :: S) mu h Q := by
  subst hp
  intro p l e R s m args below meth c cells slots dC dI ad ca A Qt E F H locs ls hst hl hlen
  exact lv_pop E.1 E.2.1 hd ((tv_cat _ _).trans hc) (k p l e R s m args below meth c cells slots dC dI ad ca A Qt E F H locs ls hst hl hlen)
theorem rn_dup_x1 {X : Option (Nat × (Nat → Int32))} {y : ym_T} {d pc : Nat} {L : List (Option Value)} {S : List Value} {mu : Nat → Nat → Int32} {h : Int64} {Q : rn_Q} {v w : Value} (n : Nat) (hd : decode y.2.1 pc = .ok (.dup_x1, 1)) (hc : v.category = 1) (hc2 : w.category = 1) (hp : pc + 1 = n) (k : rn_R X y d n L (v :: w :: v :: S) mu h Q) : rn_R X y d pc L (v :: w :: S) mu h Q := by
  subst hp
  intro p l e R s m args below meth c cells slots dC dI ad ca A Qt E F H locs ls hst hl hlen
  exact lv_dup_x1 E.1 E.2.1 hd ((tv_cat _ _).trans hc) ((tv_cat _ _).trans hc2) (k p l e R s m args below meth c cells slots dC dI ad ca A Qt E F H locs ls hst hl hlen)
theorem rn_dup_x2 {X : Option (Nat × (Nat → Int32))} {y : ym_T} {d pc : Nat} {L : List (Option Value)} {S : List Value} {mu : Nat → Nat → Int32} {h : Int64} {Q : rn_Q} {v w u : Value} (n : Nat) (hd : decode y.2.1 pc = .ok (.dup_x2, 1)) (hc : v.category = 1) (hc2 : w.category = 1) (hc3 : u.category = 1) (hp : pc + 1 = n) (k : rn_R X y d n L (v :: w :: u :: v :: S) mu h Q) : rn_R X y d pc L (v :: w :: u :: S) mu h Q := by
  subst hp
  intro p l e R s m args below meth c cells slots dC dI ad ca A Qt E F H locs ls hst hl hlen
  exact lv_dup_x2 E.1 E.2.1 hd ((tv_cat _ _).trans hc) ((tv_cat _ _).trans hc2) ((tv_cat _ _).trans hc3) (k p l e R s m args below meth c cells slots dC dI ad ca A Qt E F H locs ls hst hl hlen)
theorem rn_dup2_11 {X : Option (Nat × (Nat → Int32))} {y : ym_T} {d pc : Nat} {L : List (Option Value)} {S : List Value} {mu : Nat → Nat → Int32} {h : Int64} {Q : rn_Q} {v w : Value} (n : Nat) (hd : decode y.2.1 pc = .ok (.dup2, 1)) (hc : v.category = 1) (hc2 : w.category = 1) (hp : pc + 1 = n) (k : rn_R X y d n L (v :: w :: v :: w :: S) mu h Q) : rn_R X y d pc L (v :: w :: S) mu h Q := by
  subst hp
  intro p l e R s m args below meth c cells slots dC dI ad ca A Qt E F H locs ls hst hl hlen
  exact lv_dup2_11 E.1 E.2.1 hd ((tv_cat _ _).trans hc) ((tv_cat _ _).trans hc2) (k p l e R s m args below meth c cells slots dC dI ad ca A Qt E F H locs ls hst hl hlen)
theorem rn_if_eq {X : Option (Nat × (Nat → Int32))} {y : ym_T} {d pc : Nat} {L : List (Option Value)} {S : List Value} {mu : Nat → Nat → Int32} {h : Int64} {Q : rn_Q} {a : Int32} {off : Int} (tg n : Nat) (hd : decode y.2.1 pc = .ok (.ifCond .eq off, 3)) (ht : (pc : Int) + off = (tg : Int)) (hp : pc + 3 = n) (kt : a = 0 → rn_R X y d tg L S mu h Q) (kf : ¬ a = 0 → rn_R X y d n L S mu h Q) : rn_R X y d pc L (.int a :: S) mu h Q := by
  subst hp
  intro p l e R s m args below meth c cells slots dC dI ad ca A Qt E F H locs ls hst hl hlen
  exact lv_if_eq E.1 E.2.1 hd ht (fun q => kt q p l e R s m args below meth c cells slots dC dI ad ca A Qt E F H locs ls hst hl hlen) (fun q => kf q p l e R s m args below meth c cells slots dC dI ad ca A Qt E F H locs ls hst hl hlen)
theorem rn_icmp_eq {X : Option (Nat × (Nat → Int32))} {y : ym_T} {d pc : Nat} {L : List (Option Value)} {S : List Value} {mu : Nat → Nat → Int32} {h : Int64} {Q : rn_Q} {a b : Int32} {off : Int} (tg n : Nat) (hd : decode y.2.1 pc = .ok (.if_icmp .eq off, 3)) (ht : (pc : Int) + off = (tg : Int)) (hp : pc + 3 = n) (kt : a = b → rn_R X y d tg L S mu h Q) (kf : ¬ a = b → rn_R X y d n L S mu h Q) : rn_R X y d pc L (.int b :: .int a :: S) mu h Q := by
  subst hp
  intro p l e R s m args below meth c cells slots dC dI ad ca A Qt E F H locs ls hst hl hlen
  exact lv_icmp_eq E.1 E.2.1 hd ht (fun q => kt q p l e R s m args below meth c cells slots dC dI ad ca A Qt E F H locs ls hst hl hlen) (fun q => kf q p l e R s m args below meth c cells slots dC dI ad ca A Qt E F H locs ls hst hl hlen)
theorem rn_if_ne {X : Option (Nat × (Nat → Int32))} {y : ym_T} {d pc : Nat} {L : List (Option Value)} {S : List Value} {mu : Nat → Nat → Int32} {h : Int64} {Q : rn_Q} {a : Int32} {off : Int} (tg n : Nat) (hd : decode y.2.1 pc = .ok (.ifCond .ne off, 3)) (ht : (pc : Int) + off = (tg : Int)) (hp : pc + 3 = n) (kt : ¬ a = 0 → rn_R X y d tg L S mu h Q) (kf : a = 0 → rn_R X y d n L S mu h Q) : rn_R X y d pc L (.int a :: S) mu h Q := by
  subst hp
  intro p l e R s m args below meth c cells slots dC dI ad ca A Qt E F H locs ls hst hl hlen
  exact lv_if_ne E.1 E.2.1 hd ht (fun q => kt q p l e R s m args below meth c cells slots dC dI ad ca A Qt E F H locs ls hst hl hlen) (fun q => kf q p l e R s m args below meth c cells slots dC dI ad ca A Qt E F H locs ls hst hl hlen)
theorem rn_icmp_ne {X : Option (Nat × (Nat → Int32))} {y : ym_T} {d pc : Nat} {L : List (Option Value)} {S : List Value} {mu : Nat → Nat → Int32} {h : Int64} {Q : rn_Q} {a b : Int32} {off : Int} (tg n : Nat) (hd : decode y.2.1 pc = .ok (.if_icmp .ne off, 3)) (ht : (pc : Int) + off = (tg : Int)) (hp : pc + 3 = n) (kt : ¬ a = b → rn_R X y d tg L S mu h Q) (kf : a = b → rn_R X y d n L S mu h Q) : rn_R X y d pc L (.int b :: .int a :: S) mu h Q := by
  subst hp
  intro p l e R s m args below meth c cells slots dC dI ad ca A Qt E F H locs ls hst hl hlen
  exact lv_icmp_ne E.1 E.2.1 hd ht (fun q => kt q p l e R s m args below meth c cells slots dC dI ad ca A Qt E F H locs ls hst hl hlen) (fun q => kf q p l e R s m args below meth c cells slots dC dI ad ca A Qt E F H locs ls hst hl hlen)
theorem rn_if_lt {X : Option (Nat × (Nat → Int32))} {y : ym_T} {d pc : Nat} {L : List (Option Value)} {S : List Value} {mu : Nat → Nat → Int32} {h : Int64} {Q : rn_Q} {a : Int32} {off : Int} (tg n : Nat) (hd : decode y.2.1 pc = .ok (.ifCond .lt off, 3)) (ht : (pc : Int) + off = (tg : Int)) (hp : pc + 3 = n) (kt : a < 0 → rn_R X y d tg L S mu h Q) (kf : ¬ a < 0 → rn_R X y d n L S mu h Q) : rn_R X y d pc L (.int a :: S) mu h Q := by
  subst hp
  intro p l e R s m args below meth c cells slots dC dI ad ca A Qt E F H locs ls hst hl hlen
  exact lv_if_lt E.1 E.2.1 hd ht (fun q => kt q p l e R s m args below meth c cells slots dC dI ad ca A Qt E F H locs ls hst hl hlen) (fun q => kf q p l e R s m args below meth c cells slots dC dI ad ca A Qt E F H locs ls hst hl hlen)
theorem rn_icmp_lt {X : Option (Nat × (Nat → Int32))} {y : ym_T} {d pc : Nat} {L : List (Option Value)} {S : List Value} {mu : Nat → Nat → Int32} {h : Int64} {Q : rn_Q} {a b : Int32} {off : Int} (tg n : Nat) (hd : decode y.2.1 pc = .ok (.if_icmp .lt off, 3)) (ht : (pc : Int) + off = (tg : Int)) (hp : pc + 3 = n) (kt : a < b → rn_R X y d tg L S mu h Q) (kf : ¬ a < b → rn_R X y d n L S mu h Q) : rn_R X y d pc L (.int b :: .int a :: S) mu h Q := by
  subst hp
  intro p l e R s m args below meth c cells slots dC dI ad ca A Qt E F H locs ls hst hl hlen
  exact lv_icmp_lt E.1 E.2.1 hd ht (fun q => kt q p l e R s m args below meth c cells slots dC dI ad ca A Qt E F H locs ls hst hl hlen) (fun q => kf q p l e R s m args below meth c cells slots dC dI ad ca A Qt E F H locs ls hst hl hlen)
theorem rn_if_ge {X : Option (Nat × (Nat → Int32))} {y : ym_T} {d pc : Nat} {L : List (Option Value)} {S : List Value} {mu : Nat → Nat → Int32} {h : Int64} {Q : rn_Q} {a : Int32} {off : Int} (tg n : Nat) (hd : decode y.2.1 pc = .ok (.ifCond .ge off, 3)) (ht : (pc : Int) + off = (tg : Int)) (hp : pc + 3 = n) (kt : 0 ≤ a → rn_R X y d tg L S mu h Q) (kf : ¬ 0 ≤ a → rn_R X y d n L S mu h Q) : rn_R X y d pc L (.int a :: S) mu h Q := by
  subst hp
  intro p l e R s m args below meth c cells slots dC dI ad ca A Qt E F H locs ls hst hl hlen
  exact lv_if_ge E.1 E.2.1 hd ht (fun q => kt q p l e R s m args below meth c cells slots dC dI ad ca A Qt E F H locs ls hst hl hlen) (fun q => kf q p l e R s m args below meth c cells slots dC dI ad ca A Qt E F H locs ls hst hl hlen)
theorem rn_icmp_ge {X : Option (Nat × (Nat → Int32))} {y : ym_T} {d pc : Nat} {L : List (Option Value)} {S : List Value} {mu : Nat → Nat → Int32} {h : Int64} {Q : rn_Q} {a b : Int32} {off : Int} (tg n : Nat) (hd : decode y.2.1 pc = .ok (.if_icmp .ge off, 3)) (ht : (pc : Int) + off = (tg : Int)) (hp : pc + 3 = n) (kt : b ≤ a → rn_R X y d tg L S mu h Q) (kf : ¬ b ≤ a → rn_R X y d n L S mu h Q) : rn_R X y d pc L (.int b :: .int a :: S) mu h Q := by
  subst hp
  intro p l e R s m args below meth c cells slots dC dI ad ca A Qt E F H locs ls hst hl hlen
  exact lv_icmp_ge E.1 E.2.1 hd ht (fun q => kt q p l e R s m args below meth c cells slots dC dI ad ca A Qt E F H locs ls hst hl hlen) (fun q => kf q p l e R s m args below meth c cells slots dC dI ad ca A Qt E F H locs ls hst hl hlen)
theorem rn_if_gt {X : Option (Nat × (Nat → Int32))} {y : ym_T} {d pc : Nat} {L : List (Option Value)} {S : List Value} {mu : Nat → Nat → Int32} {h : Int64} {Q : rn_Q} {a : Int32} {off : Int} (tg n : Nat) (hd : decode y.2.1 pc = .ok (.ifCond .gt off, 3)) (ht : (pc : Int) + off = (tg : Int)) (hp : pc + 3 = n) (kt : 0 < a → rn_R X y d tg L S mu h Q) (kf : ¬ 0 < a → rn_R X y d n L S mu h Q) : rn_R X y d pc L (.int a :: S) mu h Q := by
  subst hp
  intro p l e R s m args below meth c cells slots dC dI ad ca A Qt E F H locs ls hst hl hlen
  exact lv_if_gt E.1 E.2.1 hd ht (fun q => kt q p l e R s m args below meth c cells slots dC dI ad ca A Qt E F H locs ls hst hl hlen) (fun q => kf q p l e R s m args below meth c cells slots dC dI ad ca A Qt E F H locs ls hst hl hlen)
theorem rn_icmp_gt {X : Option (Nat × (Nat → Int32))} {y : ym_T} {d pc : Nat} {L : List (Option Value)} {S : List Value} {mu : Nat → Nat → Int32} {h : Int64} {Q : rn_Q} {a b : Int32} {off : Int} (tg n : Nat) (hd : decode y.2.1 pc = .ok (.if_icmp .gt off, 3)) (ht : (pc : Int) + off = (tg : Int)) (hp : pc + 3 = n) (kt : b < a → rn_R X y d tg L S mu h Q) (kf : ¬ b < a → rn_R X y d n L S mu h Q) : rn_R X y d pc L (.int b :: .int a :: S) mu h Q := by
  subst hp
  intro p l e R s m args below meth c cells slots dC dI ad ca A Qt E F H locs ls hst hl hlen
  exact lv_icmp_gt E.1 E.2.1 hd ht (fun q => kt q p l e R s m args below meth c cells slots dC dI ad ca A Qt E F H locs ls hst hl hlen) (fun q => kf q p l e R s m args below meth c cells slots dC dI ad ca A Qt E F H locs ls hst hl hlen)
theorem rn_if_le {X : Option (Nat × (Nat → Int32))} {y : ym_T} {d pc : Nat} {L : List (Option Value)} {S : List Value} {mu : Nat → Nat → Int32} {h : Int64} {Q : rn_Q} {a : Int32} {off : Int} (tg n : Nat) (hd : decode y.2.1 pc = .ok (.ifCond .le off, 3)) (ht : (pc : Int) + off = (tg : Int)) (hp : pc + 3 = n) (kt : a ≤ 0 → rn_R X y d tg L S mu h Q) (kf : ¬ a ≤ 0 → rn_R X y d n L S mu h Q) : rn_R X y d pc L (.int a :: S) mu h Q := by
  subst hp
  intro p l e R s m args below meth c cells slots dC dI ad ca A Qt E F H locs ls hst hl hlen
  exact lv_if_le E.1 E.2.1 hd ht (fun q => kt q p l e R s m args below meth c cells slots dC dI ad ca A Qt E F H locs ls hst hl hlen) (fun q => kf q p l e R s m args below meth c cells slots dC dI ad ca A Qt E F H locs ls hst hl hlen)
theorem rn_icmp_le {X : Option (Nat × (Nat → Int32))} {y : ym_T} {d pc : Nat} {L : List (Option Value)} {S : List Value} {mu : Nat → Nat → Int32} {h : Int64} {Q : rn_Q} {a b : Int32} {off : Int} (tg n : Nat) (hd : decode y.2.1 pc = .ok (.if_icmp .le off, 3)) (ht : (pc : Int) + off = (tg : Int)) (hp : pc + 3 = n) (kt : a ≤ b → rn_R X y d tg L S mu h Q) (kf : ¬ a ≤ b → rn_R X y d n L S mu h Q) : rn_R X y d pc L (.int b :: .int a :: S) mu h Q := by
  subst hp
  intro p l e R s m args below meth c cells slots dC dI ad ca A Qt E F H locs ls hst hl hlen
  exact lv_icmp_le E.1 E.2.1 hd ht (fun q => kt q p l e R s m args below meth c cells slots dC dI ad ca A Qt E F H locs ls hst hl hlen) (fun q => kf q p l e R s m args below meth c cells slots dC dI ad ca A Qt E F H locs ls hst hl hlen)
theorem rn_goto {X : Option (Nat × (Nat → Int32))} {y : ym_T} {d pc : Nat} {L : List (Option Value)} {S : List Value} {mu : Nat → Nat → Int32} {h : Int64} {Q : rn_Q} {off : Int} (tg : Nat) (hd : decode y.2.1 pc = .ok (.goto off, 3)) (ht : (pc : Int) + off = (tg : Int)) (k : rn_R X y d tg L S mu h Q) : rn_R X y d pc L S mu h Q := by
  intro p l e R s m args below meth c cells slots dC dI ad ca A Qt E F H locs ls hst hl hlen
  exact lv_goto E.1 E.2.1 hd ht (k p l e R s m args below meth c cells slots dC dI ad ca A Qt E F H locs ls hst hl hlen)
theorem rn_lcmp {X : Option (Nat × (Nat → Int32))} {y : ym_T} {d pc : Nat} {L : List (Option Value)} {S : List Value} {mu : Nat → Nat → Int32} {h : Int64} {Q : rn_Q} {a b : Int64} (n : Nat) (hd : decode y.2.1 pc = .ok (.lcmp, 1)) (hp : pc + 1 = n) (k : rn_R X y d n L (.int (lg_cmp a b) :: S) mu h Q) : rn_R X y d pc L (.long b :: .long a :: S) mu h Q := by
  subst hp
  intro p l e R s m args below meth c cells slots dC dI ad ca A Qt E F H locs ls hst hl hlen
  exact W.lcmp E.1 E.2.1 hd (k p l e R s m args below meth c cells slots dC dI ad ca A Qt E F H locs ls hst hl hlen)
theorem rn_ldc2 {X : Option (Nat × (Nat → Int32))} {y : ym_T} {d pc : Nat} {L : List (Option Value)} {S : List Value} {mu : Nat → Nat → Int32} {h : Int64} {Q : rn_Q} {idx : Nat} {v : Int64} (n : Nat) (hd : decode y.2.1 pc = .ok (.ldc2_w idx, 3)) (hw : Cond.constantLong y.1.cls idx v ∈ ly_G) (hp : pc + 3 = n) (k : rn_R X y d n L (.long v :: S) mu h Q) : rn_R X y d pc L S mu h Q := by
  subst hp
  intro p l e R s m args below meth c cells slots dC dI ad ca A Qt E F H locs ls hst hl hlen
  exact lv_ldc2 E.1 E.2.1 E.2.2.2.2.1 (E.2.2.2.2.2.1 _ hw) hd (k p l e R s m args below meth c cells slots dC dI ad ca A Qt E F H locs ls hst hl hlen)
theorem rn_ldc {X : Option (Nat × (Nat → Int32))} {y : ym_T} {d pc : Nat} {L : List (Option Value)} {S : List Value} {mu : Nat → Nat → Int32} {h : Int64} {Q : rn_Q} {idx : Nat} {v : Int32} (n : Nat) (hd : decode y.2.1 pc = .ok (.ldc idx, 2)) (hw : Cond.constant y.1.cls idx v ∈ ly_G) (hp : pc + 2 = n) (k : rn_R X y d n L (.int v :: S) mu h Q) : rn_R X y d pc L S mu h Q := by
  subst hp
  intro p l e R s m args below meth c cells slots dC dI ad ca A Qt E F H locs ls hst hl hlen
  exact lv_ldc E.1 E.2.1 E.2.2.2.2.1 (E.2.2.2.2.2.1 _ hw) hd (k p l e R s m args below meth c cells slots dC dI ad ca A Qt E F H locs ls hst hl hlen)
theorem rn_tableOut {X : Option (Nat × (Nat → Int32))} {y : ym_T} {d pc : Nat} {L : List (Option Value)} {S : List Value} {mu : Nat → Nat → Int32} {h : Int64} {Q : rn_Q} {dflt lo hi : Int} {offs : Array Int} {len : Nat} {a : Int32} (tg : Nat) (hd : decode y.2.1 pc = .ok (.tableswitch dflt lo hi offs, len)) (hx : a.toInt < lo ∨ hi < a.toInt) (ht : (pc : Int) + dflt = (tg : Int)) (k : rn_R X y d tg L S mu h Q) : rn_R X y d pc L (.int a :: S) mu h Q := by
  intro p l e R s m args below meth c cells slots dC dI ad ca A Qt E F H locs ls hst hl hlen
  exact lv_tableOut E.1 E.2.1 hd hx ht (k p l e R s m args below meth c cells slots dC dI ad ca A Qt E F H locs ls hst hl hlen)
theorem rn_tableIn {X : Option (Nat × (Nat → Int32))} {y : ym_T} {d pc : Nat} {L : List (Option Value)} {S : List Value} {mu : Nat → Nat → Int32} {h : Int64} {Q : rn_Q} {dflt lo hi off : Int} {offs : Array Int} {len : Nat} {a : Int32} (tg : Nat) (hd : decode y.2.1 pc = .ok (.tableswitch dflt lo hi offs, len)) (h1 : ¬ a.toInt < lo) (h2 : ¬ hi < a.toInt) (ho : offs[(a.toInt - lo).toNat]? = some off) (ht : (pc : Int) + off = (tg : Int)) (k : rn_R X y d tg L S mu h Q) : rn_R X y d pc L (.int a :: S) mu h Q := by
  intro p l e R s m args below meth c cells slots dC dI ad ca A Qt E F H locs ls hst hl hlen
  exact lv_tableIn E.1 E.2.1 hd h1 h2 ho ht (k p l e R s m args below meth c cells slots dC dI ad ca A Qt E F H locs ls hst hl hlen)
theorem rn_get {X : Option (Nat × (Nat → Int32))} {y : ym_T} {d pc : Nat} {L : List (Option Value)} {S : List Value} {mu : Nat → Nat → Int32} {h : Int64} {Q : rn_Q} {i ci j idx : Nat} {fs : List ly_F} {f : ly_F} (n : Nat) (v : Value) (hd : decode y.2.1 pc = .ok (.getfield idx, 3)) (hf : fl_ok y.1.cls idx ci j) (hi : ly_L[i]? = some (.inr (ci, fs))) (hj : fs[j]? = some f) (hv : ly_av h (mu i) j f = v) (hp : pc + 3 = n) (k : rn_R X y d n L (v :: S) mu h Q) : rn_R X y d pc L (.ref i :: S) mu h Q := by
  subst hp; subst hv
  intro p l e R s m args below meth c cells slots dC dI ad ca A Qt E F H locs ls hst hl hlen
  obtain ⟨C, T, N, hC, hjN, hin, hlk⟩ := hf
  have hfj : (fs.mapIdx (fun j f => ly_fv ad h (mu i) j f))[j]? = some (tv_v ad (ly_av h (mu i) j f)) := by
    rw [List.getElem?_mapIdx, hj, ← ly_fv_av]; rfl
  rcases hlk with hlk | ⟨host, hlk⟩
  · exact va_get E.1 E.2.1 E.2.2.2.2.2.1 hin E.2.2.2.2.1 E.2.2.2.2.2.2.1.1 hst.1 i (ly_at hi) hC j hjN (E.2.2.2.2.2.1 _ hlk) (fun _ h => h) hfj hd (k p l e R s m args below meth c cells slots dC dI ad ca A Qt E F H locs ls hst hl hlen)
  · exact va_getN E.1 E.2.1 E.2.2.2.2.2.1 hin E.2.2.2.2.1 E.2.2.2.2.2.2.1.1 hst.1 i (ly_at hi) hC j hjN ((E.2.2.2.2.2.2.1.2.1 _ hlk).2.use rfl) (fun _ h => h) hfj hd (k p l e R s m args below meth c cells slots dC dI ad ca A Qt E F H locs ls hst hl hlen)
theorem ly_w_obj {ad : Nat → Nat} {ca : Nat → ClassId} {mu : Nat → Nat → Int32} {h : Int64} {i j ci : Nat} {fs : List ly_F} (hi : ly_L[i]? = some (.inr (ci, fs))) (hj : fs[j]? = some none) (v : Int32) : (ly_w ad ca mu h).set i (ad i, .inr (ci, (fs.mapIdx (fun j f => ly_fv ad h (mu i) j f)).set j (.int v))) = ly_w ad ca (mu_s mu i j v) h := by
  rw [ly_obj_set hj, mu_s_r, ← ly_w_setr hi]
  simp [ly_e, mu_r_in]
theorem rn_put {X : Option (Nat × (Nat → Int32))} {y : ym_T} {d pc : Nat} {L : List (Option Value)} {S : List Value} {mu : Nat → Nat → Int32} {h : Int64} {Q : rn_Q} {i ci j idx : Nat} {fs : List ly_F} {v : Int32} {ty : FieldType} (n : Nat) (hd : decode y.2.1 pc = .ok (.putfield idx, 3)) (hf : fp_ok y.1.cls idx ci j ty) (hi : ly_L[i]? = some (.inr (ci, fs))) (hj : fs[j]? = some none) (hnar : narrow ty (.int v) = .int v) (hfit : fits ty (.int v) = true) (hp : pc + 3 = n) (k : rn_R X y d n L S (mu_s mu i j v) h Q) : rn_R X y d pc L (.int v :: .ref i :: S) mu h Q := by
  subst hp
  intro p l e R s m args below meth c cells slots dC dI ad ca A Qt E F H locs ls hst hl hlen
  obtain ⟨C, T, N, ty0, hC, hjN, hin, hlk, hty, hnm, hfin, hdty⟩ := hf
  have hfl : j < (fs.mapIdx (fun j f => ly_fv ad h (mu i) j f)).length := by simpa using (List.getElem?_eq_some_iff.mp hj).1
  have kk : ∀ (H1 : Heap) (locs1 : List Loc), va_P (dC, dI) ly_C ((ly_w ad ca mu h).set i (ad i, .inr (ci, (fs.mapIdx (fun j f => ly_fv ad h (mu i) j f)).set j (.int v)))) H1 → va_D A ((ly_w ad ca mu h).set i (ad i, .inr (ci, (fs.mapIdx (fun j f => ly_fv ad h (mu i) j f)).set j (.int v)))) → va_S A s.heap H1 locs1 → W p l e R s m args below meth c H1 locs1 cells slots Qt (F0 m (pc + 3) ls (S.map (tv_v ad))) := by
    intro H1 locs1 q1 q2 q3
    rw [ly_w_obj hi hj] at q1 q2
    exact k p l e R s m args below meth c cells slots dC dI ad ca A Qt E F H1 locs1 ls ⟨q1, q2, q3⟩ hl hlen
  rcases hlk with hlk | ⟨host, hlk⟩
  · exact va_put E.1 E.2.1 E.2.2.2.2.2.1 hin ty0 hty hnm E.2.2.2.2.1 E.2.2.2.2.2.2.1.1 hst.1 hst.2.1 hst.2.2 i (ly_at hi) hC j hjN (E.2.2.2.2.2.1 _ hlk) (fun _ h => h) hfin hdty hnar hfit hfl hd kk
  · exact va_putN E.1 E.2.1 E.2.2.2.2.2.1 hin ty0 hty hnm E.2.2.2.2.1 E.2.2.2.2.2.2.1.1 hst.1 hst.2.1 hst.2.2 i (ly_at hi) hC j hjN ((E.2.2.2.2.2.2.1.2.1 _ hlk).2.use rfl) (fun _ h => h) hfin hdty hnar hfit hfl hd kk
/-- the one long: no other field is long -/
def ly_1 (i j : Nat) : Prop := ∀ (i2 ci2 : Nat) (fs2 : List ly_F) (j2 : Nat), ly_L[i2]? = some (.inr (ci2, fs2)) → fs2[j2]? = some (some none) → i2 = i ∧ j2 = j
theorem ly_w_long {ad : Nat → Nat} {ca : Nat → ClassId} {mu : Nat → Nat → Int32} {h : Int64} {i j ci : Nat} {fs : List ly_F} (hi : ly_L[i]? = some (.inr (ci, fs))) (hj : fs[j]? = some (some none)) (h1 : ly_1 i j) (v : Int64) : (ly_w ad ca mu h).set i (ad i, .inr (ci, (fs.mapIdx (fun j f => ly_fv ad h (mu i) j f)).set j (.long v))) = ly_w ad ca mu v := by
  apply List.ext_getElem?
  intro k
  by_cases hk : k = i
  · subst hk
    have hl : k < (ly_w ad ca mu h).length := (List.getElem?_eq_some_iff.mp (ly_at hi)).1
    rw [List.getElem?_set_self hl, ly_at hi]
    simp only [ly_e]
    congr 4
    apply List.ext_getElem?
    intro q
    by_cases hq : q = j
    · subst hq
      have hl2 : q < (fs.mapIdx (fun j f => ly_fv ad h (mu k) j f)).length := by simpa using (List.getElem?_eq_some_iff.mp hj).1
      rw [List.getElem?_set_self hl2]
      simp [List.getElem?_mapIdx, hj, ly_fv]
    · rw [List.getElem?_set_ne (Ne.symm hq)]
      simp only [List.getElem?_mapIdx]
      cases hz : fs[q]? with
      | none => rfl
      | some z =>
        cases z with
        | none => rfl
        | some g =>
          cases g with
          | none => exact absurd (h1 k ci fs q hi hz).2 hq
          | some _ => rfl
  · rw [List.getElem?_set_ne (Ne.symm hk)]
    simp only [ly_w, List.getElem?_mapIdx]
    cases hz : ly_L[k]? with
    | none => rfl
    | some z =>
      cases z with
      | inl a => rfl
      | inr o =>
        simp only [ly_e, Option.map_some, Option.some.injEq, Prod.mk.injEq, true_and, Sum.inr.injEq]
        apply List.ext_getElem?
        intro q
        simp only [List.getElem?_mapIdx]
        cases hz2 : o.2[q]? with
        | none => rfl
        | some w =>
          cases w with
          | none => rfl
          | some g =>
            cases g with
            | none => exact absurd (h1 k o.1 o.2 q hz hz2).1 hk
            | some _ => rfl
theorem rn_putl {X : Option (Nat × (Nat → Int32))} {y : ym_T} {d pc : Nat} {L : List (Option Value)} {S : List Value} {mu : Nat → Nat → Int32} {h : Int64} {Q : rn_Q} {i ci j idx : Nat} {fs : List ly_F} {v : Int64} (n : Nat) (hd : decode y.2.1 pc = .ok (.putfield idx, 3)) (hf : fp_ok y.1.cls idx ci j .long) (hi : ly_L[i]? = some (.inr (ci, fs))) (hj : fs[j]? = some (some none)) (h1 : ly_1 i j) (hp : pc + 3 = n) (k : rn_R X y d n L S mu v Q) : rn_R X y d pc L (.long v :: .ref i :: S) mu h Q := by
  subst hp
  intro p l e R s m args below meth c cells slots dC dI ad ca A Qt E F H locs ls hst hl hlen
  have hnar : narrow .long (.long v) = .long v := rfl
  have hfit : fits .long (.long v) = true := rfl
  obtain ⟨C, T, N, ty0, hC, hjN, hin, hlk, hty, hnm, hfin, hdty⟩ := hf
  have hfl : j < (fs.mapIdx (fun j f => ly_fv ad h (mu i) j f)).length := by simpa using (List.getElem?_eq_some_iff.mp hj).1
  have kk : ∀ (H1 : Heap) (locs1 : List Loc), va_P (dC, dI) ly_C ((ly_w ad ca mu h).set i (ad i, .inr (ci, (fs.mapIdx (fun j f => ly_fv ad h (mu i) j f)).set j (.long v)))) H1 → va_D A ((ly_w ad ca mu h).set i (ad i, .inr (ci, (fs.mapIdx (fun j f => ly_fv ad h (mu i) j f)).set j (.long v)))) → va_S A s.heap H1 locs1 → W p l e R s m args below meth c H1 locs1 cells slots Qt (F0 m (pc + 3) ls (S.map (tv_v ad))) := by
    intro H1 locs1 q1 q2 q3
    rw [ly_w_long hi hj h1] at q1 q2
    exact k p l e R s m args below meth c cells slots dC dI ad ca A Qt E F H1 locs1 ls ⟨q1, q2, q3⟩ hl hlen
  rcases hlk with hlk | ⟨host, hlk⟩
  · exact va_put E.1 E.2.1 E.2.2.2.2.2.1 hin ty0 hty hnm E.2.2.2.2.1 E.2.2.2.2.2.2.1.1 hst.1 hst.2.1 hst.2.2 i (ly_at hi) hC j hjN (E.2.2.2.2.2.1 _ hlk) (fun _ h => h) hfin hdty hnar hfit hfl hd kk
  · exact va_putN E.1 E.2.1 E.2.2.2.2.2.1 hin ty0 hty hnm E.2.2.2.2.1 E.2.2.2.2.2.2.1.1 hst.1 hst.2.1 hst.2.2 i (ly_at hi) hC j hjN ((E.2.2.2.2.2.2.1.2.1 _ hlk).2.use rfl) (fun _ h => h) hfin hdty hnar hfit hfl hd kk
theorem rn_iald {X : Option (Nat × (Nat → Int32))} {y : ym_T} {d pc : Nat} {L : List (Option Value)} {S : List Value} {mu : Nat → Nat → Int32} {h : Int64} {Q : rn_Q} {i len : Nat} {x : Int32} (n : Nat) (v : Int32) (hd : decode y.2.1 pc = .ok (.iaload, 1)) (hi : ly_L[i]? = some (.inl (0, len))) (hin : vp_in x len) (hv : mu i x.toNatClampNeg = v) (hp : pc + 1 = n) (k : rn_R X y d n L (.int v :: S) mu h Q) : rn_R X y d pc L (.int x :: .ref i :: S) mu h Q := by
  subst hp; subst hv
  intro p l e R s m args below meth c cells slots dC dI ad ca A Qt E F H locs ls hst hl hlen
  exact va_iald E.1 E.2.1 E.2.2.2.2.2.2.1.1 hst.1 i 0 (ly_at hi) rfl hin hd (k p l e R s m args below meth c cells slots dC dI ad ca A Qt E F H locs ls hst hl hlen)
theorem rn_bald {X : Option (Nat × (Nat → Int32))} {y : ym_T} {d pc : Nat} {L : List (Option Value)} {S : List Value} {mu : Nat → Nat → Int32} {h : Int64} {Q : rn_Q} {i len : Nat} {x : Int32} (n : Nat) (v : Int32) (hd : decode y.2.1 pc = .ok (.baload, 1)) (hi : ly_L[i]? = some (.inl (1, len))) (hin : vp_in x len) (hv : mu i x.toNatClampNeg = v) (hp : pc + 1 = n) (k : rn_R X y d n L (.int v :: S) mu h Q) : rn_R X y d pc L (.int x :: .ref i :: S) mu h Q := by
  subst hp; subst hv
  intro p l e R s m args below meth c cells slots dC dI ad ca A Qt E F H locs ls hst hl hlen
  exact va_bald E.1 E.2.1 E.2.2.2.2.2.2.1.1 hst.1 i 1 (ly_at hi) rfl hin hd (k p l e R s m args below meth c cells slots dC dI ad ca A Qt E F H locs ls hst hl hlen)
theorem rn_iast {X : Option (Nat × (Nat → Int32))} {y : ym_T} {d pc : Nat} {L : List (Option Value)} {S : List Value} {mu : Nat → Nat → Int32} {h : Int64} {Q : rn_Q} {i len : Nat} {x v : Int32} (n : Nat) (hd : decode y.2.1 pc = .ok (.iastore, 1)) (hi : ly_L[i]? = some (.inl (0, len))) (hin : vp_in x len) (hp : pc + 1 = n) (k : rn_R X y d n L S (mu_s mu i x.toNatClampNeg v) h Q) : rn_R X y d pc L (.int v :: .int x :: .ref i :: S) mu h Q := by
  subst hp
  intro p l e R s m args below meth c cells slots dC dI ad ca A Qt E F H locs ls hst hl hlen
  have eW : (ly_w ad ca mu h).set i (ad i, .inl (ca 0, len, .inl (upd (mu i) x.toNatClampNeg v))) = ly_w ad ca (mu_s mu i x.toNatClampNeg v) h := by
    rw [mu_s_r, ← ly_w_setr hi]
    simp [ly_e, mu_r_in]
  exact va_iast E.1 E.2.1 E.2.2.2.2.2.2.1.1 hst.1 hst.2.1 hst.2.2 i 0 (ly_at hi) rfl hin hd (fun H1 locs1 q1 q2 q3 => k p l e R s m args below meth c cells slots dC dI ad ca A Qt E F H1 locs1 ls ⟨eW ▸ q1, eW ▸ q2, q3⟩ hl hlen)
theorem rn_bast {X : Option (Nat × (Nat → Int32))} {y : ym_T} {d pc : Nat} {L : List (Option Value)} {S : List Value} {mu : Nat → Nat → Int32} {h : Int64} {Q : rn_Q} {i len : Nat} {x v : Int32} (n : Nat) (hd : decode y.2.1 pc = .ok (.bastore, 1)) (hi : ly_L[i]? = some (.inl (1, len))) (hin : vp_in x len) (hp : pc + 1 = n) (k : rn_R X y d n L S (mu_s mu i x.toNatClampNeg (vp_nar .byte v)) h Q) : rn_R X y d pc L (.int v :: .int x :: .ref i :: S) mu h Q := by
  subst hp
  intro p l e R s m args below meth c cells slots dC dI ad ca A Qt E F H locs ls hst hl hlen
  have eW : (ly_w ad ca mu h).set i (ad i, .inl (ca 1, len, .inl (upd (mu i) x.toNatClampNeg (vp_nar .byte v)))) = ly_w ad ca (mu_s mu i x.toNatClampNeg (vp_nar .byte v)) h := by
    rw [mu_s_r, ← ly_w_setr hi]
    simp [ly_e, mu_r_in]
  exact va_bast E.1 E.2.1 E.2.2.2.2.2.2.1.1 hst.1 hst.2.1 hst.2.2 i 1 (ly_at hi) rfl hin hd (fun H1 locs1 q1 q2 q3 => k p l e R s m args below meth c cells slots dC dI ad ca A Qt E F H1 locs1 ls ⟨eW ▸ q1, eW ▸ q2, q3⟩ hl hlen)
theorem rn_alen {X : Option (Nat × (Nat → Int32))} {y : ym_T} {d pc : Nat} {L : List (Option Value)} {S : List Value} {mu : Nat → Nat → Int32} {h : Int64} {Q : rn_Q} {i len t0 : Nat} {ty : FieldType} (n : Nat) (v : Int32) (hd : decode y.2.1 pc = .ok (.arraylength, 1)) (hi : ly_L[i]? = some (.inl (t0, len))) (ht : t0 = 0 ∨ t0 = 1) (hv : Int32.ofNat len = v) (hp : pc + 1 = n) (k : rn_R X y d n L (.int v :: S) mu h Q) : rn_R X y d pc L (.ref i :: S) mu h Q := by
  subst hp
  intro p l e R s m args below meth c cells slots dC dI ad ca A Qt E F H locs ls hst hl hlen
  rcases ht with rfl | rfl
  · exact va_alen E.1 E.2.1 E.2.2.2.2.2.2.1.1 hst.1 i 0 (ly_at hi) rfl hv hd (k p l e R s m args below meth c cells slots dC dI ad ca A Qt E F H locs ls hst hl hlen)
  · exact va_alen E.1 E.2.1 E.2.2.2.2.2.2.1.1 hst.1 i 1 (ly_at hi) rfl hv hd (k p l e R s m args below meth c cells slots dC dI ad ca A Qt E F H locs ls hst hl hlen)
theorem rn_copyi {X : Option (Nat × (Nat → Int32))} {y : ym_T} {d pc : Nat} {L : List (Option Value)} {S : List Value} {mu : Nat → Nat → Int32} {h : Int64} {Q : rn_Q} {i1 i2 len1 len2 idx : Nat} {sp dp cnt : Int32} (n : Nat) (hd : decode y.2.1 pc = .ok (.invokestatic idx, 3)) (hlk : Cond.methodLink y.1.cls idx arraycopyName ∈ ly_G) (hi1 : ly_L[i1]? = some (.inl (0, len1))) (hi2 : ly_L[i2]? = some (.inl (0, len2))) (h1 : ¬ sp < 0) (h2 : ¬ dp < 0) (h3 : ¬ cnt < 0) (h4 : sp.toNatClampNeg + cnt.toNatClampNeg ≤ len1) (h5 : dp.toNatClampNeg + cnt.toNatClampNeg ≤ len2) (hcat : (S.map fun v => v.category).sum ≤ 8) (hp : pc + 3 = n) (k : rn_R X y (d + 1) n L S (mu_r mu i2 (va_cpy (mu i1) (mu i2) sp.toNatClampNeg dp.toNatClampNeg cnt.toNatClampNeg)) h Q) : rn_R X y (d + 1) pc L (.int cnt :: .int dp :: .ref i2 :: .int sp :: .ref i1 :: S) mu h Q := by
  subst hp
  intro p l e R s m args below meth c cells slots dC dI ad ca A Qt E F H locs ls hst hl hlen
  have eW : (ly_w ad ca mu h).set i2 (ad i2, .inl (ca 0, len2, .inl (va_cpy (mu i1) (mu i2) sp.toNatClampNeg dp.toNatClampNeg cnt.toNatClampNeg))) = ly_w ad ca (mu_r mu i2 (va_cpy (mu i1) (mu i2) sp.toNatClampNeg dp.toNatClampNeg cnt.toNatClampNeg)) h := by
    rw [← ly_w_setr hi2]
    simp [ly_e, mu_r_in]
  have hts := E.2.2.2.2.2.1
  have hR := E.2.2.2.2.2.2.2.1
  have hnw : nativeFrameWords "java/lang/System" "arraycopy" 5 + 11 ≤ 30 := by decide +kernel
  exact va_copyi E.1 E.2.1 (by rw [E.2.2.1, hl.1, hlen]) E.2.2.2.2.1 (hts _ hlk) (hts _ ly_copy.1) (hts _ ly_copy.2.1) (hts _ ly_copy.2.2) E.2.2.2.2.2.2.1.1 hst.1 hst.2.1 hst.2.2 i1 i2 0 0 (ly_at hi1) (ly_at hi2) rfl rfl rfl h1 h2 h3 h4 h5 (fun _ _ => rfl) (by omega) (by rw [tv_catsum]; omega) hd (fun H1 locs1 q1 q2 q3 => k p l e R s m args below meth c cells slots dC dI ad ca A Qt E F H1 locs1 ls ⟨eW ▸ q1, eW ▸ q2, q3⟩ hl hlen)
theorem rn_gets {X : Option (Nat × (Nat → Int32))} {y : ym_T} {d pc : Nat} {L : List (Option Value)} {S : List Value} {mu : Nat → Nat → Int32} {h : Int64} {Q : rn_Q} {idx : Nat} {z : Nat × String × String × String × Nat × (Nat → Int32)} (n : Nat) (hd : decode y.2.1 pc = .ok (.getstatic idx, 3)) (hz : z ∈ ly_Z) (hlk : Cond.fieldLink y.1.cls idx z.2.1 z.2.2.1 z.2.2.2.1 ∈ ly_G) (hp : pc + 3 = n) (k : rn_R X y d n L (.ref z.1 :: S) mu h Q) : rn_R X y d pc L S mu h Q := by
  subst hp
  intro p l e R s m args below meth c cells slots dC dI ad ca A Qt E F H locs ls hst hl hlen
  exact va_gets E.1 E.2.1 (E.2.2.2.2.2.2.1.2.2 z hz).1 hst.2.2 E.2.2.2.2.1 (E.2.2.2.2.2.1 _ hlk) (fun _ h => h) hd (k p l e R s m args below meth c cells slots dC dI ad ca A Qt E F H locs ls hst hl hlen)
theorem rn_ti {X : Option (Nat × (Nat → Int32))} {y : ym_T} {d pc : Nat} {L : List (Option Value)} {S : List Value} {mu : Nat → Nat → Int32} {h : Int64} {Q : rn_Q} {z : Nat × String × String × String × Nat × (Nat → Int32)} {x : Int32} (n : Nat) (v : Int32) (hd : decode y.2.1 pc = .ok (.iaload, 1)) (hz : z ∈ ly_Z) (hin : vp_in x z.2.2.2.2.1) (hv : z.2.2.2.2.2 x.toNatClampNeg = v) (hp : pc + 1 = n) (k : rn_R X y d n L (.int v :: S) mu h Q) : rn_R X y d pc L (.int x :: .ref z.1 :: S) mu h Q := by
  subst hp; subst hv
  intro p l e R s m args below meth c cells slots dC dI ad ca A Qt E F H locs ls hst hl hlen
  exact va_ti E.1 E.2.1 (E.2.2.2.2.2.2.1.2.2 z hz).2 hst.2.2 hin rfl hd (k p l e R s m args below meth c cells slots dC dI ad ca A Qt E F H locs ls hst hl hlen)
theorem rn_sld {y : ym_T} {d pc : Nat} {L : List (Option Value)} {S : List Value} {mu : Nat → Nat → Int32} {h : Int64} {Q : rn_Q} {x : Int32} {len : Nat} {xs : Nat → Int32} (n : Nat) (v : Int32) (hd : decode y.2.1 pc = .ok (.iaload, 1)) (hin : vp_in x len) (hv : xs x.toNatClampNeg = v) (hp : pc + 1 = n) (k : rn_R (some (len, xs)) y d n L (.int v :: S) mu h Q) : rn_R (some (len, xs)) y d pc L (.int x :: .ref 99 :: S) mu h Q := by
  subst hp; subst hv
  intro p l e R s m args below meth c cells slots dC dI ad ca A Qt E F H locs ls hst hl hlen
  obtain ⟨q1, q2, q3⟩ := E.2.2.2.2.2.2.2.2.2
  exact va_sld E.1 E.2.1 q1 q2 q3 hst.2.2 hin hd (k p l e R s m args below meth c cells slots dC dI ad ca A Qt E F H locs ls hst hl hlen)
theorem rn_slen {y : ym_T} {d pc : Nat} {L : List (Option Value)} {S : List Value} {mu : Nat → Nat → Int32} {h : Int64} {Q : rn_Q} {len : Nat} {xs : Nat → Int32} (n : Nat) (v : Int32) (hd : decode y.2.1 pc = .ok (.arraylength, 1)) (hv : Int32.ofNat len = v) (hp : pc + 1 = n) (k : rn_R (some (len, xs)) y d n L (.int v :: S) mu h Q) : rn_R (some (len, xs)) y d pc L (.ref 99 :: S) mu h Q := by
  subst hp; subst hv
  intro p l e R s m args below meth c cells slots dC dI ad ca A Qt E F H locs ls hst hl hlen
  obtain ⟨q1, q2, q3⟩ := E.2.2.2.2.2.2.2.2.2
  exact va_slen E.1 E.2.1 q1 q2 q3 hst.2.2 hd (k p l e R s m args below meth c cells slots dC dI ad ca A Qt E F H locs ls hst hl hlen)
theorem rn_iret {X : Option (Nat × (Nat → Int32))} {y : ym_T} {d pc : Nat} {L : List (Option Value)} {mu : Nat → Nat → Int32} {h : Int64} {Q : rn_Q} {v : Int32} (hr : y.2.2.2 = some .int) (hd : decode y.2.1 pc = .ok (.ireturn, 1)) (hQ : Q (some (.int v)) mu h) : rn_R X y d pc L [.int v] mu h Q := by
  intro p l e R s m args below meth c cells slots dC dI ad ca A Qt E F H locs ls hst hl hlen
  exact F (some (.int v)) mu h H locs pc ls hQ (by rw [hr]; trivial) hst (by rw [hr]; exact hd)
theorem rn_lret {X : Option (Nat × (Nat → Int32))} {y : ym_T} {d pc : Nat} {L : List (Option Value)} {mu : Nat → Nat → Int32} {h : Int64} {Q : rn_Q} {v : Int64} (hr : y.2.2.2 = some .long) (hd : decode y.2.1 pc = .ok (.lreturn, 1)) (hQ : Q (some (.long v)) mu h) : rn_R X y d pc L [.long v] mu h Q := by
  intro p l e R s m args below meth c cells slots dC dI ad ca A Qt E F H locs ls hst hl hlen
  exact F (some (.long v)) mu h H locs pc ls hQ (by rw [hr]; trivial) hst (by rw [hr]; exact hd)
theorem rn_zret {X : Option (Nat × (Nat → Int32))} {y : ym_T} {d pc : Nat} {L : List (Option Value)} {mu : Nat → Nat → Int32} {h : Int64} {Q : rn_Q} {v : Int32} (hr : y.2.2.2 = some .boolean) (hd : decode y.2.1 pc = .ok (.ireturn, 1)) (hz : narrow .boolean (.int v) = .int v) (hQ : Q (some (.int v)) mu h) : rn_R X y d pc L [.int v] mu h Q := by
  intro p l e R s m args below meth c cells slots dC dI ad ca A Qt E F H locs ls hst hl hlen
  exact F (some (.int v)) mu h H locs pc ls hQ (by rw [hr]; exact hz) hst (by rw [hr]; exact hd)
theorem rn_vret {X : Option (Nat × (Nat → Int32))} {y : ym_T} {d pc : Nat} {L : List (Option Value)} {mu : Nat → Nat → Int32} {h : Int64} {Q : rn_Q} (hr : y.2.2.2 = none) (hd : decode y.2.1 pc = .ok (.return_, 1)) (hQ : Q none mu h) : rn_R X y d pc L [] mu h Q := by
  intro p l e R s m args below meth c cells slots dC dI ad ca A Qt E F H locs ls hst hl hlen
  exact F none mu h H locs pc ls hQ (by rw [hr]; trivial) hst (by rw [hr]; exact hd)
end
section
/-! BASE: the answer that changes nothing; numbers -/
def pq (v : Option Value) (mu : Nat → Nat → Int32) (h : Int64) : rn_Q := fun r mu' h' => r = v ∧ mu' = mu ∧ h' = h
def isin (v : Int32) (n : Nat) : Prop := ∃ a, a < n ∧ v = nI a
theorem isin_of {v : Int32} {n : Nat} (hn : n < 2 ^ 31) (h0 : ¬ v < 0) (h1 : ¬ nI n ≤ v) : isin v n := by
  rcases pk_ix v hn with h | h | ⟨j, h, e⟩
  · exact absurd h h0
  · exact absurd h h1
  · exact ⟨j, h, e⟩
theorem isin_of' {v : Int32} {n : Nat} (hn : n + 1 < 2 ^ 31) (h0 : ¬ v < 0) (h1 : ¬ nI n < v) : isin v (n + 1) := by
  refine isin_of hn h0 (fun h => h1 ?_)
  have h2 : nI n < nI (n + 1) := nI_lt (Nat.lt_succ_self n) hn
  exact Int32.lt_of_lt_of_le h2 h
theorem rn_cvp {X : Option (Nat × (Nat → Int32))} {y : ym_T} {d pc : Nat} {L : List (Option Value)} {mu : Nat → Nat → Int32} {h : Int64} {Q : rn_Q} (y1 : ym_T) (As S : List Value) {S0 : List Value} {i ci n idx : Nat} {fs : List ly_F} (n' : Nat) (v : Value) (hd : decode y.2.1 pc = .ok (.invokevirtual idx, 3)) (hc : cv_ok y.1.cls idx y1 ci n) (hi : ly_L[i]? = some (.inr (ci, fs))) (hS0 : S0 = As.reverse ++ .ref i :: S) (hn : As.length = n) (hcat : (S.map fun v => v.category).sum ≤ 8) (hp : pc + 3 = n') (hG : gd_G y1 d (.ref i :: As) mu h (pq (some v) mu h)) (k : rn_R X y (d + 1) n' L (v :: S) mu h Q) : rn_R X y (d + 1) pc L S0 mu h Q := by
  subst hp
  refine rn_callV y1 As S hd hc hi hS0 hn hcat hG (fun r mu' h' q _ => ?_)
  obtain ⟨q1, q2, q3⟩ := q
  subst q1; subst q2; subst q3
  exact k
theorem rn_csp {X : Option (Nat × (Nat → Int32))} {y : ym_T} {d pc : Nat} {L : List (Option Value)} {mu : Nat → Nat → Int32} {h : Int64} {Q : rn_Q} (y1 : ym_T) (As S : List Value) {S0 : List Value} {n idx : Nat} (n' : Nat) (v : Value) (hd : decode y.2.1 pc = .ok (.invokestatic idx, 3)) (hc : cs_ok y.1.cls idx y1 n) (hS0 : S0 = As.reverse ++ S) (hn : As.length = n) (hcat : (S.map fun v => v.category).sum ≤ 8) (hp : pc + 3 = n') (hG : gd_G y1 d As mu h (pq (some v) mu h)) (k : rn_R X y (d + 1) n' L (v :: S) mu h Q) : rn_R X y (d + 1) pc L S0 mu h Q := by
  subst hp
  refine rn_callS y1 As S hd hc hS0 hn hcat hG (fun r mu' h' q _ => ?_)
  obtain ⟨q1, q2, q3⟩ := q
  subst q1; subst q2; subst q3
  exact k
/-- a call that ends in a known memory -/
theorem rn_cvm {X : Option (Nat × (Nat → Int32))} {y : ym_T} {d pc : Nat} {L : List (Option Value)} {mu : Nat → Nat → Int32} {h : Int64} {Q : rn_Q} (y1 : ym_T) (As S : List Value) {S0 : List Value} {i ci n idx : Nat} {fs : List ly_F} (n' : Nat) (v : Option Value) (mu1 : Nat → Nat → Int32) (hd : decode y.2.1 pc = .ok (.invokevirtual idx, 3)) (hc : cv_ok y.1.cls idx y1 ci n) (hi : ly_L[i]? = some (.inr (ci, fs))) (hS0 : S0 = As.reverse ++ .ref i :: S) (hn : As.length = n) (hcat : (S.map fun v => v.category).sum ≤ 8) (hp : pc + 3 = n') (hG : gd_G y1 d (.ref i :: As) mu h (pq v mu1 h)) (k : rn_R X y (d + 1) n' L (v.toList ++ S) mu1 h Q) : rn_R X y (d + 1) pc L S0 mu h Q := by
  subst hp
  refine rn_callV y1 As S hd hc hi hS0 hn hcat hG (fun r mu' h' q _ => ?_)
  obtain ⟨q1, q2, q3⟩ := q
  subst q1; subst q2; subst q3
  exact k
theorem lc_sn {ad : Nat → Nat} {ls : Array Slot} {L : List (Option Value)} (hl : lc_h ad ls L) (i : Nat) : lc_h ad ls (L.set i none) := by
  obtain ⟨h1, h2, h3⟩ := hl
  refine ⟨by rw [List.length_set]; exact h1, h2, fun q hq => ?_⟩
  obtain ⟨k, x⟩ := q
  obtain ⟨w, hw, rfl⟩ := lc_p_mem.mp hq
  by_cases hk : i = k
  · subst hk
    rw [List.getElem?_set] at hw
    simp at hw
  · rw [List.getElem?_set_ne hk] at hw
    exact h3 _ (lc_p_mem.mpr ⟨w, hw, rfl⟩)
/-- a local is forgotten -/
theorem rn_drop {X : Option (Nat × (Nat → Int32))} {y : ym_T} {d pc : Nat} {L : List (Option Value)} {S : List Value} {mu : Nat → Nat → Int32} {h : Int64} {Q : rn_Q} (i : Nat) (L' : List (Option Value)) (hL : L.set i none = L') (k : rn_R X y d pc L' S mu h Q) : rn_R X y d pc L S mu h Q := by
  subst hL
  intro p l e R s m args below meth c cells slots dC dI ad ca A Qt E F H locs ls hst hl hlen
  exact k p l e R s m args below meth c cells slots dC dI ad ca A Qt E F H locs ls hst (lc_sn hl i) (by rw [List.length_set]; exact hlen)
theorem ly_1_22 : ly_1 22 18 := by
  intro i2 ci2 fs2 j2 hi hj
  have key : ∀ i, i < 31 → ∀ j, j < 20 → (match (ly_L[i]? : Option ly_E) with | some (Sum.inr o) => (o.2[j]? == some (some none)) | _ => false) = true → i = 22 ∧ j = 18 := by decide +kernel
  have hl : i2 < ly_L.length := (List.getElem?_eq_some_iff.mp hi).1
  have hl2 : i2 < 31 := hl
  have len : ∀ i, i < 31 → (match (ly_L[i]? : Option ly_E) with | some (Sum.inr o) => decide (o.2.length < 20) | _ => true) = true := by decide +kernel
  have h3 := len i2 hl2
  rw [hi] at h3
  have h4 : j2 < fs2.length := (List.getElem?_eq_some_iff.mp hj).1
  have h5 : fs2.length < 20 := by simpa using h3
  refine key i2 hl2 j2 (by omega) ?_
  rw [hi]
  simp [hj]

set_option maxRecDepth 100000 in
set_option maxHeartbeats 2000000 in
theorem c_isWithin_t (d : Nat) (mu : Nat → Nat → Int32) (h : Int64) (k M : Nat) (hk : k ≤ M) (hM : M < 2 ^ 31) : gd_G mX8_isWithin d [.int (nI k), .int (nI M)] mu h (pq (some (.int 1)) mu h) := by
  refine gd_of rfl (Nat.le_of_ble_eq_true rfl) ?_
  show rn_R none mX8_isWithin d 0 [some (.int (nI k)), some (.int (nI M))] [] mu h (pq (some (.int 1)) mu h)
  refine rn_iload_n 1 dX8_isWithin_0 rfl rfl rfl ?_
  refine rn_if_lt 13 4 dX8_isWithin_1 (by decide) rfl (fun c1 => absurd c1 (nI_pos (by omega))) (fun _ => ?_)
  refine rn_iload_n 5 dX8_isWithin_4 rfl rfl rfl ?_
  refine rn_iload_n 6 dX8_isWithin_5 rfl rfl rfl ?_
  refine rn_icmp_gt 13 9 dX8_isWithin_6 (by decide) rfl (fun c6 => absurd c6 (nI_nlt (by omega) (by omega))) (fun _ => ?_)
  refine rn_iconst (v := 1) 10 dX8_isWithin_9 (by decide) rfl ?_
  refine rn_goto 14 dX8_isWithin_10 (by decide) ?_
  exact rn_zret rfl dX8_isWithin_14 rfl (⟨rfl, rfl, rfl⟩)

set_option maxRecDepth 100000 in
set_option maxHeartbeats 2000000 in
theorem c_isWithin_f (d : Nat) (mu : Nat → Nat → Int32) (h : Int64) (v : Int32) (M : Nat) (hv : ¬ isin v (M + 1)) (hM : M + 1 < 2 ^ 31) : gd_G mX8_isWithin d [.int v, .int (nI M)] mu h (pq (some (.int 0)) mu h) := by
  refine gd_of rfl (Nat.le_of_ble_eq_true rfl) ?_
  show rn_R none mX8_isWithin d 0 [some (.int v), some (.int (nI M))] [] mu h (pq (some (.int 0)) mu h)
  refine rn_iload_n 1 dX8_isWithin_0 rfl rfl rfl ?_
  refine rn_if_lt 13 4 dX8_isWithin_1 (by decide) rfl (fun c1 => ?_) (fun c1 => ?_)
  · skip
    refine rn_iconst (v := 0) 14 dX8_isWithin_13 (by decide) rfl ?_
    exact rn_zret rfl dX8_isWithin_14 rfl (⟨rfl, rfl, rfl⟩)
  · skip
    refine rn_iload_n 5 dX8_isWithin_4 rfl rfl rfl ?_
    refine rn_iload_n 6 dX8_isWithin_5 rfl rfl rfl ?_
    refine rn_icmp_gt 13 9 dX8_isWithin_6 (by decide) rfl (fun _ => ?_) (fun c6 => absurd (Classical.byContradiction fun q => hv (isin_of' hM c1 q)) c6)
    refine rn_iconst (v := 0) 14 dX8_isWithin_13 (by decide) rfl ?_
    exact rn_zret rfl dX8_isWithin_14 rfl (⟨rfl, rfl, rfl⟩)
end
section
/-! BITS: sets of edges as numbers -/
theorem nb_and (a b : Nat) : nI a &&& nI b = nI (a &&& b) := by
  apply Int32.toBitVec_inj.1
  show BitVec.ofNat 32 a &&& BitVec.ofNat 32 b = BitVec.ofNat 32 (a &&& b)
  apply BitVec.eq_of_getLsbD_eq
  intro i hi
  simp [hi]
theorem nb_or (a b : Nat) : nI a ||| nI b = nI (a ||| b) := by
  apply Int32.toBitVec_inj.1
  show BitVec.ofNat 32 a ||| BitVec.ofNat 32 b = BitVec.ofNat 32 (a ||| b)
  apply BitVec.eq_of_getLsbD_eq
  intro i hi
  simp [hi]
theorem nb_xor (a b : Nat) : nI a ^^^ nI b = nI (a ^^^ b) := by
  apply Int32.toBitVec_inj.1
  show BitVec.ofNat 32 a ^^^ BitVec.ofNat 32 b = BitVec.ofNat 32 (a ^^^ b)
  apply BitVec.eq_of_getLsbD_eq
  intro i hi
  simp [hi]
/-- a without b -/
def nd (a b : Nat) : Nat := a ^^^ (a &&& b)
theorem nd_bit (a b i : Nat) : (nd a b).testBit i = (a.testBit i && !b.testBit i) := by
  unfold nd
  rw [Nat.testBit_xor, Nat.testBit_and]
  cases a.testBit i <;> cases b.testBit i <;> rfl
theorem nb_andn (a b : Nat) : nI a &&& (nI b ^^^ (-1)) = nI (nd a b) := by
  apply Int32.toBitVec_inj.1
  show BitVec.ofNat 32 a &&& (BitVec.ofNat 32 b ^^^ BitVec.allOnes 32) = BitVec.ofNat 32 (nd a b)
  apply BitVec.eq_of_getLsbD_eq
  intro i hi
  simp only [BitVec.getLsbD_and, BitVec.getLsbD_xor, BitVec.getLsbD_ofNat, BitVec.getLsbD_allOnes, hi, decide_true, Bool.true_and, nd_bit]
  cases a.testBit i <;> cases b.testBit i <;> rfl
theorem sh_k : ∀ n, n < 32 → ((nI n &&& 31).toBitVec.smod 32).toNat = n := by decide +kernel
theorem nb_shl {n : Nat} {e : Nat} (he : e < 32) (hn : n * 2 ^ e < 2 ^ 32) : nI n <<< (nI e &&& 31) = nI (n * 2 ^ e) := pk_shlN _ e (sh_k e he) hn
theorem nb_1 {e : Nat} (he : e < 31) : (1 : Int32) <<< (nI e &&& 31) = nI (2 ^ e) := by
  have h1 : 2 ^ e ≤ 2 ^ 30 := Nat.pow_le_pow_right (by omega) (by omega)
  have := nb_shl (n := 1) (e := e) (by omega) (by rw [Nat.one_mul]; exact Nat.lt_of_le_of_lt h1 (by decide))
  rw [Nat.one_mul] at this
  exact this
theorem nb_shr {n e : Nat} (hn : n < 2 ^ 31) (he : e < 32) : nI n >>> (nI e &&& 31) = nI (n / 2 ^ e) := pk_shrN hn _ e (sh_k e he)
/-- the bit e of a set -/
theorem nb_bit {n e : Nat} (hn : n < 2 ^ 31) (he : e < 32) : (nI n >>> (nI e &&& 31)) &&& 1 = (if n.testBit e then 1 else 0) := by
  rw [nb_shr hn he]
  show nI (n / 2 ^ e) &&& nI 1 = _
  rw [nb_and, Nat.and_one_is_mod, Nat.testBit_eq_decide_div_mod_eq]
  have h2 : n / 2 ^ e % 2 < 2 := Nat.mod_lt _ (by omega)
  rcases (show n / 2 ^ e % 2 = 0 ∨ n / 2 ^ e % 2 = 1 by omega) with h | h
  · rw [h]; rfl
  · rw [h]; rfl
theorem bt_0 {b : Bool} : (if b = true then (1 : Int32) else 0) = 0 ↔ b = false := by cases b <;> decide
theorem bt_1 {b : Bool} : (if b = true then (1 : Int32) else 0) = 1 ↔ b = true := by cases b <;> decide
theorem pw_le {n : Nat} (h : n ≤ 16) : 2 ^ n ≤ 65536 := Nat.pow_le_pow_right (n := 2) (by omega) h
theorem pw_pos (n : Nat) : 0 < 2 ^ n := Nat.two_pow_pos n
theorem tb_lt {a n i : Nat} (h : a < 2 ^ n) (hb : a.testBit i = true) : i < n := by
  rcases Nat.lt_or_ge i n with q | q
  · exact q
  · rw [Nat.testBit_lt_two_pow (Nat.lt_of_lt_of_le h (Nat.pow_le_pow_right (by omega) q))] at hb
    cases hb
theorem tb_ext {a b : Nat} (h : ∀ i, a.testBit i = b.testBit i) : a = b := Nat.eq_of_testBit_eq h
theorem tb_pow (n i : Nat) : (2 ^ n).testBit i = decide (n = i) := Nat.testBit_two_pow
theorem tb_or_lt {a b n : Nat} (ha : a < 2 ^ n) (hb : b < 2 ^ n) : a ||| b < 2 ^ n := Nat.or_lt_two_pow ha hb
theorem tb_add_lt {a n e : Nat} (ha : a < 2 ^ n) (he : e < n) : a ||| 2 ^ e < 2 ^ n := Nat.or_lt_two_pow ha (Nat.pow_lt_pow_right (by omega) he)
theorem nd_lt {a b n : Nat} (ha : a < 2 ^ n) : nd a b < 2 ^ n := Nat.xor_lt_two_pow ha (Nat.lt_of_le_of_lt Nat.and_le_left ha)
/-- a number that is no set below 2^n has a bit beyond -/
theorem nb_in {v : Int32} {n : Nat} (hn : n ≤ 16) (h : v &&& (nI (2 ^ n - 1) ^^^ (-1)) = 0) : isin v (2 ^ n) := by
  have hp := pw_le hn
  have hpos := pw_pos n
  have e1 : v &&& nI (2 ^ n - 1) = v := by
    apply Int32.toBitVec_inj.1
    have h1 : v.toBitVec &&& (BitVec.ofNat 32 (2 ^ n - 1) ^^^ BitVec.allOnes 32) = 0#32 := congrArg Int32.toBitVec h
    show v.toBitVec &&& BitVec.ofNat 32 (2 ^ n - 1) = v.toBitVec
    apply BitVec.eq_of_getLsbD_eq
    intro i hi
    have h2 := congrArg (fun z : BitVec 32 => z.getLsbD i) h1
    simp only [BitVec.getLsbD_and, BitVec.getLsbD_xor, BitVec.getLsbD_allOnes, hi, decide_true, BitVec.getLsbD_zero] at h2
    rw [BitVec.getLsbD_and]
    revert h2
    cases v.toBitVec.getLsbD i <;> cases (BitVec.ofNat 32 (2 ^ n - 1)).getLsbD i <;> decide
  have hm : (nI (2 ^ n - 1)).toBitVec.toNat = 2 ^ n - 1 := pk_tn (by omega)
  have e2 := pk_and v (m := nI (2 ^ n - 1)) n hm
  rw [e1] at e2
  exact ⟨_, Nat.mod_lt _ hpos, e2⟩
theorem nb_out {S n : Nat} (hS : S < 2 ^ n) : nI S &&& (nI (2 ^ n - 1) ^^^ (-1)) = 0 := by
  rw [nb_andn]
  have : nd S (2 ^ n - 1) = 0 := by
    apply tb_ext
    intro i
    rw [nd_bit, Nat.zero_testBit, Nat.testBit_two_pow_sub_one]
    cases hb : S.testBit i with
    | false => rfl
    | true => simp [tb_lt hS hb]
  rw [this]
  rfl
def pkv (a b l y c : Nat) : Int32 := nI (a + 8 * b + 64 * l + 8192 * y + 1048576 * c)
theorem pk_or {a b k : Nat} (ha : a < 2 ^ k) : nI a ||| nI (b * 2 ^ k) = nI (a + b * 2 ^ k) := by
  rw [nb_or, Nat.or_comm, Nat.mul_comm b, Nat.add_comm, Nat.two_pow_add_eq_or_of_lt ha]
theorem pkv_of {a b l y c : Nat} (ha : a < 8) (hb : b < 8) (hl : l < 128) (hy : y < 128) (hc : c < 16) : (((nI a ||| nI b <<< ((3 : Int32) &&& 31)) ||| nI l <<< ((6 : Int32) &&& 31)) ||| nI y <<< ((13 : Int32) &&& 31)) ||| nI c <<< ((20 : Int32) &&& 31) = pkv a b l y c := by
  have s3 : nI b <<< ((3 : Int32) &&& 31) = nI (b * 2 ^ 3) := nb_shl (e := 3) (by omega) (by omega)
  have s6 : nI l <<< ((6 : Int32) &&& 31) = nI (l * 2 ^ 6) := nb_shl (e := 6) (by omega) (by omega)
  have s13 : nI y <<< ((13 : Int32) &&& 31) = nI (y * 2 ^ 13) := nb_shl (e := 13) (by omega) (by omega)
  have s20 : nI c <<< ((20 : Int32) &&& 31) = nI (c * 2 ^ 20) := nb_shl (e := 20) (by omega) (by omega)
  rw [s3, s6, s13, s20, pk_or (by omega), pk_or (by omega), pk_or (by omega), pk_or (by omega)]
  unfold pkv
  congr 1
  omega
theorem ex_k {n k m : Nat} (hn : n < 2 ^ 31) (hk : k < 32) (hm : m ≤ 30) : (nI n >>> (nI k &&& 31)) &&& nI (2 ^ m - 1) = nI (n / 2 ^ k % 2 ^ m) := by
  rw [nb_shr hn hk, nb_and, Nat.and_two_pow_sub_one_eq_mod]
theorem pkv_5 {a b l y c : Nat} (h1 : a < 8) (h2 : b < 8) (h3 : l < 128) (h5 : y < 128) (h7 : c < 16) : pkv a b l y c &&& 7 = nI a ∧ (pkv a b l y c >>> (3 &&& 31)) &&& 7 = nI b ∧ (pkv a b l y c >>> (6 &&& 31)) &&& 127 = nI l ∧ (pkv a b l y c >>> (13 &&& 31)) &&& 127 = nI y ∧ (pkv a b l y c >>> (20 &&& 31)) &&& 15 = nI c := by
  have hn : a + 8 * b + 64 * l + 8192 * y + 1048576 * c < 2 ^ 31 := by omega
  refine ⟨?_, ?_, ?_, ?_, ?_⟩
  · show nI _ &&& nI (2 ^ 3 - 1) = nI a
    rw [nb_and, Nat.and_two_pow_sub_one_eq_mod]
    congr 1; omega
  · show (nI _ >>> (nI 3 &&& 31)) &&& nI (2 ^ 3 - 1) = nI b
    rw [ex_k hn (by omega) (by omega)]
    congr 1; omega
  · show (nI _ >>> (nI 6 &&& 31)) &&& nI (2 ^ 7 - 1) = nI l
    rw [ex_k hn (by omega) (by omega)]
    congr 1; omega
  · show (nI _ >>> (nI 13 &&& 31)) &&& nI (2 ^ 7 - 1) = nI y
    rw [ex_k hn (by omega) (by omega)]
    congr 1; omega
  · show (nI _ >>> (nI 20 &&& 31)) &&& nI (2 ^ 4 - 1) = nI c
    rw [ex_k hn (by omega) (by omega)]
    congr 1; omega
/-- one part of a number set anew -/
theorem st_bits {lo u v hi s m : Nat} (hl : lo < 2 ^ s) (hu : u < 2 ^ m) (hv : v < 2 ^ m) : nd (2 ^ s * (2 ^ m * hi + u) + lo) (2 ^ s * (2 ^ m - 1)) ||| 2 ^ s * v = 2 ^ s * (2 ^ m * hi + v) + lo := by
  apply tb_ext
  intro i
  have e1 : (2 ^ s * (2 ^ m - 1)).testBit i = (decide (s ≤ i) && decide (i - s < m)) := by
    rw [Nat.testBit_two_pow_mul, Nat.testBit_two_pow_sub_one]
  have e2 : (2 ^ s * v).testBit i = (decide (s ≤ i) && v.testBit (i - s)) := Nat.testBit_two_pow_mul
  rw [Nat.testBit_or, nd_bit, Nat.testBit_two_pow_mul_add _ hl, Nat.testBit_two_pow_mul_add _ hl, e1, e2, Nat.testBit_two_pow_mul_add _ hu, Nat.testBit_two_pow_mul_add _ hv]
  by_cases h1 : i < s
  · simp [h1, show ¬ s ≤ i by omega]
  · by_cases h2 : i - s < m
    · simp [h1, h2, show s ≤ i by omega]
    · have h3 : v.testBit (i - s) = false := Nat.testBit_lt_two_pow (Nat.lt_of_lt_of_le hv (Nat.pow_le_pow_right (by omega) (by omega)))
      simp [h1, h2, show s ≤ i by omega, h3]
end
section
/-! THE GRAPH: what the cells of class and reference hold -/
abbrev Ed : Type := Nat × Nat × Nat × Nat × Nat
def e_ok (x : Ed) : Prop := x.1 < 8 ∧ x.2.1 < 8 ∧ x.2.2.1 < 100 ∧ (1 ≤ x.2.2.2.1 ∧ x.2.2.2.1 ≤ 100) ∧ 1 ≤ x.2.2.2.2 ∧ x.2.2.2.2 ≤ 9
/-- an edge in one int -/
def pk_ok (x : Ed) (c : Int32) : Prop := c = pkv x.1 x.2.1 x.2.2.1 x.2.2.2.1 x.2.2.2.2
/-- the class's edges -/
def xg (g : List Ed) (mu : Nat → Nat → Int32) : Prop := g.length ≤ 16 ∧ (∀ x ∈ g, e_ok x) ∧ mu 1 1 = nI g.length ∧ ∀ (i : Nat) (x : Ed), g[i]? = some x → pk_ok x (mu 2 i)
/-- its present attack -/
def xa (g : List Ed) (a : Nat) (mu : Nat → Nat → Int32) : Prop := mu 1 2 = nI a ∧ a < 2 ^ g.length
/-- the reference's edges, its present attack -/
def mg (g : List Ed) (mu : Nat → Nat → Int32) : Prop := g.length ≤ 16 ∧ (∀ x ∈ g, e_ok x) ∧ mu 23 80 = nI g.length ∧ ∀ (i : Nat) (x : Ed), g[i]? = some x → mu 23 (5 * i) = nI x.1 ∧ mu 23 (5 * i + 1) = nI x.2.1 ∧ mu 23 (5 * i + 2) = nI x.2.2.1 ∧ mu 23 (5 * i + 3) = nI x.2.2.2.1 ∧ mu 23 (5 * i + 4) = nI x.2.2.2.2
def ma (g : List Ed) (a : Nat) (mu : Nat → Nat → Int32) : Prop := mu 23 81 = nI a ∧ a < 2 ^ g.length
theorem xg_of {g : List Ed} {mu mu' : Nat → Nat → Int32} (h : xg g mu) (h1 : mu' 1 1 = mu 1 1) (h2 : mu' 2 = mu 2) : xg g mu' := ⟨h.1, h.2.1, by rw [h1]; exact h.2.2.1, fun i x hx => by rw [h2]; exact h.2.2.2 i x hx⟩
theorem mg_of {g : List Ed} {mu mu' : Nat → Nat → Int32} (h : mg g mu) (h1 : mu' 23 = mu 23) : mg g mu' := ⟨h.1, h.2.1, by rw [h1]; exact h.2.2.1, fun i x hx => by rw [h1]; exact h.2.2.2 i x hx⟩
theorem g_at {g : List Ed} {i : Nat} (h : i < g.length) : ∃ x, g[i]? = some x := ⟨g[i], List.getElem?_eq_getElem h⟩
theorem cl_n {n : Nat} (h : n < 2 ^ 31) : (nI n).toNatClampNeg = n := nI_clamp h
/-- an edge's parts, by its number -/
def eF (g : List Ed) (i : Nat) : Nat := (g.getD i (0, 0, 0, 0, 0)).1
def eT (g : List Ed) (i : Nat) : Nat := (g.getD i (0, 0, 0, 0, 0)).2.1
def eL (g : List Ed) (i : Nat) : Nat := (g.getD i (0, 0, 0, 0, 0)).2.2.1
def eY (g : List Ed) (i : Nat) : Nat := (g.getD i (0, 0, 0, 0, 0)).2.2.2.1
def eC (g : List Ed) (i : Nat) : Nat := (g.getD i (0, 0, 0, 0, 0)).2.2.2.2
theorem gD {g : List Ed} {i : Nat} {x : Ed} (h : g[i]? = some x) : g.getD i (0, 0, 0, 0, 0) = x := by rw [List.getD_eq_getElem?_getD, h]; rfl
theorem xg_pk {g : List Ed} {mu : Nat → Nat → Int32} (h : xg g mu) {i : Nat} (hi : i < g.length) : mu 2 i &&& 7 = nI (eF g i) ∧ (mu 2 i >>> (3 &&& 31)) &&& 7 = nI (eT g i) ∧ (mu 2 i >>> (6 &&& 31)) &&& 127 = nI (eL g i) ∧ (mu 2 i >>> (13 &&& 31)) &&& 127 = nI (eY g i) ∧ (mu 2 i >>> (20 &&& 31)) &&& 15 = nI (eC g i) := by
  obtain ⟨x, hx⟩ := g_at hi
  have := h.2.2.2 i x hx
  obtain ⟨k1, k2, k3, k4, k5, k6⟩ := h.2.1 x (List.mem_of_getElem? hx)
  unfold eF eT eL eY eC
  rw [gD hx, this]
  exact pkv_5 k1 k2 (by omega) (by omega) (by omega)
theorem mg_pk {g : List Ed} {mu : Nat → Nat → Int32} (h : mg g mu) {i : Nat} (hi : i < g.length) : mu 23 (5 * i) = nI (eF g i) ∧ mu 23 (5 * i + 1) = nI (eT g i) ∧ mu 23 (5 * i + 2) = nI (eL g i) ∧ mu 23 (5 * i + 3) = nI (eY g i) ∧ mu 23 (5 * i + 4) = nI (eC g i) := by
  obtain ⟨x, hx⟩ := g_at hi
  have := h.2.2.2 i x hx
  unfold eF eT eL eY eC
  rw [gD hx]
  exact this
theorem e_at {g : List Ed} (h : ∀ x ∈ g, e_ok x) {i : Nat} (hi : i < g.length) : eF g i < 8 ∧ eT g i < 8 ∧ eL g i < 100 ∧ (1 ≤ eY g i ∧ eY g i ≤ 100) ∧ 1 ≤ eC g i ∧ eC g i ≤ 9 := by
  obtain ⟨x, hx⟩ := g_at hi
  unfold eF eT eL eY eC
  rw [gD hx]
  exact h x (List.mem_of_getElem? hx)

set_option maxRecDepth 100000 in
set_option maxHeartbeats 2000000 in
theorem c_has_t (d : Nat) {g : List Ed} {mu : Nat → Nat → Int32} (h : Int64) (hg : xg g mu) {e : Nat} (he : e < g.length) : gd_G mX2_has d [.ref 1, .int (nI e)] mu h (pq (some (.int 1)) mu h) := by
  refine gd_of rfl (Nat.le_of_ble_eq_true rfl) ?_
  show rn_R none mX2_has d 0 [some (.ref 1), some (.int (nI e))] [] mu h (pq (some (.int 1)) mu h)
  refine rn_iload_n 1 dX2_has_0 rfl rfl rfl ?_
  refine rn_if_lt 16 4 dX2_has_1 (by decide) rfl (fun c1 => absurd c1 (nI_pos (by have := hg.1; omega))) (fun _ => ?_)
  refine rn_iload_n 5 dX2_has_4 rfl rfl rfl ?_
  refine rn_aload_n 6 dX2_has_5 rfl rfl rfl ?_
  refine rn_get 9 (.int (mu 1 1)) dX2_has_6 fl_X2_15 rfl rfl rfl rfl ?_
  refine rn_icmp_ge 16 12 dX2_has_9 (by decide) rfl (fun c9 => absurd c9 (by rw [hg.2.2.1]; exact nI_ge he (by have := hg.1; omega))) (fun _ => ?_)
  refine rn_iconst (v := 1) 13 dX2_has_12 (by decide) rfl ?_
  refine rn_goto 17 dX2_has_13 (by decide) ?_
  exact rn_zret rfl dX2_has_17 rfl (⟨rfl, rfl, rfl⟩)

set_option maxRecDepth 100000 in
set_option maxHeartbeats 2000000 in
theorem c_has_f (d : Nat) {g : List Ed} {mu : Nat → Nat → Int32} (h : Int64) (hg : xg g mu) {v : Int32} (hv : ¬ isin v g.length) : gd_G mX2_has d [.ref 1, .int v] mu h (pq (some (.int 0)) mu h) := by
  refine gd_of rfl (Nat.le_of_ble_eq_true rfl) ?_
  show rn_R none mX2_has d 0 [some (.ref 1), some (.int v)] [] mu h (pq (some (.int 0)) mu h)
  refine rn_iload_n 1 dX2_has_0 rfl rfl rfl ?_
  refine rn_if_lt 16 4 dX2_has_1 (by decide) rfl (fun c1 => ?_) (fun c1 => ?_)
  · skip
    refine rn_iconst (v := 0) 17 dX2_has_16 (by decide) rfl ?_
    exact rn_zret rfl dX2_has_17 rfl (⟨rfl, rfl, rfl⟩)
  · skip
    refine rn_iload_n 5 dX2_has_4 rfl rfl rfl ?_
    refine rn_aload_n 6 dX2_has_5 rfl rfl rfl ?_
    refine rn_get 9 (.int (mu 1 1)) dX2_has_6 fl_X2_15 rfl rfl rfl rfl ?_
    refine rn_icmp_ge 16 12 dX2_has_9 (by decide) rfl (fun _ => ?_) (fun c9 => absurd (Classical.byContradiction fun q => hv (isin_of (by have := hg.1; omega) c1 (by rw [← hg.2.2.1]; exact q))) c9)
    refine rn_iconst (v := 0) 17 dX2_has_16 (by decide) rfl ?_
    exact rn_zret rfl dX2_has_17 rfl (⟨rfl, rfl, rfl⟩)

set_option maxRecDepth 100000 in
set_option maxHeartbeats 2000000 in
theorem c_from (d : Nat) {g : List Ed} {mu : Nat → Nat → Int32} (h : Int64) (hg : xg g mu) {e : Nat} (he : e < g.length) : gd_G mX2_from (d + 1) [.ref 1, .int (nI e)] mu h (pq (some (.int (nI (eF g e)))) mu h) := by
  refine gd_of rfl (Nat.le_of_ble_eq_true rfl) ?_
  show rn_R none mX2_from (d + 1) 0 [some (.ref 1), some (.int (nI e))] [] mu h (pq (some (.int (nI (eF g e)))) mu h)
  refine rn_aload_n 1 dX2_from_0 rfl rfl rfl ?_
  refine rn_iload_n 2 dX2_from_1 rfl rfl rfl ?_
  refine rn_cvp mX2_has [.int (nI e)] [] 5 (.int 1) dX2_from_2 cv_X2_26 rfl rfl rfl (by simp [Value.category]) rfl (c_has_t d h hg he) ?_
  refine rn_if_eq 20 8 dX2_from_5 (by decide) rfl (fun c5 => absurd c5 (by decide)) (fun _ => ?_)
  refine rn_aload_n 9 dX2_from_8 rfl rfl rfl ?_
  refine rn_get 12 (.ref 2) dX2_from_9 fl_X2_9 rfl rfl rfl rfl ?_
  refine rn_iload_n 13 dX2_from_12 rfl rfl rfl ?_
  refine rn_iald 14 (mu 2 e) dX2_from_13 rfl (vp_in_nI (by have := hg.1; omega) (by omega)) (by rw [nI_clamp (by have := hg.1; omega)]) rfl ?_
  refine rn_bipush (v := 7) 16 dX2_from_14 (by decide) rfl ?_
  refine rn_iand 17 dX2_from_16 rfl ?_
  refine rn_goto 21 dX2_from_17 (by decide) ?_
  exact rn_iret rfl dX2_from_21 (⟨by rw [(xg_pk hg he).1], rfl, rfl⟩)

set_option maxRecDepth 100000 in
set_option maxHeartbeats 2000000 in
theorem c_to (d : Nat) {g : List Ed} {mu : Nat → Nat → Int32} (h : Int64) (hg : xg g mu) {e : Nat} (he : e < g.length) : gd_G mX2_to (d + 1) [.ref 1, .int (nI e)] mu h (pq (some (.int (nI (eT g e)))) mu h) := by
  refine gd_of rfl (Nat.le_of_ble_eq_true rfl) ?_
  show rn_R none mX2_to (d + 1) 0 [some (.ref 1), some (.int (nI e))] [] mu h (pq (some (.int (nI (eT g e)))) mu h)
  refine rn_aload_n 1 dX2_to_0 rfl rfl rfl ?_
  refine rn_iload_n 2 dX2_to_1 rfl rfl rfl ?_
  refine rn_cvp mX2_has [.int (nI e)] [] 5 (.int 1) dX2_to_2 cv_X2_26 rfl rfl rfl (by simp [Value.category]) rfl (c_has_t d h hg he) ?_
  refine rn_if_eq 22 8 dX2_to_5 (by decide) rfl (fun c5 => absurd c5 (by decide)) (fun _ => ?_)
  refine rn_aload_n 9 dX2_to_8 rfl rfl rfl ?_
  refine rn_get 12 (.ref 2) dX2_to_9 fl_X2_9 rfl rfl rfl rfl ?_
  refine rn_iload_n 13 dX2_to_12 rfl rfl rfl ?_
  refine rn_iald 14 (mu 2 e) dX2_to_13 rfl (vp_in_nI (by have := hg.1; omega) (by omega)) (by rw [nI_clamp (by have := hg.1; omega)]) rfl ?_
  refine rn_iconst (v := 3) 15 dX2_to_14 (by decide) rfl ?_
  refine rn_ishr 16 dX2_to_15 rfl ?_
  refine rn_bipush (v := 7) 18 dX2_to_16 (by decide) rfl ?_
  refine rn_iand 19 dX2_to_18 rfl ?_
  refine rn_goto 23 dX2_to_19 (by decide) ?_
  exact rn_iret rfl dX2_to_23 (⟨by rw [(xg_pk hg he).2.1], rfl, rfl⟩)

set_option maxRecDepth 100000 in
set_option maxHeartbeats 2000000 in
theorem c_cost (d : Nat) {g : List Ed} {mu : Nat → Nat → Int32} (h : Int64) (hg : xg g mu) {e : Nat} (he : e < g.length) : gd_G mX2_cost (d + 1) [.ref 1, .int (nI e)] mu h (pq (some (.int (nI (eC g e)))) mu h) := by
  refine gd_of rfl (Nat.le_of_ble_eq_true rfl) ?_
  show rn_R none mX2_cost (d + 1) 0 [some (.ref 1), some (.int (nI e))] [] mu h (pq (some (.int (nI (eC g e)))) mu h)
  refine rn_aload_n 1 dX2_cost_0 rfl rfl rfl ?_
  refine rn_iload_n 2 dX2_cost_1 rfl rfl rfl ?_
  refine rn_cvp mX2_has [.int (nI e)] [] 5 (.int 1) dX2_cost_2 cv_X2_26 rfl rfl rfl (by simp [Value.category]) rfl (c_has_t d h hg he) ?_
  refine rn_if_eq 23 8 dX2_cost_5 (by decide) rfl (fun c5 => absurd c5 (by decide)) (fun _ => ?_)
  refine rn_aload_n 9 dX2_cost_8 rfl rfl rfl ?_
  refine rn_get 12 (.ref 2) dX2_cost_9 fl_X2_9 rfl rfl rfl rfl ?_
  refine rn_iload_n 13 dX2_cost_12 rfl rfl rfl ?_
  refine rn_iald 14 (mu 2 e) dX2_cost_13 rfl (vp_in_nI (by have := hg.1; omega) (by omega)) (by rw [nI_clamp (by have := hg.1; omega)]) rfl ?_
  refine rn_bipush (v := 20) 16 dX2_cost_14 (by decide) rfl ?_
  refine rn_ishr 17 dX2_cost_16 rfl ?_
  refine rn_bipush (v := 15) 19 dX2_cost_17 (by decide) rfl ?_
  refine rn_iand 20 dX2_cost_19 rfl ?_
  refine rn_goto 24 dX2_cost_20 (by decide) ?_
  exact rn_iret rfl dX2_cost_24 (⟨by rw [(xg_pk hg he).2.2.2.2], rfl, rfl⟩)

set_option maxRecDepth 100000 in
set_option maxHeartbeats 2000000 in
theorem c_plainLength (d : Nat) {g : List Ed} {mu : Nat → Nat → Int32} (h : Int64) (hg : xg g mu) {e : Nat} (he : e < g.length) : gd_G mX2_plainLength (d + 1) [.ref 1, .int (nI e)] mu h (pq (some (.int (nI (eL g e)))) mu h) := by
  refine gd_of rfl (Nat.le_of_ble_eq_true rfl) ?_
  show rn_R none mX2_plainLength (d + 1) 0 [some (.ref 1), some (.int (nI e))] [] mu h (pq (some (.int (nI (eL g e)))) mu h)
  refine rn_aload_n 1 dX2_plainLength_0 rfl rfl rfl ?_
  refine rn_iload_n 2 dX2_plainLength_1 rfl rfl rfl ?_
  refine rn_cvp mX2_has [.int (nI e)] [] 5 (.int 1) dX2_plainLength_2 cv_X2_26 rfl rfl rfl (by simp [Value.category]) rfl (c_has_t d h hg he) ?_
  refine rn_if_eq 23 8 dX2_plainLength_5 (by decide) rfl (fun c5 => absurd c5 (by decide)) (fun _ => ?_)
  refine rn_aload_n 9 dX2_plainLength_8 rfl rfl rfl ?_
  refine rn_get 12 (.ref 2) dX2_plainLength_9 fl_X2_9 rfl rfl rfl rfl ?_
  refine rn_iload_n 13 dX2_plainLength_12 rfl rfl rfl ?_
  refine rn_iald 14 (mu 2 e) dX2_plainLength_13 rfl (vp_in_nI (by have := hg.1; omega) (by omega)) (by rw [nI_clamp (by have := hg.1; omega)]) rfl ?_
  refine rn_bipush (v := 6) 16 dX2_plainLength_14 (by decide) rfl ?_
  refine rn_ishr 17 dX2_plainLength_16 rfl ?_
  refine rn_bipush (v := 127) 19 dX2_plainLength_17 (by decide) rfl ?_
  refine rn_iand 20 dX2_plainLength_19 rfl ?_
  refine rn_goto 24 dX2_plainLength_20 (by decide) ?_
  exact rn_iret rfl dX2_plainLength_24 (⟨by rw [(xg_pk hg he).2.2.1], rfl, rfl⟩)
end
section
/-! THE GRAPH, further: sets, parts, sums -/
def cS (g : List Ed) (S : Nat) : Nat → Nat
  | 0 => 0
  | n + 1 => cS g S n + if S.testBit n then eC g n else 0
def lS (g : List Ed) : Nat → Nat
  | 0 => 0
  | n + 1 => lS g n + eL g n
theorem nI_sub1 {n : Nat} (h : 0 < n) : nI n - 1 = nI (n - 1) := by
  obtain ⟨k, rfl⟩ : ∃ k, n = k + 1 := ⟨n - 1, by omega⟩
  exact nI_pred k

set_option maxRecDepth 100000 in
set_option maxHeartbeats 2000000 in
theorem c_all (d : Nat) {g : List Ed} {mu : Nat → Nat → Int32} (h : Int64) (hg : xg g mu) : gd_G mX2_all d [.ref 1] mu h (pq (some (.int (nI (2 ^ g.length - 1)))) mu h) := by
  refine gd_of rfl (Nat.le_of_ble_eq_true rfl) ?_
  show rn_R none mX2_all d 0 [some (.ref 1)] [] mu h (pq (some (.int (nI (2 ^ g.length - 1)))) mu h)
  refine rn_iconst (v := 1) 1 dX2_all_0 (by decide) rfl ?_
  refine rn_aload_n 2 dX2_all_1 rfl rfl rfl ?_
  refine rn_get 5 (.int (mu 1 1)) dX2_all_2 fl_X2_15 rfl rfl rfl rfl ?_
  refine rn_ishl 6 dX2_all_5 rfl ?_
  refine rn_iconst (v := 1) 7 dX2_all_6 (by decide) rfl ?_
  refine rn_isub 8 dX2_all_7 rfl ?_
  exact rn_iret rfl dX2_all_8 (⟨by rw [hg.2.2.1, nb_1 (by have := hg.1; omega), nI_sub1 (pw_pos _)], rfl, rfl⟩)

set_option maxRecDepth 100000 in
set_option maxHeartbeats 2000000 in
theorem c_hasAll_t (d : Nat) {g : List Ed} {mu : Nat → Nat → Int32} (h : Int64) (hg : xg g mu) {S : Nat} (hS : S < 2 ^ g.length) : gd_G mX2_hasAll (d + 1) [.ref 1, .int (nI S)] mu h (pq (some (.int 1)) mu h) := by
  refine gd_of rfl (Nat.le_of_ble_eq_true rfl) ?_
  show rn_R none mX2_hasAll (d + 1) 0 [some (.ref 1), some (.int (nI S))] [] mu h (pq (some (.int 1)) mu h)
  refine rn_iload_n 1 dX2_hasAll_0 rfl rfl rfl ?_
  refine rn_aload_n 2 dX2_hasAll_1 rfl rfl rfl ?_
  refine rn_cvp mX2_all [] [.int (nI S)] 5 (.int (nI (2 ^ g.length - 1))) dX2_hasAll_2 cv_X2_22 rfl rfl rfl (by simp [Value.category]) rfl (c_all d h hg) ?_
  refine rn_iconst (v := (-1)) 6 dX2_hasAll_5 (by decide) rfl ?_
  refine rn_ixor 7 dX2_hasAll_6 rfl ?_
  refine rn_iand 8 dX2_hasAll_7 rfl ?_
  refine rn_if_ne 15 11 dX2_hasAll_8 (by decide) rfl (fun c8 => absurd (nb_out hS) c8) (fun _ => ?_)
  refine rn_iconst (v := 1) 12 dX2_hasAll_11 (by decide) rfl ?_
  refine rn_goto 16 dX2_hasAll_12 (by decide) ?_
  exact rn_zret rfl dX2_hasAll_16 rfl (⟨rfl, rfl, rfl⟩)

set_option maxRecDepth 100000 in
set_option maxHeartbeats 2000000 in
theorem c_hasAll_f (d : Nat) {g : List Ed} {mu : Nat → Nat → Int32} (h : Int64) (hg : xg g mu) {v : Int32} (hv : ¬ isin v (2 ^ g.length)) : gd_G mX2_hasAll (d + 1) [.ref 1, .int v] mu h (pq (some (.int 0)) mu h) := by
  refine gd_of rfl (Nat.le_of_ble_eq_true rfl) ?_
  show rn_R none mX2_hasAll (d + 1) 0 [some (.ref 1), some (.int v)] [] mu h (pq (some (.int 0)) mu h)
  refine rn_iload_n 1 dX2_hasAll_0 rfl rfl rfl ?_
  refine rn_aload_n 2 dX2_hasAll_1 rfl rfl rfl ?_
  refine rn_cvp mX2_all [] [.int v] 5 (.int (nI (2 ^ g.length - 1))) dX2_hasAll_2 cv_X2_22 rfl rfl rfl (by simp [Value.category]) rfl (c_all d h hg) ?_
  refine rn_iconst (v := (-1)) 6 dX2_hasAll_5 (by decide) rfl ?_
  refine rn_ixor 7 dX2_hasAll_6 rfl ?_
  refine rn_iand 8 dX2_hasAll_7 rfl ?_
  refine rn_if_ne 15 11 dX2_hasAll_8 (by decide) rfl (fun _ => ?_) (fun c8 => absurd c8 (fun q => hv (nb_in hg.1 q)))
  refine rn_iconst (v := 0) 16 dX2_hasAll_15 (by decide) rfl ?_
  exact rn_zret rfl dX2_hasAll_16 rfl (⟨rfl, rfl, rfl⟩)

set_option maxRecDepth 100000 in
set_option maxHeartbeats 2000000 in
theorem lp_costOfSet (d : Nat) {g : List Ed} {mu : Nat → Nat → Int32} (h : Int64) (hg : xg g mu) {S : Nat} (hS : S < 2 ^ 31) : ∀ (k e : Nat), e + k = g.length → rn_R none mX2_costOfSet (d + 2) 4 [some (.ref 1), some (.int (nI S)), some (.int (nI (cS g S e))), some (.int (nI e))] [] mu h (pq (some (.int (nI (cS g S g.length)))) mu h) := by
  intro k
  induction k with
  | zero =>
    intro e hek
    refine rn_iload_n 5 dX2_costOfSet_4 rfl rfl rfl ?_
    refine rn_aload_n 6 dX2_costOfSet_5 rfl rfl rfl ?_
    refine rn_get 9 (.int (mu 1 1)) dX2_costOfSet_6 fl_X2_15 rfl rfl rfl rfl ?_
    refine rn_icmp_ge 34 12 dX2_costOfSet_9 (by decide) rfl (fun _ => ?_) (fun c9 => absurd (by rw [hg.2.2.1]; exact nI_le (by omega) (by have := hg.1; omega)) c9)
    refine rn_iload_n 35 dX2_costOfSet_34 rfl rfl rfl ?_
    exact rn_iret rfl dX2_costOfSet_35 (⟨by rw [show e = g.length by omega], rfl, rfl⟩)
  | succ k ih =>
    intro e hek
    have hlt : e < g.length := by omega
    have h16 := hg.1
    refine rn_iload_n 5 dX2_costOfSet_4 rfl rfl rfl ?_
    refine rn_aload_n 6 dX2_costOfSet_5 rfl rfl rfl ?_
    refine rn_get 9 (.int (mu 1 1)) dX2_costOfSet_6 fl_X2_15 rfl rfl rfl rfl ?_
    refine rn_icmp_ge 34 12 dX2_costOfSet_9 (by decide) rfl (fun c9 => absurd c9 (by rw [hg.2.2.1]; exact nI_ge hlt (by omega))) (fun _ => ?_)
    refine rn_iload_n 13 dX2_costOfSet_12 rfl rfl rfl ?_
    refine rn_iload_n 14 dX2_costOfSet_13 rfl rfl rfl ?_
    refine rn_ishr 15 dX2_costOfSet_14 rfl ?_
    refine rn_iconst (v := 1) 16 dX2_costOfSet_15 (by decide) rfl ?_
    refine rn_iand 17 dX2_costOfSet_16 rfl ?_
    refine rn_if_eq 28 20 dX2_costOfSet_17 (by decide) rfl (fun c17 => ?_) (fun c17 => ?_)
    · skip
      have hb : S.testBit e = false := by rw [nb_bit hS (by omega)] at c17; exact bt_0.mp c17
      refine rn_iinc (v := (nI (e + 1))) 31 [some (.ref 1), some (.int (nI S)), some (.int (nI (cS g S e))), some (.int (nI (e + 1)))] dX2_costOfSet_28 rfl (nI_1 _) rfl rfl ?_
      refine rn_goto 4 dX2_costOfSet_31 (by decide) ?_
      have e1 : cS g S (e + 1) = cS g S e := by simp [cS, hb]
      have e2 := ih (e + 1) (by omega)
      rw [e1] at e2
      exact e2
    · skip
      have hb : S.testBit e = true := by rw [nb_bit hS (by omega)] at c17; cases hz : S.testBit e with | true => rfl | false => exact absurd (bt_0.mpr hz) c17
      refine rn_iload_n 21 dX2_costOfSet_20 rfl rfl rfl ?_
      refine rn_aload_n 22 dX2_costOfSet_21 rfl rfl rfl ?_
      refine rn_iload_n 23 dX2_costOfSet_22 rfl rfl rfl ?_
      refine rn_cvp mX2_cost [.int (nI e)] [.int (nI (cS g S e))] 26 (.int (nI (eC g e))) dX2_costOfSet_23 cv_X2_40 rfl rfl rfl (by simp [Value.category]) rfl (c_cost d h hg hlt) ?_
      refine rn_iadd 27 dX2_costOfSet_26 rfl ?_
      refine rn_istore_n 28 [some (.ref 1), some (.int (nI S)), some (.int ((nI (cS g S e)) + (nI (eC g e)))), some (.int (nI e))] dX2_costOfSet_27 rfl rfl (Nat.le_of_ble_eq_true rfl) rfl ?_
      refine rn_iinc (v := (nI (e + 1))) 31 [some (.ref 1), some (.int (nI S)), some (.int ((nI (cS g S e)) + (nI (eC g e)))), some (.int (nI (e + 1)))] dX2_costOfSet_28 rfl (nI_1 _) rfl rfl ?_
      refine rn_goto 4 dX2_costOfSet_31 (by decide) ?_
      have e1 : nI (cS g S e) + nI (eC g e) = nI (cS g S (e + 1)) := by rw [nI_add]; simp [cS, hb]
      rw [e1]
      exact ih (e + 1) (by omega)

set_option maxRecDepth 100000 in
set_option maxHeartbeats 2000000 in
theorem c_costOfSet (d : Nat) {g : List Ed} {mu : Nat → Nat → Int32} (h : Int64) (hg : xg g mu) {S : Nat} (hS : S < 2 ^ 31) : gd_G mX2_costOfSet (d + 2) [.ref 1, .int (nI S)] mu h (pq (some (.int (nI (cS g S g.length)))) mu h) := by
  refine gd_of rfl (Nat.le_of_ble_eq_true rfl) ?_
  show rn_R none mX2_costOfSet (d + 2) 0 [some (.ref 1), some (.int (nI S)), none, none] [] mu h (pq (some (.int (nI (cS g S g.length)))) mu h)
  refine rn_iconst (v := 0) 1 dX2_costOfSet_0 (by decide) rfl ?_
  refine rn_istore_n 2 [some (.ref 1), some (.int (nI S)), some (.int 0), none] dX2_costOfSet_1 rfl rfl (Nat.le_of_ble_eq_true rfl) rfl ?_
  refine rn_iconst (v := 0) 3 dX2_costOfSet_2 (by decide) rfl ?_
  refine rn_istore_n 4 [some (.ref 1), some (.int (nI S)), some (.int 0), some (.int 0)] dX2_costOfSet_3 rfl rfl (Nat.le_of_ble_eq_true rfl) rfl ?_
  exact lp_costOfSet d h hg hS g.length 0 (by omega)

set_option maxRecDepth 100000 in
set_option maxHeartbeats 2000000 in
theorem lp_sumOfLengths (d : Nat) {g : List Ed} {mu : Nat → Nat → Int32} (h : Int64) (hg : xg g mu) : ∀ (k e : Nat), e + k = g.length → rn_R none mX2_sumOfLengths (d + 2) 4 [some (.ref 1), some (.int (nI (lS g e))), some (.int (nI e))] [] mu h (pq (some (.int (nI (lS g g.length)))) mu h) := by
  intro k
  induction k with
  | zero =>
    intro e hek
    refine rn_iload_n 5 dX2_sumOfLengths_4 rfl rfl rfl ?_
    refine rn_aload_n 6 dX2_sumOfLengths_5 rfl rfl rfl ?_
    refine rn_get 9 (.int (mu 1 1)) dX2_sumOfLengths_6 fl_X2_15 rfl rfl rfl rfl ?_
    refine rn_icmp_ge 26 12 dX2_sumOfLengths_9 (by decide) rfl (fun _ => ?_) (fun c9 => absurd (by rw [hg.2.2.1]; exact nI_le (by omega) (by have := hg.1; omega)) c9)
    refine rn_iload_n 27 dX2_sumOfLengths_26 rfl rfl rfl ?_
    exact rn_iret rfl dX2_sumOfLengths_27 (⟨by rw [show e = g.length by omega], rfl, rfl⟩)
  | succ k ih =>
    intro e hek
    have hlt : e < g.length := by omega
    have h16 := hg.1
    refine rn_iload_n 5 dX2_sumOfLengths_4 rfl rfl rfl ?_
    refine rn_aload_n 6 dX2_sumOfLengths_5 rfl rfl rfl ?_
    refine rn_get 9 (.int (mu 1 1)) dX2_sumOfLengths_6 fl_X2_15 rfl rfl rfl rfl ?_
    refine rn_icmp_ge 26 12 dX2_sumOfLengths_9 (by decide) rfl (fun c9 => absurd c9 (by rw [hg.2.2.1]; exact nI_ge hlt (by omega))) (fun _ => ?_)
    refine rn_iload_n 13 dX2_sumOfLengths_12 rfl rfl rfl ?_
    refine rn_aload_n 14 dX2_sumOfLengths_13 rfl rfl rfl ?_
    refine rn_iload_n 15 dX2_sumOfLengths_14 rfl rfl rfl ?_
    refine rn_cvp mX2_plainLength [.int (nI e)] [.int (nI (lS g e))] 18 (.int (nI (eL g e))) dX2_sumOfLengths_15 cv_X2_44 rfl rfl rfl (by simp [Value.category]) rfl (c_plainLength d h hg hlt) ?_
    refine rn_iadd 19 dX2_sumOfLengths_18 rfl ?_
    refine rn_istore_n 20 [some (.ref 1), some (.int ((nI (lS g e)) + (nI (eL g e)))), some (.int (nI e))] dX2_sumOfLengths_19 rfl rfl (Nat.le_of_ble_eq_true rfl) rfl ?_
    refine rn_iinc (v := (nI (e + 1))) 23 [some (.ref 1), some (.int ((nI (lS g e)) + (nI (eL g e)))), some (.int (nI (e + 1)))] dX2_sumOfLengths_20 rfl (nI_1 _) rfl rfl ?_
    refine rn_goto 4 dX2_sumOfLengths_23 (by decide) ?_
    have e1 : nI (lS g e) + nI (eL g e) = nI (lS g (e + 1)) := by rw [nI_add]; simp [lS]
    rw [e1]
    exact ih (e + 1) (by omega)

set_option maxRecDepth 100000 in
set_option maxHeartbeats 2000000 in
theorem c_sumOfLengths (d : Nat) {g : List Ed} {mu : Nat → Nat → Int32} (h : Int64) (hg : xg g mu) : gd_G mX2_sumOfLengths (d + 2) [.ref 1] mu h (pq (some (.int (nI (lS g g.length)))) mu h) := by
  refine gd_of rfl (Nat.le_of_ble_eq_true rfl) ?_
  show rn_R none mX2_sumOfLengths (d + 2) 0 [some (.ref 1), none, none] [] mu h (pq (some (.int (nI (lS g g.length)))) mu h)
  refine rn_iconst (v := 0) 1 dX2_sumOfLengths_0 (by decide) rfl ?_
  refine rn_istore_n 2 [some (.ref 1), some (.int 0), none] dX2_sumOfLengths_1 rfl rfl (Nat.le_of_ble_eq_true rfl) rfl ?_
  refine rn_iconst (v := 0) 3 dX2_sumOfLengths_2 (by decide) rfl ?_
  refine rn_istore_n 4 [some (.ref 1), some (.int 0), some (.int 0)] dX2_sumOfLengths_3 rfl rfl (Nat.le_of_ble_eq_true rfl) rfl ?_
  exact lp_sumOfLengths d h hg g.length 0 (by omega)
end
section
/-! THE GRAPH, further: packing, parts, values, lengths under an attack -/
/-- an edge's part by its number -/
def eP (g : List Ed) (i w : Nat) : Nat := if w = 0 then eF g i else if w = 1 then eT g i else if w = 2 then eL g i else if w = 3 then eY g i else eC g i
/-- a value that setEdge takes -/
def okV (what v : Int32) : Prop := (what = 2 ∧ isin v 100) ∨ (what = 3 ∧ ∃ k, 1 ≤ k ∧ k ≤ 100 ∧ v = nI k) ∨ (what = 4 ∧ ∃ k, 1 ≤ k ∧ k ≤ 9 ∧ v = nI k)
/-- an edge's length under an attack -/
def eW (g : List Ed) (S i : Nat) : Nat := if S.testBit i then (if eY g i = 100 then 9999 else eL g i + eY g i) else eL g i
def fw (g : List Ed) (S : Nat) (f : Nat → Int32) (k : Nat) : Nat → Int32 := fun j => if j < k then nI (eW g S j) else f j
theorem mu_rs (mu : Nat → Nat → Int32) (q : Nat) (f : Nat → Int32) (j : Nat) (v : Int32) : mu_s (mu_r mu q f) q j v = mu_r mu q (upd f j v) := by
  funext a
  unfold mu_s mu_r
  by_cases ha : a = q
  · simp [ha]
  · simp [ha]
theorem mu_r_id (mu : Nat → Nat → Int32) (q : Nat) : mu_r mu q (mu q) = mu := by
  funext a
  unfold mu_r
  by_cases ha : a = q
  · simp [ha]
  · simp [ha]
theorem fw_0 (g : List Ed) (S : Nat) (f : Nat → Int32) : fw g S f 0 = f := by funext j; simp [fw]
theorem fw_1 (g : List Ed) (S : Nat) (f : Nat → Int32) (k : Nat) : upd (fw g S f k) k (nI (eW g S k)) = fw g S f (k + 1) := by
  funext j
  unfold upd fw
  by_cases hj : j = k
  · simp [hj]
  · have : (j < k + 1) = (j < k) := propext ⟨fun h => by omega, fun h => by omega⟩
    simp [hj, this]

set_option maxRecDepth 100000 in
set_option maxHeartbeats 2000000 in
theorem c_pack (d : Nat) (mu : Nat → Nat → Int32) (h : Int64) {a b l y c : Nat} (ha : a < 8) (hb : b < 8) (hl : l < 128) (hy : y < 128) (hc : c < 16) : gd_G mX2_pack d [.int (nI a), .int (nI b), .int (nI l), .int (nI y), .int (nI c)] mu h (pq (some (.int (pkv a b l y c))) mu h) := by
  refine gd_of rfl (Nat.le_of_ble_eq_true rfl) ?_
  show rn_R none mX2_pack d 0 [some (.int (nI a)), some (.int (nI b)), some (.int (nI l)), some (.int (nI y)), some (.int (nI c))] [] mu h (pq (some (.int (pkv a b l y c))) mu h)
  refine rn_iload_n 1 dX2_pack_0 rfl rfl rfl ?_
  refine rn_iload_n 2 dX2_pack_1 rfl rfl rfl ?_
  refine rn_iconst (v := 3) 3 dX2_pack_2 (by decide) rfl ?_
  refine rn_ishl 4 dX2_pack_3 rfl ?_
  refine rn_ior 5 dX2_pack_4 rfl ?_
  refine rn_iload_n 6 dX2_pack_5 rfl rfl rfl ?_
  refine rn_bipush (v := 6) 8 dX2_pack_6 (by decide) rfl ?_
  refine rn_ishl 9 dX2_pack_8 rfl ?_
  refine rn_ior 10 dX2_pack_9 rfl ?_
  refine rn_iload_n 11 dX2_pack_10 rfl rfl rfl ?_
  refine rn_bipush (v := 13) 13 dX2_pack_11 (by decide) rfl ?_
  refine rn_ishl 14 dX2_pack_13 rfl ?_
  refine rn_ior 15 dX2_pack_14 rfl ?_
  refine rn_iload 17 dX2_pack_15 rfl rfl ?_
  refine rn_bipush (v := 20) 19 dX2_pack_17 (by decide) rfl ?_
  refine rn_ishl 20 dX2_pack_19 rfl ?_
  refine rn_ior 21 dX2_pack_20 rfl ?_
  exact rn_iret rfl dX2_pack_21 (⟨by rw [pkv_of ha hb hl hy hc], rfl, rfl⟩)

set_option maxRecDepth 100000 in
set_option maxHeartbeats 2000000 in
theorem c_part0 (d : Nat) {g : List Ed} {mu : Nat → Nat → Int32} (h : Int64) (hg : xg g mu) {e : Nat} (he : e < g.length) : gd_G mX2_part (d + 1) [.ref 1, .int (nI e), .int 0] mu h (pq (some (.int (nI (eF g e)))) mu h) := by
  refine gd_of rfl (Nat.le_of_ble_eq_true rfl) ?_
  show rn_R none mX2_part (d + 1) 0 [some (.ref 1), some (.int (nI e)), some (.int 0)] [] mu h (pq (some (.int (nI (eF g e)))) mu h)
  refine rn_aload_n 1 dX2_part_0 rfl rfl rfl ?_
  refine rn_iload_n 2 dX2_part_1 rfl rfl rfl ?_
  refine rn_cvp mX2_has [.int (nI e)] [] 5 (.int 1) dX2_part_2 cv_X2_26 rfl rfl rfl (by simp [Value.category]) rfl (c_has_t d h hg he) ?_
  refine rn_if_eq 17 8 dX2_part_5 (by decide) rfl (fun c5 => absurd c5 (by decide)) (fun _ => ?_)
  refine rn_iload_n 9 dX2_part_8 rfl rfl rfl ?_
  refine rn_if_lt 17 12 dX2_part_9 (by decide) rfl (fun c9 => absurd c9 (by decide)) (fun _ => ?_)
  refine rn_iload_n 13 dX2_part_12 rfl rfl rfl ?_
  refine rn_iconst (v := 4) 14 dX2_part_13 (by decide) rfl ?_
  refine rn_icmp_le 19 17 dX2_part_14 (by decide) rfl (fun _ => ?_) (fun c14 => absurd (by decide) c14)
  refine rn_aload_n 20 dX2_part_19 rfl rfl rfl ?_
  refine rn_get 23 (.ref 2) dX2_part_20 fl_X2_9 rfl rfl rfl rfl ?_
  refine rn_iload_n 24 dX2_part_23 rfl rfl rfl ?_
  refine rn_iald 25 (mu 2 e) dX2_part_24 rfl (vp_in_nI (by have := hg.1; omega) (by omega)) (by rw [nI_clamp (by have := hg.1; omega)]) rfl ?_
  refine rn_gets 28 dX2_part_25 ly_z0 zs_X2_30 rfl ?_
  refine rn_iload_n 29 dX2_part_28 rfl rfl rfl ?_
  refine rn_ti 30 (0) dX2_part_29 ly_z0 (vp_in_nI (n := 0) (by decide) (by decide)) (by decide) rfl ?_
  refine rn_ishr 31 dX2_part_30 rfl ?_
  refine rn_gets 34 dX2_part_31 ly_z1 zs_X2_33 rfl ?_
  refine rn_iload_n 35 dX2_part_34 rfl rfl rfl ?_
  refine rn_ti 36 (7) dX2_part_35 ly_z1 (vp_in_nI (n := 0) (by decide) (by decide)) (by decide) rfl ?_
  refine rn_iand 37 dX2_part_36 rfl ?_
  exact rn_iret rfl dX2_part_37 (⟨by rw [sb_shr0, (xg_pk hg he).1], rfl, rfl⟩)

set_option maxRecDepth 100000 in
set_option maxHeartbeats 2000000 in
theorem c_part1 (d : Nat) {g : List Ed} {mu : Nat → Nat → Int32} (h : Int64) (hg : xg g mu) {e : Nat} (he : e < g.length) : gd_G mX2_part (d + 1) [.ref 1, .int (nI e), .int 1] mu h (pq (some (.int (nI (eT g e)))) mu h) := by
  refine gd_of rfl (Nat.le_of_ble_eq_true rfl) ?_
  show rn_R none mX2_part (d + 1) 0 [some (.ref 1), some (.int (nI e)), some (.int 1)] [] mu h (pq (some (.int (nI (eT g e)))) mu h)
  refine rn_aload_n 1 dX2_part_0 rfl rfl rfl ?_
  refine rn_iload_n 2 dX2_part_1 rfl rfl rfl ?_
  refine rn_cvp mX2_has [.int (nI e)] [] 5 (.int 1) dX2_part_2 cv_X2_26 rfl rfl rfl (by simp [Value.category]) rfl (c_has_t d h hg he) ?_
  refine rn_if_eq 17 8 dX2_part_5 (by decide) rfl (fun c5 => absurd c5 (by decide)) (fun _ => ?_)
  refine rn_iload_n 9 dX2_part_8 rfl rfl rfl ?_
  refine rn_if_lt 17 12 dX2_part_9 (by decide) rfl (fun c9 => absurd c9 (by decide)) (fun _ => ?_)
  refine rn_iload_n 13 dX2_part_12 rfl rfl rfl ?_
  refine rn_iconst (v := 4) 14 dX2_part_13 (by decide) rfl ?_
  refine rn_icmp_le 19 17 dX2_part_14 (by decide) rfl (fun _ => ?_) (fun c14 => absurd (by decide) c14)
  refine rn_aload_n 20 dX2_part_19 rfl rfl rfl ?_
  refine rn_get 23 (.ref 2) dX2_part_20 fl_X2_9 rfl rfl rfl rfl ?_
  refine rn_iload_n 24 dX2_part_23 rfl rfl rfl ?_
  refine rn_iald 25 (mu 2 e) dX2_part_24 rfl (vp_in_nI (by have := hg.1; omega) (by omega)) (by rw [nI_clamp (by have := hg.1; omega)]) rfl ?_
  refine rn_gets 28 dX2_part_25 ly_z0 zs_X2_30 rfl ?_
  refine rn_iload_n 29 dX2_part_28 rfl rfl rfl ?_
  refine rn_ti 30 (3) dX2_part_29 ly_z0 (vp_in_nI (n := 1) (by decide) (by decide)) (by decide) rfl ?_
  refine rn_ishr 31 dX2_part_30 rfl ?_
  refine rn_gets 34 dX2_part_31 ly_z1 zs_X2_33 rfl ?_
  refine rn_iload_n 35 dX2_part_34 rfl rfl rfl ?_
  refine rn_ti 36 (7) dX2_part_35 ly_z1 (vp_in_nI (n := 1) (by decide) (by decide)) (by decide) rfl ?_
  refine rn_iand 37 dX2_part_36 rfl ?_
  exact rn_iret rfl dX2_part_37 (⟨by rw [(xg_pk hg he).2.1], rfl, rfl⟩)

set_option maxRecDepth 100000 in
set_option maxHeartbeats 2000000 in
theorem c_part2 (d : Nat) {g : List Ed} {mu : Nat → Nat → Int32} (h : Int64) (hg : xg g mu) {e : Nat} (he : e < g.length) : gd_G mX2_part (d + 1) [.ref 1, .int (nI e), .int 2] mu h (pq (some (.int (nI (eL g e)))) mu h) := by
  refine gd_of rfl (Nat.le_of_ble_eq_true rfl) ?_
  show rn_R none mX2_part (d + 1) 0 [some (.ref 1), some (.int (nI e)), some (.int 2)] [] mu h (pq (some (.int (nI (eL g e)))) mu h)
  refine rn_aload_n 1 dX2_part_0 rfl rfl rfl ?_
  refine rn_iload_n 2 dX2_part_1 rfl rfl rfl ?_
  refine rn_cvp mX2_has [.int (nI e)] [] 5 (.int 1) dX2_part_2 cv_X2_26 rfl rfl rfl (by simp [Value.category]) rfl (c_has_t d h hg he) ?_
  refine rn_if_eq 17 8 dX2_part_5 (by decide) rfl (fun c5 => absurd c5 (by decide)) (fun _ => ?_)
  refine rn_iload_n 9 dX2_part_8 rfl rfl rfl ?_
  refine rn_if_lt 17 12 dX2_part_9 (by decide) rfl (fun c9 => absurd c9 (by decide)) (fun _ => ?_)
  refine rn_iload_n 13 dX2_part_12 rfl rfl rfl ?_
  refine rn_iconst (v := 4) 14 dX2_part_13 (by decide) rfl ?_
  refine rn_icmp_le 19 17 dX2_part_14 (by decide) rfl (fun _ => ?_) (fun c14 => absurd (by decide) c14)
  refine rn_aload_n 20 dX2_part_19 rfl rfl rfl ?_
  refine rn_get 23 (.ref 2) dX2_part_20 fl_X2_9 rfl rfl rfl rfl ?_
  refine rn_iload_n 24 dX2_part_23 rfl rfl rfl ?_
  refine rn_iald 25 (mu 2 e) dX2_part_24 rfl (vp_in_nI (by have := hg.1; omega) (by omega)) (by rw [nI_clamp (by have := hg.1; omega)]) rfl ?_
  refine rn_gets 28 dX2_part_25 ly_z0 zs_X2_30 rfl ?_
  refine rn_iload_n 29 dX2_part_28 rfl rfl rfl ?_
  refine rn_ti 30 (6) dX2_part_29 ly_z0 (vp_in_nI (n := 2) (by decide) (by decide)) (by decide) rfl ?_
  refine rn_ishr 31 dX2_part_30 rfl ?_
  refine rn_gets 34 dX2_part_31 ly_z1 zs_X2_33 rfl ?_
  refine rn_iload_n 35 dX2_part_34 rfl rfl rfl ?_
  refine rn_ti 36 (127) dX2_part_35 ly_z1 (vp_in_nI (n := 2) (by decide) (by decide)) (by decide) rfl ?_
  refine rn_iand 37 dX2_part_36 rfl ?_
  exact rn_iret rfl dX2_part_37 (⟨by rw [(xg_pk hg he).2.2.1], rfl, rfl⟩)

set_option maxRecDepth 100000 in
set_option maxHeartbeats 2000000 in
theorem c_part3 (d : Nat) {g : List Ed} {mu : Nat → Nat → Int32} (h : Int64) (hg : xg g mu) {e : Nat} (he : e < g.length) : gd_G mX2_part (d + 1) [.ref 1, .int (nI e), .int 3] mu h (pq (some (.int (nI (eY g e)))) mu h) := by
  refine gd_of rfl (Nat.le_of_ble_eq_true rfl) ?_
  show rn_R none mX2_part (d + 1) 0 [some (.ref 1), some (.int (nI e)), some (.int 3)] [] mu h (pq (some (.int (nI (eY g e)))) mu h)
  refine rn_aload_n 1 dX2_part_0 rfl rfl rfl ?_
  refine rn_iload_n 2 dX2_part_1 rfl rfl rfl ?_
  refine rn_cvp mX2_has [.int (nI e)] [] 5 (.int 1) dX2_part_2 cv_X2_26 rfl rfl rfl (by simp [Value.category]) rfl (c_has_t d h hg he) ?_
  refine rn_if_eq 17 8 dX2_part_5 (by decide) rfl (fun c5 => absurd c5 (by decide)) (fun _ => ?_)
  refine rn_iload_n 9 dX2_part_8 rfl rfl rfl ?_
  refine rn_if_lt 17 12 dX2_part_9 (by decide) rfl (fun c9 => absurd c9 (by decide)) (fun _ => ?_)
  refine rn_iload_n 13 dX2_part_12 rfl rfl rfl ?_
  refine rn_iconst (v := 4) 14 dX2_part_13 (by decide) rfl ?_
  refine rn_icmp_le 19 17 dX2_part_14 (by decide) rfl (fun _ => ?_) (fun c14 => absurd (by decide) c14)
  refine rn_aload_n 20 dX2_part_19 rfl rfl rfl ?_
  refine rn_get 23 (.ref 2) dX2_part_20 fl_X2_9 rfl rfl rfl rfl ?_
  refine rn_iload_n 24 dX2_part_23 rfl rfl rfl ?_
  refine rn_iald 25 (mu 2 e) dX2_part_24 rfl (vp_in_nI (by have := hg.1; omega) (by omega)) (by rw [nI_clamp (by have := hg.1; omega)]) rfl ?_
  refine rn_gets 28 dX2_part_25 ly_z0 zs_X2_30 rfl ?_
  refine rn_iload_n 29 dX2_part_28 rfl rfl rfl ?_
  refine rn_ti 30 (13) dX2_part_29 ly_z0 (vp_in_nI (n := 3) (by decide) (by decide)) (by decide) rfl ?_
  refine rn_ishr 31 dX2_part_30 rfl ?_
  refine rn_gets 34 dX2_part_31 ly_z1 zs_X2_33 rfl ?_
  refine rn_iload_n 35 dX2_part_34 rfl rfl rfl ?_
  refine rn_ti 36 (127) dX2_part_35 ly_z1 (vp_in_nI (n := 3) (by decide) (by decide)) (by decide) rfl ?_
  refine rn_iand 37 dX2_part_36 rfl ?_
  exact rn_iret rfl dX2_part_37 (⟨by rw [(xg_pk hg he).2.2.2.1], rfl, rfl⟩)

set_option maxRecDepth 100000 in
set_option maxHeartbeats 2000000 in
theorem c_part4 (d : Nat) {g : List Ed} {mu : Nat → Nat → Int32} (h : Int64) (hg : xg g mu) {e : Nat} (he : e < g.length) : gd_G mX2_part (d + 1) [.ref 1, .int (nI e), .int 4] mu h (pq (some (.int (nI (eC g e)))) mu h) := by
  refine gd_of rfl (Nat.le_of_ble_eq_true rfl) ?_
  show rn_R none mX2_part (d + 1) 0 [some (.ref 1), some (.int (nI e)), some (.int 4)] [] mu h (pq (some (.int (nI (eC g e)))) mu h)
  refine rn_aload_n 1 dX2_part_0 rfl rfl rfl ?_
  refine rn_iload_n 2 dX2_part_1 rfl rfl rfl ?_
  refine rn_cvp mX2_has [.int (nI e)] [] 5 (.int 1) dX2_part_2 cv_X2_26 rfl rfl rfl (by simp [Value.category]) rfl (c_has_t d h hg he) ?_
  refine rn_if_eq 17 8 dX2_part_5 (by decide) rfl (fun c5 => absurd c5 (by decide)) (fun _ => ?_)
  refine rn_iload_n 9 dX2_part_8 rfl rfl rfl ?_
  refine rn_if_lt 17 12 dX2_part_9 (by decide) rfl (fun c9 => absurd c9 (by decide)) (fun _ => ?_)
  refine rn_iload_n 13 dX2_part_12 rfl rfl rfl ?_
  refine rn_iconst (v := 4) 14 dX2_part_13 (by decide) rfl ?_
  refine rn_icmp_le 19 17 dX2_part_14 (by decide) rfl (fun _ => ?_) (fun c14 => absurd (by decide) c14)
  refine rn_aload_n 20 dX2_part_19 rfl rfl rfl ?_
  refine rn_get 23 (.ref 2) dX2_part_20 fl_X2_9 rfl rfl rfl rfl ?_
  refine rn_iload_n 24 dX2_part_23 rfl rfl rfl ?_
  refine rn_iald 25 (mu 2 e) dX2_part_24 rfl (vp_in_nI (by have := hg.1; omega) (by omega)) (by rw [nI_clamp (by have := hg.1; omega)]) rfl ?_
  refine rn_gets 28 dX2_part_25 ly_z0 zs_X2_30 rfl ?_
  refine rn_iload_n 29 dX2_part_28 rfl rfl rfl ?_
  refine rn_ti 30 (20) dX2_part_29 ly_z0 (vp_in_nI (n := 4) (by decide) (by decide)) (by decide) rfl ?_
  refine rn_ishr 31 dX2_part_30 rfl ?_
  refine rn_gets 34 dX2_part_31 ly_z1 zs_X2_33 rfl ?_
  refine rn_iload_n 35 dX2_part_34 rfl rfl rfl ?_
  refine rn_ti 36 (15) dX2_part_35 ly_z1 (vp_in_nI (n := 4) (by decide) (by decide)) (by decide) rfl ?_
  refine rn_iand 37 dX2_part_36 rfl ?_
  exact rn_iret rfl dX2_part_37 (⟨by rw [(xg_pk hg he).2.2.2.2], rfl, rfl⟩)

theorem c_part (d : Nat) {g : List Ed} {mu : Nat → Nat → Int32} (h : Int64) (hg : xg g mu) {e w : Nat} (he : e < g.length) (hw : w < 5) : gd_G mX2_part (d + 1) [.ref 1, .int (nI e), .int (nI w)] mu h (pq (some (.int (nI (eP g e w)))) mu h) := by
  rcases (show w = 0 ∨ w = 1 ∨ w = 2 ∨ w = 3 ∨ w = 4 by omega) with rfl | rfl | rfl | rfl | rfl
  · exact c_part0 d h hg he
  · exact c_part1 d h hg he
  · exact c_part2 d h hg he
  · exact c_part3 d h hg he
  · exact c_part4 d h hg he

set_option maxRecDepth 100000 in
set_option maxHeartbeats 2000000 in
theorem c_isValue2_t (d : Nat) (mu : Nat → Nat → Int32) (h : Int64) {k : Nat} (h1 : 0 ≤ k) (h2 : k ≤ 99) : gd_G mX2_isValue d [.int 2, .int (nI k)] mu h (pq (some (.int 1)) mu h) := by
  refine gd_of rfl (Nat.le_of_ble_eq_true rfl) ?_
  show rn_R none mX2_isValue d 0 [some (.int 2), some (.int (nI k))] [] mu h (pq (some (.int 1)) mu h)
  refine rn_iload_n 1 dX2_isValue_0 rfl rfl rfl ?_
  refine rn_tableIn 28 dX2_isValue_1 (by decide) (by decide) rfl (by decide) ?_
  refine rn_iload_n 29 dX2_isValue_28 rfl rfl rfl ?_
  refine rn_if_lt 42 32 dX2_isValue_29 (by decide) rfl (fun c29 => absurd c29 (nI_pos (by omega))) (fun _ => ?_)
  refine rn_iload_n 33 dX2_isValue_32 rfl rfl rfl ?_
  refine rn_bipush (v := 99) 35 dX2_isValue_33 (by decide) rfl ?_
  refine rn_icmp_gt 42 38 dX2_isValue_35 (by decide) rfl (fun c35 => absurd c35 (nI_nlt (b := k) (a := 99) (by omega) (by omega))) (fun _ => ?_)
  refine rn_iconst (v := 1) 39 dX2_isValue_38 (by decide) rfl ?_
  refine rn_goto 43 dX2_isValue_39 (by decide) ?_
  exact rn_zret rfl dX2_isValue_43 rfl (⟨rfl, rfl, rfl⟩)

set_option maxRecDepth 100000 in
set_option maxHeartbeats 2000000 in
theorem c_isValue2_f (d : Nat) (mu : Nat → Nat → Int32) (h : Int64) {v : Int32} (hv : ¬ isin v 100) : gd_G mX2_isValue d [.int 2, .int v] mu h (pq (some (.int 0)) mu h) := by
  refine gd_of rfl (Nat.le_of_ble_eq_true rfl) ?_
  show rn_R none mX2_isValue d 0 [some (.int 2), some (.int v)] [] mu h (pq (some (.int 0)) mu h)
  refine rn_iload_n 1 dX2_isValue_0 rfl rfl rfl ?_
  refine rn_tableIn 28 dX2_isValue_1 (by decide) (by decide) rfl (by decide) ?_
  refine rn_iload_n 29 dX2_isValue_28 rfl rfl rfl ?_
  refine rn_if_lt 42 32 dX2_isValue_29 (by decide) rfl (fun c29 => ?_) (fun c29 => ?_)
  · skip
    refine rn_iconst (v := 0) 43 dX2_isValue_42 (by decide) rfl ?_
    exact rn_zret rfl dX2_isValue_43 rfl (⟨rfl, rfl, rfl⟩)
  · skip
    refine rn_iload_n 33 dX2_isValue_32 rfl rfl rfl ?_
    refine rn_bipush (v := 99) 35 dX2_isValue_33 (by decide) rfl ?_
    refine rn_icmp_gt 42 38 dX2_isValue_35 (by decide) rfl (fun _ => ?_) (fun c35 => absurd (Classical.byContradiction fun q => hv (isin_of' (n := 99) (by omega) c29 q)) c35)
    refine rn_iconst (v := 0) 43 dX2_isValue_42 (by decide) rfl ?_
    exact rn_zret rfl dX2_isValue_43 rfl (⟨rfl, rfl, rfl⟩)

theorem iv_of {v : Int32} {n : Nat} (hn : n + 1 < 2 ^ 31) (h1 : ¬ v < 1) (h2 : ¬ nI n < v) : ∃ k, 1 ≤ k ∧ k ≤ n ∧ v = nI k := by
  have h0 : ¬ v < 0 := fun q => h1 (Int32.lt_trans q (by decide))
  obtain ⟨k, hk, rfl⟩ := isin_of' hn h0 h2
  refine ⟨k, ?_, by omega, rfl⟩
  rcases Nat.eq_zero_or_pos k with rfl | q
  · exact absurd (by decide : nI 0 < 1) h1
  · exact q

set_option maxRecDepth 100000 in
set_option maxHeartbeats 2000000 in
theorem c_isValue3_t (d : Nat) (mu : Nat → Nat → Int32) (h : Int64) {k : Nat} (h1 : 1 ≤ k) (h2 : k ≤ 100) : gd_G mX2_isValue d [.int 3, .int (nI k)] mu h (pq (some (.int 1)) mu h) := by
  refine gd_of rfl (Nat.le_of_ble_eq_true rfl) ?_
  show rn_R none mX2_isValue d 0 [some (.int 3), some (.int (nI k))] [] mu h (pq (some (.int 1)) mu h)
  refine rn_iload_n 1 dX2_isValue_0 rfl rfl rfl ?_
  refine rn_tableIn 44 dX2_isValue_1 (by decide) (by decide) rfl (by decide) ?_
  refine rn_iload_n 45 dX2_isValue_44 rfl rfl rfl ?_
  refine rn_iconst (v := 1) 46 dX2_isValue_45 (by decide) rfl ?_
  refine rn_icmp_lt 59 49 dX2_isValue_46 (by decide) rfl (fun c46 => absurd c46 (nI_nlt (b := 1) (by omega) (by omega))) (fun _ => ?_)
  refine rn_iload_n 50 dX2_isValue_49 rfl rfl rfl ?_
  refine rn_bipush (v := 100) 52 dX2_isValue_50 (by decide) rfl ?_
  refine rn_icmp_gt 59 55 dX2_isValue_52 (by decide) rfl (fun c52 => absurd c52 (nI_nlt (b := k) (a := 100) (by omega) (by omega))) (fun _ => ?_)
  refine rn_iconst (v := 1) 56 dX2_isValue_55 (by decide) rfl ?_
  refine rn_goto 60 dX2_isValue_56 (by decide) ?_
  exact rn_zret rfl dX2_isValue_60 rfl (⟨rfl, rfl, rfl⟩)

set_option maxRecDepth 100000 in
set_option maxHeartbeats 2000000 in
theorem c_isValue3_f (d : Nat) (mu : Nat → Nat → Int32) (h : Int64) {v : Int32} (hv : ¬ ∃ k, 1 ≤ k ∧ k ≤ 100 ∧ v = nI k) : gd_G mX2_isValue d [.int 3, .int v] mu h (pq (some (.int 0)) mu h) := by
  refine gd_of rfl (Nat.le_of_ble_eq_true rfl) ?_
  show rn_R none mX2_isValue d 0 [some (.int 3), some (.int v)] [] mu h (pq (some (.int 0)) mu h)
  refine rn_iload_n 1 dX2_isValue_0 rfl rfl rfl ?_
  refine rn_tableIn 44 dX2_isValue_1 (by decide) (by decide) rfl (by decide) ?_
  refine rn_iload_n 45 dX2_isValue_44 rfl rfl rfl ?_
  refine rn_iconst (v := 1) 46 dX2_isValue_45 (by decide) rfl ?_
  refine rn_icmp_lt 59 49 dX2_isValue_46 (by decide) rfl (fun c46 => ?_) (fun c46 => ?_)
  · skip
    refine rn_iconst (v := 0) 60 dX2_isValue_59 (by decide) rfl ?_
    exact rn_zret rfl dX2_isValue_60 rfl (⟨rfl, rfl, rfl⟩)
  · skip
    refine rn_iload_n 50 dX2_isValue_49 rfl rfl rfl ?_
    refine rn_bipush (v := 100) 52 dX2_isValue_50 (by decide) rfl ?_
    refine rn_icmp_gt 59 55 dX2_isValue_52 (by decide) rfl (fun _ => ?_) (fun c52 => absurd (Classical.byContradiction fun q => hv (iv_of (by omega) c46 q)) c52)
    refine rn_iconst (v := 0) 60 dX2_isValue_59 (by decide) rfl ?_
    exact rn_zret rfl dX2_isValue_60 rfl (⟨rfl, rfl, rfl⟩)

set_option maxRecDepth 100000 in
set_option maxHeartbeats 2000000 in
theorem c_isValue4_t (d : Nat) (mu : Nat → Nat → Int32) (h : Int64) {k : Nat} (h1 : 1 ≤ k) (h2 : k ≤ 9) : gd_G mX2_isValue d [.int 4, .int (nI k)] mu h (pq (some (.int 1)) mu h) := by
  refine gd_of rfl (Nat.le_of_ble_eq_true rfl) ?_
  show rn_R none mX2_isValue d 0 [some (.int 4), some (.int (nI k))] [] mu h (pq (some (.int 1)) mu h)
  refine rn_iload_n 1 dX2_isValue_0 rfl rfl rfl ?_
  refine rn_tableIn 61 dX2_isValue_1 (by decide) (by decide) rfl (by decide) ?_
  refine rn_iload_n 62 dX2_isValue_61 rfl rfl rfl ?_
  refine rn_iconst (v := 1) 63 dX2_isValue_62 (by decide) rfl ?_
  refine rn_icmp_lt 76 66 dX2_isValue_63 (by decide) rfl (fun c63 => absurd c63 (nI_nlt (b := 1) (by omega) (by omega))) (fun _ => ?_)
  refine rn_iload_n 67 dX2_isValue_66 rfl rfl rfl ?_
  refine rn_bipush (v := 9) 69 dX2_isValue_67 (by decide) rfl ?_
  refine rn_icmp_gt 76 72 dX2_isValue_69 (by decide) rfl (fun c69 => absurd c69 (nI_nlt (b := k) (a := 9) (by omega) (by omega))) (fun _ => ?_)
  refine rn_iconst (v := 1) 73 dX2_isValue_72 (by decide) rfl ?_
  refine rn_goto 77 dX2_isValue_73 (by decide) ?_
  exact rn_zret rfl dX2_isValue_77 rfl (⟨rfl, rfl, rfl⟩)

set_option maxRecDepth 100000 in
set_option maxHeartbeats 2000000 in
theorem c_isValue4_f (d : Nat) (mu : Nat → Nat → Int32) (h : Int64) {v : Int32} (hv : ¬ ∃ k, 1 ≤ k ∧ k ≤ 9 ∧ v = nI k) : gd_G mX2_isValue d [.int 4, .int v] mu h (pq (some (.int 0)) mu h) := by
  refine gd_of rfl (Nat.le_of_ble_eq_true rfl) ?_
  show rn_R none mX2_isValue d 0 [some (.int 4), some (.int v)] [] mu h (pq (some (.int 0)) mu h)
  refine rn_iload_n 1 dX2_isValue_0 rfl rfl rfl ?_
  refine rn_tableIn 61 dX2_isValue_1 (by decide) (by decide) rfl (by decide) ?_
  refine rn_iload_n 62 dX2_isValue_61 rfl rfl rfl ?_
  refine rn_iconst (v := 1) 63 dX2_isValue_62 (by decide) rfl ?_
  refine rn_icmp_lt 76 66 dX2_isValue_63 (by decide) rfl (fun c63 => ?_) (fun c63 => ?_)
  · skip
    refine rn_iconst (v := 0) 77 dX2_isValue_76 (by decide) rfl ?_
    exact rn_zret rfl dX2_isValue_77 rfl (⟨rfl, rfl, rfl⟩)
  · skip
    refine rn_iload_n 67 dX2_isValue_66 rfl rfl rfl ?_
    refine rn_bipush (v := 9) 69 dX2_isValue_67 (by decide) rfl ?_
    refine rn_icmp_gt 76 72 dX2_isValue_69 (by decide) rfl (fun _ => ?_) (fun c69 => absurd (Classical.byContradiction fun q => hv (iv_of (by omega) c63 q)) c69)
    refine rn_iconst (v := 0) 77 dX2_isValue_76 (by decide) rfl ?_
    exact rn_zret rfl dX2_isValue_77 rfl (⟨rfl, rfl, rfl⟩)

set_option maxRecDepth 100000 in
set_option maxHeartbeats 2000000 in
theorem c_isValueo (d : Nat) (mu : Nat → Nat → Int32) (h : Int64) {a v : Int32} (h2 : ¬ a = 2) (h3 : ¬ a = 3) (h4 : ¬ a = 4) : gd_G mX2_isValue d [.int a, .int v] mu h (pq (some (.int 0)) mu h) := by
  refine gd_of rfl (Nat.le_of_ble_eq_true rfl) ?_
  show rn_R none mX2_isValue d 0 [some (.int a), some (.int v)] [] mu h (pq (some (.int 0)) mu h)
  refine rn_iload_n 1 dX2_isValue_0 rfl rfl rfl ?_
  refine rn_tableOut 78 dX2_isValue_1 (by have := lv_neT h2 (by decide : (2 : Int32).toInt = 2); have := lv_neT h3 (by decide : (3 : Int32).toInt = 3); have := lv_neT h4 (by decide : (4 : Int32).toInt = 4); omega) (by decide) ?_
  refine rn_iconst (v := 0) 79 dX2_isValue_78 (by decide) rfl ?_
  exact rn_zret rfl dX2_isValue_79 rfl (⟨rfl, rfl, rfl⟩)

theorem c_isValue_t (d : Nat) (mu : Nat → Nat → Int32) (h : Int64) {a v : Int32} (hv : okV a v) : gd_G mX2_isValue d [.int a, .int v] mu h (pq (some (.int 1)) mu h) := by
  rcases hv with ⟨rfl, k, h1, rfl⟩ | ⟨rfl, k, h1, h2, rfl⟩ | ⟨rfl, k, h1, h2, rfl⟩
  · exact c_isValue2_t d mu h (Nat.zero_le k) (by omega)
  · exact c_isValue3_t d mu h h1 h2
  · exact c_isValue4_t d mu h h1 h2
theorem c_isValue_f (d : Nat) (mu : Nat → Nat → Int32) (h : Int64) {a v : Int32} (hv : ¬ okV a v) : gd_G mX2_isValue d [.int a, .int v] mu h (pq (some (.int 0)) mu h) := by
  by_cases h2 : a = 2
  · subst h2; exact c_isValue2_f d mu h (fun q => hv (Or.inl ⟨rfl, q⟩))
  by_cases h3 : a = 3
  · subst h3; exact c_isValue3_f d mu h (fun q => hv (Or.inr (Or.inl ⟨rfl, q⟩)))
  by_cases h4 : a = 4
  · subst h4; exact c_isValue4_f d mu h (fun q => hv (Or.inr (Or.inr ⟨rfl, q⟩)))
  exact c_isValueo d mu h h2 h3 h4
end
section
/-! THE GRAPH, further: lengths under an attack into a row -/

set_option maxRecDepth 100000 in
set_option maxHeartbeats 2000000 in
theorem lp_fill9 (d : Nat) {g : List Ed} {mu : Nat → Nat → Int32} (h : Int64) (hg : xg g mu) {S : Nat} (hS : S < 2 ^ 31) : ∀ (k e : Nat), e + k = g.length → rn_R none mX2_fillLengths d 2 [some (.ref 1), some (.int (nI S)), some (.ref 9), some (.int (nI e)), none, none] [] (mu_r mu 9 (fw g S (mu 9) e)) h (pq none (mu_r mu 9 (fw g S (mu 9) g.length)) h) := by
  intro k
  induction k with
  | zero =>
    intro e hek
    have h16 := hg.1
    refine rn_iload_n 3 dX2_fillLengths_2 rfl rfl rfl ?_
    refine rn_aload_n 4 dX2_fillLengths_3 rfl rfl rfl ?_
    refine rn_get 7 (.int (mu 1 1)) dX2_fillLengths_4 fl_X2_15 rfl rfl rfl rfl ?_
    refine rn_icmp_ge 79 10 dX2_fillLengths_7 (by decide) rfl (fun _ => ?_) (fun c7 => absurd (by rw [hg.2.2.1]; exact nI_le (by omega) (by omega)) c7)
    exact rn_vret rfl dX2_fillLengths_79 (⟨rfl, by rw [show e = g.length by omega], rfl⟩)
  | succ k ih =>
    intro e hek
    have hlt : e < g.length := by omega
    have h16 := hg.1
    have hpk := xg_pk hg hlt
    have hek2 := e_at hg.2.1 hlt
    refine rn_iload_n 3 dX2_fillLengths_2 rfl rfl rfl ?_
    refine rn_aload_n 4 dX2_fillLengths_3 rfl rfl rfl ?_
    refine rn_get 7 (.int (mu 1 1)) dX2_fillLengths_4 fl_X2_15 rfl rfl rfl rfl ?_
    refine rn_icmp_ge 79 10 dX2_fillLengths_7 (by decide) rfl (fun c7 => absurd c7 (by rw [hg.2.2.1]; exact nI_ge hlt (by omega))) (fun _ => ?_)
    refine rn_iload_n 11 dX2_fillLengths_10 rfl rfl rfl ?_
    refine rn_aload_n 12 dX2_fillLengths_11 rfl rfl rfl ?_
    refine rn_alen (ty := .int) 13 16 dX2_fillLengths_12 rfl (by decide) (by decide) rfl ?_
    refine rn_icmp_ge 79 16 dX2_fillLengths_13 (by decide) rfl (fun c13 => absurd c13 (nI_ge (b := 16) (by omega) (by omega))) (fun _ => ?_)
    refine rn_aload_n 17 dX2_fillLengths_16 rfl rfl rfl ?_
    refine rn_get 20 (.ref 2) dX2_fillLengths_17 fl_X2_9 rfl rfl rfl rfl ?_
    refine rn_iload_n 21 dX2_fillLengths_20 rfl rfl rfl ?_
    refine rn_iald 22 (mu 2 e) dX2_fillLengths_21 rfl (vp_in_nI (by omega) (by omega)) (congrArg (mu 2) (nI_clamp (by omega))) rfl ?_
    refine rn_istore 24 [some (.ref 1), some (.int (nI S)), some (.ref 9), some (.int (nI e)), some (.int (mu 2 e)), none] dX2_fillLengths_22 rfl (Nat.le_of_ble_eq_true rfl) rfl ?_
    refine rn_iload_n 25 dX2_fillLengths_24 rfl rfl rfl ?_
    refine rn_iload_n 26 dX2_fillLengths_25 rfl rfl rfl ?_
    refine rn_ishr 27 dX2_fillLengths_26 rfl ?_
    refine rn_iconst (v := 1) 28 dX2_fillLengths_27 (by decide) rfl ?_
    refine rn_iand 29 dX2_fillLengths_28 rfl ?_
    refine rn_if_eq 43 32 dX2_fillLengths_29 (by decide) rfl (fun c29 => ?_) (fun c29 => ?_)
    · skip
      have hb : S.testBit e = false := by rw [nb_bit hS (by omega)] at c29; exact bt_0.mp c29
      refine rn_iconst (v := 0) 44 dX2_fillLengths_43 (by decide) rfl ?_
      refine rn_istore 46 [some (.ref 1), some (.int (nI S)), some (.ref 9), some (.int (nI e)), some (.int (mu 2 e)), some (.int 0)] dX2_fillLengths_44 rfl (Nat.le_of_ble_eq_true rfl) rfl ?_
      refine rn_aload_n 47 dX2_fillLengths_46 rfl rfl rfl ?_
      refine rn_iload_n 48 dX2_fillLengths_47 rfl rfl rfl ?_
      refine rn_iload 50 dX2_fillLengths_48 rfl rfl ?_
      refine rn_bipush (v := 100) 52 dX2_fillLengths_50 (by decide) rfl ?_
      refine rn_icmp_ne 61 55 dX2_fillLengths_52 (by decide) rfl (fun _ => ?_) (fun c52 => absurd c52 (by decide))
      refine rn_iload 63 dX2_fillLengths_61 rfl rfl ?_
      refine rn_bipush (v := 6) 65 dX2_fillLengths_63 (by decide) rfl ?_
      refine rn_ishr 66 dX2_fillLengths_65 rfl ?_
      refine rn_bipush (v := 127) 68 dX2_fillLengths_66 (by decide) rfl ?_
      refine rn_iand 69 dX2_fillLengths_68 rfl ?_
      rw [hpk.2.2.1]
      refine rn_iload 71 dX2_fillLengths_69 rfl rfl ?_
      refine rn_iadd 72 dX2_fillLengths_71 rfl ?_
      refine rn_iast 73 dX2_fillLengths_72 rfl (vp_in_nI (by omega) (by omega)) rfl ?_
      rw [nI_clamp (by omega), mu_rs, show nI (eL g e) + 0 = nI (eW g S e) by simp [eW, hb], fw_1]
      refine rn_iinc (v := (nI (e + 1))) 76 [some (.ref 1), some (.int (nI S)), some (.ref 9), some (.int (nI (e + 1))), some (.int (mu 2 e)), some (.int 0)] dX2_fillLengths_73 rfl (nI_1 _) rfl rfl ?_
      refine rn_goto 2 dX2_fillLengths_76 (by decide) ?_
      refine rn_drop 4 [some (.ref 1), some (.int (nI S)), some (.ref 9), some (.int (nI (e + 1))), none, some (.int 0)] rfl ?_
      refine rn_drop 5 [some (.ref 1), some (.int (nI S)), some (.ref 9), some (.int (nI (e + 1))), none, none] rfl ?_
      exact ih (e + 1) (by omega)
    · skip
      have hb : S.testBit e = true := by rw [nb_bit hS (by omega)] at c29; cases hz : S.testBit e with | true => rfl | false => exact absurd (bt_0.mpr hz) c29
      refine rn_iload 34 dX2_fillLengths_32 rfl rfl ?_
      refine rn_bipush (v := 13) 36 dX2_fillLengths_34 (by decide) rfl ?_
      refine rn_ishr 37 dX2_fillLengths_36 rfl ?_
      refine rn_bipush (v := 127) 39 dX2_fillLengths_37 (by decide) rfl ?_
      refine rn_iand 40 dX2_fillLengths_39 rfl ?_
      rw [hpk.2.2.2.1]
      refine rn_goto 44 dX2_fillLengths_40 (by decide) ?_
      refine rn_istore 46 [some (.ref 1), some (.int (nI S)), some (.ref 9), some (.int (nI e)), some (.int (mu 2 e)), some (.int (nI (eY g e)))] dX2_fillLengths_44 rfl (Nat.le_of_ble_eq_true rfl) rfl ?_
      refine rn_aload_n 47 dX2_fillLengths_46 rfl rfl rfl ?_
      refine rn_iload_n 48 dX2_fillLengths_47 rfl rfl rfl ?_
      refine rn_iload 50 dX2_fillLengths_48 rfl rfl ?_
      refine rn_bipush (v := 100) 52 dX2_fillLengths_50 (by decide) rfl ?_
      refine rn_icmp_ne 61 55 dX2_fillLengths_52 (by decide) rfl (fun c52 => ?_) (fun c52 => ?_)
      · skip
        have hn : ¬ eY g e = 100 := fun z => c52 (by rw [z]; rfl)
        refine rn_iload 63 dX2_fillLengths_61 rfl rfl ?_
        refine rn_bipush (v := 6) 65 dX2_fillLengths_63 (by decide) rfl ?_
        refine rn_ishr 66 dX2_fillLengths_65 rfl ?_
        refine rn_bipush (v := 127) 68 dX2_fillLengths_66 (by decide) rfl ?_
        refine rn_iand 69 dX2_fillLengths_68 rfl ?_
        rw [hpk.2.2.1]
        refine rn_iload 71 dX2_fillLengths_69 rfl rfl ?_
        refine rn_iadd 72 dX2_fillLengths_71 rfl ?_
        refine rn_iast 73 dX2_fillLengths_72 rfl (vp_in_nI (by omega) (by omega)) rfl ?_
        rw [nI_clamp (by omega), mu_rs, show nI (eL g e) + nI (eY g e) = nI (eW g S e) by rw [nI_add]; simp [eW, hb, hn], fw_1]
        refine rn_iinc (v := (nI (e + 1))) 76 [some (.ref 1), some (.int (nI S)), some (.ref 9), some (.int (nI (e + 1))), some (.int (mu 2 e)), some (.int (nI (eY g e)))] dX2_fillLengths_73 rfl (nI_1 _) rfl rfl ?_
        refine rn_goto 2 dX2_fillLengths_76 (by decide) ?_
        refine rn_drop 4 [some (.ref 1), some (.int (nI S)), some (.ref 9), some (.int (nI (e + 1))), none, some (.int (nI (eY g e)))] rfl ?_
        refine rn_drop 5 [some (.ref 1), some (.int (nI S)), some (.ref 9), some (.int (nI (e + 1))), none, none] rfl ?_
        exact ih (e + 1) (by omega)
      · skip
        have hn : eY g e = 100 := (nI_eq (b := 100) (by omega) (by omega)).mp c52
        refine rn_sipush (v := 9999) 58 dX2_fillLengths_55 (by decide) rfl ?_
        refine rn_goto 72 dX2_fillLengths_58 (by decide) ?_
        refine rn_iast 73 dX2_fillLengths_72 rfl (vp_in_nI (by omega) (by omega)) rfl ?_
        rw [nI_clamp (by omega), mu_rs, show (9999 : Int32) = nI (eW g S e) by simp [eW, hb, hn]; rfl, fw_1]
        refine rn_iinc (v := (nI (e + 1))) 76 [some (.ref 1), some (.int (nI S)), some (.ref 9), some (.int (nI (e + 1))), some (.int (mu 2 e)), some (.int (nI (eY g e)))] dX2_fillLengths_73 rfl (nI_1 _) rfl rfl ?_
        refine rn_goto 2 dX2_fillLengths_76 (by decide) ?_
        refine rn_drop 4 [some (.ref 1), some (.int (nI S)), some (.ref 9), some (.int (nI (e + 1))), none, some (.int (nI (eY g e)))] rfl ?_
        refine rn_drop 5 [some (.ref 1), some (.int (nI S)), some (.ref 9), some (.int (nI (e + 1))), none, none] rfl ?_
        exact ih (e + 1) (by omega)

set_option maxRecDepth 100000 in
set_option maxHeartbeats 2000000 in
theorem c_fillLengths9 (d : Nat) {g : List Ed} {mu : Nat → Nat → Int32} (h : Int64) (hg : xg g mu) {S : Nat} (hS : S < 2 ^ 31) : gd_G mX2_fillLengths d [.ref 1, .int (nI S), .ref 9] mu h (pq none (mu_r mu 9 (fw g S (mu 9) g.length)) h) := by
  refine gd_of rfl (Nat.le_of_ble_eq_true rfl) ?_
  show rn_R none mX2_fillLengths d 0 [some (.ref 1), some (.int (nI S)), some (.ref 9), none, none, none] [] mu h (pq none (mu_r mu 9 (fw g S (mu 9) g.length)) h)
  refine rn_iconst (v := 0) 1 dX2_fillLengths_0 (by decide) rfl ?_
  refine rn_istore_n 2 [some (.ref 1), some (.int (nI S)), some (.ref 9), some (.int 0), none, none] dX2_fillLengths_1 rfl rfl (Nat.le_of_ble_eq_true rfl) rfl ?_
  have z := lp_fill9 d h hg hS g.length 0 (by omega)
  rw [fw_0, mu_r_id] at z
  exact z

set_option maxRecDepth 100000 in
set_option maxHeartbeats 2000000 in
theorem lp_fill16 (d : Nat) {g : List Ed} {mu : Nat → Nat → Int32} (h : Int64) (hg : xg g mu) {S : Nat} (hS : S < 2 ^ 31) : ∀ (k e : Nat), e + k = g.length → rn_R none mX2_fillLengths d 2 [some (.ref 1), some (.int (nI S)), some (.ref 16), some (.int (nI e)), none, none] [] (mu_r mu 16 (fw g S (mu 16) e)) h (pq none (mu_r mu 16 (fw g S (mu 16) g.length)) h) := by
  intro k
  induction k with
  | zero =>
    intro e hek
    have h16 := hg.1
    refine rn_iload_n 3 dX2_fillLengths_2 rfl rfl rfl ?_
    refine rn_aload_n 4 dX2_fillLengths_3 rfl rfl rfl ?_
    refine rn_get 7 (.int (mu 1 1)) dX2_fillLengths_4 fl_X2_15 rfl rfl rfl rfl ?_
    refine rn_icmp_ge 79 10 dX2_fillLengths_7 (by decide) rfl (fun _ => ?_) (fun c7 => absurd (by rw [hg.2.2.1]; exact nI_le (by omega) (by omega)) c7)
    exact rn_vret rfl dX2_fillLengths_79 (⟨rfl, by rw [show e = g.length by omega], rfl⟩)
  | succ k ih =>
    intro e hek
    have hlt : e < g.length := by omega
    have h16 := hg.1
    have hpk := xg_pk hg hlt
    have hek2 := e_at hg.2.1 hlt
    refine rn_iload_n 3 dX2_fillLengths_2 rfl rfl rfl ?_
    refine rn_aload_n 4 dX2_fillLengths_3 rfl rfl rfl ?_
    refine rn_get 7 (.int (mu 1 1)) dX2_fillLengths_4 fl_X2_15 rfl rfl rfl rfl ?_
    refine rn_icmp_ge 79 10 dX2_fillLengths_7 (by decide) rfl (fun c7 => absurd c7 (by rw [hg.2.2.1]; exact nI_ge hlt (by omega))) (fun _ => ?_)
    refine rn_iload_n 11 dX2_fillLengths_10 rfl rfl rfl ?_
    refine rn_aload_n 12 dX2_fillLengths_11 rfl rfl rfl ?_
    refine rn_alen (ty := .int) 13 16 dX2_fillLengths_12 rfl (by decide) (by decide) rfl ?_
    refine rn_icmp_ge 79 16 dX2_fillLengths_13 (by decide) rfl (fun c13 => absurd c13 (nI_ge (b := 16) (by omega) (by omega))) (fun _ => ?_)
    refine rn_aload_n 17 dX2_fillLengths_16 rfl rfl rfl ?_
    refine rn_get 20 (.ref 2) dX2_fillLengths_17 fl_X2_9 rfl rfl rfl rfl ?_
    refine rn_iload_n 21 dX2_fillLengths_20 rfl rfl rfl ?_
    refine rn_iald 22 (mu 2 e) dX2_fillLengths_21 rfl (vp_in_nI (by omega) (by omega)) (congrArg (mu 2) (nI_clamp (by omega))) rfl ?_
    refine rn_istore 24 [some (.ref 1), some (.int (nI S)), some (.ref 16), some (.int (nI e)), some (.int (mu 2 e)), none] dX2_fillLengths_22 rfl (Nat.le_of_ble_eq_true rfl) rfl ?_
    refine rn_iload_n 25 dX2_fillLengths_24 rfl rfl rfl ?_
    refine rn_iload_n 26 dX2_fillLengths_25 rfl rfl rfl ?_
    refine rn_ishr 27 dX2_fillLengths_26 rfl ?_
    refine rn_iconst (v := 1) 28 dX2_fillLengths_27 (by decide) rfl ?_
    refine rn_iand 29 dX2_fillLengths_28 rfl ?_
    refine rn_if_eq 43 32 dX2_fillLengths_29 (by decide) rfl (fun c29 => ?_) (fun c29 => ?_)
    · skip
      have hb : S.testBit e = false := by rw [nb_bit hS (by omega)] at c29; exact bt_0.mp c29
      refine rn_iconst (v := 0) 44 dX2_fillLengths_43 (by decide) rfl ?_
      refine rn_istore 46 [some (.ref 1), some (.int (nI S)), some (.ref 16), some (.int (nI e)), some (.int (mu 2 e)), some (.int 0)] dX2_fillLengths_44 rfl (Nat.le_of_ble_eq_true rfl) rfl ?_
      refine rn_aload_n 47 dX2_fillLengths_46 rfl rfl rfl ?_
      refine rn_iload_n 48 dX2_fillLengths_47 rfl rfl rfl ?_
      refine rn_iload 50 dX2_fillLengths_48 rfl rfl ?_
      refine rn_bipush (v := 100) 52 dX2_fillLengths_50 (by decide) rfl ?_
      refine rn_icmp_ne 61 55 dX2_fillLengths_52 (by decide) rfl (fun _ => ?_) (fun c52 => absurd c52 (by decide))
      refine rn_iload 63 dX2_fillLengths_61 rfl rfl ?_
      refine rn_bipush (v := 6) 65 dX2_fillLengths_63 (by decide) rfl ?_
      refine rn_ishr 66 dX2_fillLengths_65 rfl ?_
      refine rn_bipush (v := 127) 68 dX2_fillLengths_66 (by decide) rfl ?_
      refine rn_iand 69 dX2_fillLengths_68 rfl ?_
      rw [hpk.2.2.1]
      refine rn_iload 71 dX2_fillLengths_69 rfl rfl ?_
      refine rn_iadd 72 dX2_fillLengths_71 rfl ?_
      refine rn_iast 73 dX2_fillLengths_72 rfl (vp_in_nI (by omega) (by omega)) rfl ?_
      rw [nI_clamp (by omega), mu_rs, show nI (eL g e) + 0 = nI (eW g S e) by simp [eW, hb], fw_1]
      refine rn_iinc (v := (nI (e + 1))) 76 [some (.ref 1), some (.int (nI S)), some (.ref 16), some (.int (nI (e + 1))), some (.int (mu 2 e)), some (.int 0)] dX2_fillLengths_73 rfl (nI_1 _) rfl rfl ?_
      refine rn_goto 2 dX2_fillLengths_76 (by decide) ?_
      refine rn_drop 4 [some (.ref 1), some (.int (nI S)), some (.ref 16), some (.int (nI (e + 1))), none, some (.int 0)] rfl ?_
      refine rn_drop 5 [some (.ref 1), some (.int (nI S)), some (.ref 16), some (.int (nI (e + 1))), none, none] rfl ?_
      exact ih (e + 1) (by omega)
    · skip
      have hb : S.testBit e = true := by rw [nb_bit hS (by omega)] at c29; cases hz : S.testBit e with | true => rfl | false => exact absurd (bt_0.mpr hz) c29
      refine rn_iload 34 dX2_fillLengths_32 rfl rfl ?_
      refine rn_bipush (v := 13) 36 dX2_fillLengths_34 (by decide) rfl ?_
      refine rn_ishr 37 dX2_fillLengths_36 rfl ?_
      refine rn_bipush (v := 127) 39 dX2_fillLengths_37 (by decide) rfl ?_
      refine rn_iand 40 dX2_fillLengths_39 rfl ?_
      rw [hpk.2.2.2.1]
      refine rn_goto 44 dX2_fillLengths_40 (by decide) ?_
      refine rn_istore 46 [some (.ref 1), some (.int (nI S)), some (.ref 16), some (.int (nI e)), some (.int (mu 2 e)), some (.int (nI (eY g e)))] dX2_fillLengths_44 rfl (Nat.le_of_ble_eq_true rfl) rfl ?_
      refine rn_aload_n 47 dX2_fillLengths_46 rfl rfl rfl ?_
      refine rn_iload_n 48 dX2_fillLengths_47 rfl rfl rfl ?_
      refine rn_iload 50 dX2_fillLengths_48 rfl rfl ?_
      refine rn_bipush (v := 100) 52 dX2_fillLengths_50 (by decide) rfl ?_
      refine rn_icmp_ne 61 55 dX2_fillLengths_52 (by decide) rfl (fun c52 => ?_) (fun c52 => ?_)
      · skip
        have hn : ¬ eY g e = 100 := fun z => c52 (by rw [z]; rfl)
        refine rn_iload 63 dX2_fillLengths_61 rfl rfl ?_
        refine rn_bipush (v := 6) 65 dX2_fillLengths_63 (by decide) rfl ?_
        refine rn_ishr 66 dX2_fillLengths_65 rfl ?_
        refine rn_bipush (v := 127) 68 dX2_fillLengths_66 (by decide) rfl ?_
        refine rn_iand 69 dX2_fillLengths_68 rfl ?_
        rw [hpk.2.2.1]
        refine rn_iload 71 dX2_fillLengths_69 rfl rfl ?_
        refine rn_iadd 72 dX2_fillLengths_71 rfl ?_
        refine rn_iast 73 dX2_fillLengths_72 rfl (vp_in_nI (by omega) (by omega)) rfl ?_
        rw [nI_clamp (by omega), mu_rs, show nI (eL g e) + nI (eY g e) = nI (eW g S e) by rw [nI_add]; simp [eW, hb, hn], fw_1]
        refine rn_iinc (v := (nI (e + 1))) 76 [some (.ref 1), some (.int (nI S)), some (.ref 16), some (.int (nI (e + 1))), some (.int (mu 2 e)), some (.int (nI (eY g e)))] dX2_fillLengths_73 rfl (nI_1 _) rfl rfl ?_
        refine rn_goto 2 dX2_fillLengths_76 (by decide) ?_
        refine rn_drop 4 [some (.ref 1), some (.int (nI S)), some (.ref 16), some (.int (nI (e + 1))), none, some (.int (nI (eY g e)))] rfl ?_
        refine rn_drop 5 [some (.ref 1), some (.int (nI S)), some (.ref 16), some (.int (nI (e + 1))), none, none] rfl ?_
        exact ih (e + 1) (by omega)
      · skip
        have hn : eY g e = 100 := (nI_eq (b := 100) (by omega) (by omega)).mp c52
        refine rn_sipush (v := 9999) 58 dX2_fillLengths_55 (by decide) rfl ?_
        refine rn_goto 72 dX2_fillLengths_58 (by decide) ?_
        refine rn_iast 73 dX2_fillLengths_72 rfl (vp_in_nI (by omega) (by omega)) rfl ?_
        rw [nI_clamp (by omega), mu_rs, show (9999 : Int32) = nI (eW g S e) by simp [eW, hb, hn]; rfl, fw_1]
        refine rn_iinc (v := (nI (e + 1))) 76 [some (.ref 1), some (.int (nI S)), some (.ref 16), some (.int (nI (e + 1))), some (.int (mu 2 e)), some (.int (nI (eY g e)))] dX2_fillLengths_73 rfl (nI_1 _) rfl rfl ?_
        refine rn_goto 2 dX2_fillLengths_76 (by decide) ?_
        refine rn_drop 4 [some (.ref 1), some (.int (nI S)), some (.ref 16), some (.int (nI (e + 1))), none, some (.int (nI (eY g e)))] rfl ?_
        refine rn_drop 5 [some (.ref 1), some (.int (nI S)), some (.ref 16), some (.int (nI (e + 1))), none, none] rfl ?_
        exact ih (e + 1) (by omega)

set_option maxRecDepth 100000 in
set_option maxHeartbeats 2000000 in
theorem c_fillLengths16 (d : Nat) {g : List Ed} {mu : Nat → Nat → Int32} (h : Int64) (hg : xg g mu) {S : Nat} (hS : S < 2 ^ 31) : gd_G mX2_fillLengths d [.ref 1, .int (nI S), .ref 16] mu h (pq none (mu_r mu 16 (fw g S (mu 16) g.length)) h) := by
  refine gd_of rfl (Nat.le_of_ble_eq_true rfl) ?_
  show rn_R none mX2_fillLengths d 0 [some (.ref 1), some (.int (nI S)), some (.ref 16), none, none, none] [] mu h (pq none (mu_r mu 16 (fw g S (mu 16) g.length)) h)
  refine rn_iconst (v := 0) 1 dX2_fillLengths_0 (by decide) rfl ?_
  refine rn_istore_n 2 [some (.ref 1), some (.int (nI S)), some (.ref 16), some (.int 0), none, none] dX2_fillLengths_1 rfl rfl (Nat.le_of_ble_eq_true rfl) rfl ?_
  have z := lp_fill16 d h hg hS g.length 0 (by omega)
  rw [fw_0, mu_r_id] at z
  exact z
end
