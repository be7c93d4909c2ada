section
-- ===== PART A: goes FIRST, ahead of the names: the tables' words, and 'selects' of the private methods out of them =====
/-- a private method of a class that the tables say can be made, by its rows of tables_1 -/
def lw_okq (q : MethodName × Nat) : Prop := (q.1.cls ≠ "java/lang/invoke/MethodHandle" ∧ q.1.cls ≠ "java/lang/invoke/VarHandle") ∧ Cond.instantiable q.1.cls q.2 ∈ tables_1 ∧ Cond.privateMethod q.1 ∈ tables_1 ∧ Cond.instanceMethod q.1 ∈ tables_1
theorem lw_p0 : lw_okq (⟨"LagoonOpera", "refuse", "(I)I"⟩, 14) := ⟨⟨by decide +kernel, by decide +kernel⟩, List.mem_of_getElem? (i := 22) (by decide +kernel), List.mem_of_getElem? (i := 316) (by decide +kernel), List.mem_of_getElem? (i := 317) (by decide +kernel)⟩
theorem lw_p1 : lw_okq (⟨"LagoonOpera$Reader", "readT", "(I)Z"⟩, 5) := ⟨⟨by decide +kernel, by decide +kernel⟩, List.mem_of_getElem? (i := 213) (by decide +kernel), List.mem_of_getElem? (i := 484) (by decide +kernel), List.mem_of_getElem? (i := 485) (by decide +kernel)⟩
theorem lw_p2 : lw_okq (⟨"LagoonOpera$Reader", "readA", "(I)Z"⟩, 5) := ⟨⟨by decide +kernel, by decide +kernel⟩, List.mem_of_getElem? (i := 213) (by decide +kernel), List.mem_of_getElem? (i := 488) (by decide +kernel), List.mem_of_getElem? (i := 489) (by decide +kernel)⟩
theorem lw_p3 : lw_okq (⟨"LagoonOpera$Reader", "readB", "(I)Z"⟩, 5) := ⟨⟨by decide +kernel, by decide +kernel⟩, List.mem_of_getElem? (i := 213) (by decide +kernel), List.mem_of_getElem? (i := 492) (by decide +kernel), List.mem_of_getElem? (i := 493) (by decide +kernel)⟩
theorem lw_p4 : lw_okq (⟨"LagoonOpera$Reader", "readS", "(I)Z"⟩, 5) := ⟨⟨by decide +kernel, by decide +kernel⟩, List.mem_of_getElem? (i := 213) (by decide +kernel), List.mem_of_getElem? (i := 496) (by decide +kernel), List.mem_of_getElem? (i := 497) (by decide +kernel)⟩
theorem lw_p5 : lw_okq (⟨"LagoonOpera$Reader", "readP", "(I)Z"⟩, 5) := ⟨⟨by decide +kernel, by decide +kernel⟩, List.mem_of_getElem? (i := 213) (by decide +kernel), List.mem_of_getElem? (i := 500) (by decide +kernel), List.mem_of_getElem? (i := 501) (by decide +kernel)⟩
theorem lw_p6 : lw_okq (⟨"LagoonOpera$Reader", "readQ", "(I)Z"⟩, 5) := ⟨⟨by decide +kernel, by decide +kernel⟩, List.mem_of_getElem? (i := 213) (by decide +kernel), List.mem_of_getElem? (i := 504) (by decide +kernel), List.mem_of_getElem? (i := 505) (by decide +kernel)⟩
theorem lw_p7 : lw_okq (⟨"LagoonOpera$Reader", "sign", "()I"⟩, 5) := ⟨⟨by decide +kernel, by decide +kernel⟩, List.mem_of_getElem? (i := 213) (by decide +kernel), List.mem_of_getElem? (i := 508) (by decide +kernel), List.mem_of_getElem? (i := 509) (by decide +kernel)⟩
theorem lw_p8 : lw_okq (⟨"LagoonOpera$Reader", "readNumber", "()V"⟩, 5) := ⟨⟨by decide +kernel, by decide +kernel⟩, List.mem_of_getElem? (i := 213) (by decide +kernel), List.mem_of_getElem? (i := 515) (by decide +kernel), List.mem_of_getElem? (i := 516) (by decide +kernel)⟩
theorem lw_p9 : lw_okq (⟨"LagoonOpera$Reader", "readName", "()Z"⟩, 5) := ⟨⟨by decide +kernel, by decide +kernel⟩, List.mem_of_getElem? (i := 213) (by decide +kernel), List.mem_of_getElem? (i := 523) (by decide +kernel), List.mem_of_getElem? (i := 524) (by decide +kernel)⟩
theorem lw_p10 : lw_okq (⟨"LagoonOpera$Reader", "takes", "(I)Z"⟩, 5) := ⟨⟨by decide +kernel, by decide +kernel⟩, List.mem_of_getElem? (i := 213) (by decide +kernel), List.mem_of_getElem? (i := 529) (by decide +kernel), List.mem_of_getElem? (i := 530) (by decide +kernel)⟩
theorem lw_p11 : lw_okq (⟨"LagoonOpera", "goOn", "(IZ)I"⟩, 14) := ⟨⟨by decide +kernel, by decide +kernel⟩, List.mem_of_getElem? (i := 22) (by decide +kernel), List.mem_of_getElem? (i := 551) (by decide +kernel), List.mem_of_getElem? (i := 552) (by decide +kernel)⟩
theorem lw_p12 : lw_okq (⟨"LagoonOpera$Scene", "leftByFog", "(I)I"⟩, 8) := ⟨⟨by decide +kernel, by decide +kernel⟩, List.mem_of_getElem? (i := 76) (by decide +kernel), List.mem_of_getElem? (i := 559) (by decide +kernel), List.mem_of_getElem? (i := 560) (by decide +kernel)⟩
theorem lw_p13 : lw_okq (⟨"LagoonOpera$Boats", "pulled", "(IIII)I"⟩, 5) := ⟨⟨by decide +kernel, by decide +kernel⟩, List.mem_of_getElem? (i := 82) (by decide +kernel), List.mem_of_getElem? (i := 582) (by decide +kernel), List.mem_of_getElem? (i := 583) (by decide +kernel)⟩
theorem lw_p14 : lw_okq (⟨"LagoonOpera", "watchAll", "(I)V"⟩, 14) := ⟨⟨by decide +kernel, by decide +kernel⟩, List.mem_of_getElem? (i := 22) (by decide +kernel), List.mem_of_getElem? (i := 635) (by decide +kernel), List.mem_of_getElem? (i := 636) (by decide +kernel)⟩
theorem lw_p15 : lw_okq (⟨"LagoonOpera", "scoreAll", "(I)V"⟩, 14) := ⟨⟨by decide +kernel, by decide +kernel⟩, List.mem_of_getElem? (i := 22) (by decide +kernel), List.mem_of_getElem? (i := 648) (by decide +kernel), List.mem_of_getElem? (i := 649) (by decide +kernel)⟩
def lw_privs_1 : List (MethodName × Nat) := [(⟨"LagoonOpera", "refuse", "(I)I"⟩, 14), (⟨"LagoonOpera$Reader", "readT", "(I)Z"⟩, 5), (⟨"LagoonOpera$Reader", "readA", "(I)Z"⟩, 5), (⟨"LagoonOpera$Reader", "readB", "(I)Z"⟩, 5), (⟨"LagoonOpera$Reader", "readS", "(I)Z"⟩, 5), (⟨"LagoonOpera$Reader", "readP", "(I)Z"⟩, 5), (⟨"LagoonOpera$Reader", "readQ", "(I)Z"⟩, 5), (⟨"LagoonOpera$Reader", "sign", "()I"⟩, 5), (⟨"LagoonOpera$Reader", "readNumber", "()V"⟩, 5), (⟨"LagoonOpera$Reader", "readName", "()Z"⟩, 5), (⟨"LagoonOpera$Reader", "takes", "(I)Z"⟩, 5), (⟨"LagoonOpera", "goOn", "(IZ)I"⟩, 14), (⟨"LagoonOpera$Scene", "leftByFog", "(I)I"⟩, 8), (⟨"LagoonOpera$Boats", "pulled", "(IIII)I"⟩, 5), (⟨"LagoonOpera", "watchAll", "(I)V"⟩, 14), (⟨"LagoonOpera", "scoreAll", "(I)V"⟩, 14)]
theorem lw_r1 : ∀ q ∈ lw_privs_1, lw_okq q := List.forall_mem_cons.mpr ⟨lw_p0, List.forall_mem_cons.mpr ⟨lw_p1, List.forall_mem_cons.mpr ⟨lw_p2, List.forall_mem_cons.mpr ⟨lw_p3, List.forall_mem_cons.mpr ⟨lw_p4, List.forall_mem_cons.mpr ⟨lw_p5, List.forall_mem_cons.mpr ⟨lw_p6, List.forall_mem_cons.mpr ⟨lw_p7, List.forall_mem_cons.mpr ⟨lw_p8, List.forall_mem_cons.mpr ⟨lw_p9, List.forall_mem_cons.mpr ⟨lw_p10, List.forall_mem_cons.mpr ⟨lw_p11, List.forall_mem_cons.mpr ⟨lw_p12, List.forall_mem_cons.mpr ⟨lw_p13, List.forall_mem_cons.mpr ⟨lw_p14, List.forall_mem_cons.mpr ⟨lw_p15, fun _ h => absurd h List.not_mem_nil⟩⟩⟩⟩⟩⟩⟩⟩⟩⟩⟩⟩⟩⟩⟩⟩
theorem lw_p16 : lw_okq (⟨"LagoonOpera", "origins", "(II)J"⟩, 14) := ⟨⟨by decide +kernel, by decide +kernel⟩, List.mem_of_getElem? (i := 22) (by decide +kernel), List.mem_of_getElem? (i := 686) (by decide +kernel), List.mem_of_getElem? (i := 687) (by decide +kernel)⟩
theorem lw_p17 : lw_okq (⟨"LagoonOpera", "isHeardBehind", "(III)Z"⟩, 14) := ⟨⟨by decide +kernel, by decide +kernel⟩, List.mem_of_getElem? (i := 22) (by decide +kernel), List.mem_of_getElem? (i := 690) (by decide +kernel), List.mem_of_getElem? (i := 691) (by decide +kernel)⟩
theorem lw_p18 : lw_okq (⟨"LagoonOpera$Voices", "own", "(III)I"⟩, 5) := ⟨⟨by decide +kernel, by decide +kernel⟩, List.mem_of_getElem? (i := 189) (by decide +kernel), List.mem_of_getElem? (i := 720) (by decide +kernel), List.mem_of_getElem? (i := 721) (by decide +kernel)⟩
theorem lw_p19 : lw_okq (⟨"LagoonOpera$Voices", "from", "(IIII)I"⟩, 5) := ⟨⟨by decide +kernel, by decide +kernel⟩, List.mem_of_getElem? (i := 189) (by decide +kernel), List.mem_of_getElem? (i := 724) (by decide +kernel), List.mem_of_getElem? (i := 725) (by decide +kernel)⟩
theorem lw_p20 : lw_okq (⟨"LagoonOpera$Voices", "begin", "(I)V"⟩, 5) := ⟨⟨by decide +kernel, by decide +kernel⟩, List.mem_of_getElem? (i := 189) (by decide +kernel), List.mem_of_getElem? (i := 735) (by decide +kernel), List.mem_of_getElem? (i := 736) (by decide +kernel)⟩
theorem lw_p21 : lw_okq (⟨"LagoonOpera", "sheetOf", "(I)LLagoonOpera$Sheet;"⟩, 14) := ⟨⟨by decide +kernel, by decide +kernel⟩, List.mem_of_getElem? (i := 22) (by decide +kernel), List.mem_of_getElem? (i := 747) (by decide +kernel), List.mem_of_getElem? (i := 748) (by decide +kernel)⟩
theorem lw_p22 : lw_okq (⟨"LagoonOperaModel", "putIn", "(II)I"⟩, 23) := ⟨⟨by decide +kernel, by decide +kernel⟩, List.mem_of_getElem? (i := 840) (by decide +kernel), List.mem_of_getElem? (i := 928) (by decide +kernel), List.mem_of_getElem? (i := 929) (by decide +kernel)⟩
theorem lw_p23 : lw_okq (⟨"LagoonOperaModel", "finding", "(I)I"⟩, 23) := ⟨⟨by decide +kernel, by decide +kernel⟩, List.mem_of_getElem? (i := 840) (by decide +kernel), List.mem_of_getElem? (i := 933) (by decide +kernel), List.mem_of_getElem? (i := 934) (by decide +kernel)⟩
theorem lw_p24 : lw_okq (⟨"LagoonOperaModel", "is", "(II)Z"⟩, 23) := ⟨⟨by decide +kernel, by decide +kernel⟩, List.mem_of_getElem? (i := 840) (by decide +kernel), List.mem_of_getElem? (i := 954) (by decide +kernel), List.mem_of_getElem? (i := 955) (by decide +kernel)⟩
theorem lw_p25 : lw_okq (⟨"LagoonOperaModel", "sings", "(I)Z"⟩, 23) := ⟨⟨by decide +kernel, by decide +kernel⟩, List.mem_of_getElem? (i := 840) (by decide +kernel), List.mem_of_getElem? (i := 958) (by decide +kernel), List.mem_of_getElem? (i := 959) (by decide +kernel)⟩
theorem lw_p26 : lw_okq (⟨"LagoonOperaModel", "boatIs", "(II)I"⟩, 23) := ⟨⟨by decide +kernel, by decide +kernel⟩, List.mem_of_getElem? (i := 840) (by decide +kernel), List.mem_of_getElem? (i := 962) (by decide +kernel), List.mem_of_getElem? (i := 963) (by decide +kernel)⟩
theorem lw_p27 : lw_okq (⟨"LagoonOperaModel", "beat", "()I"⟩, 23) := ⟨⟨by decide +kernel, by decide +kernel⟩, List.mem_of_getElem? (i := 840) (by decide +kernel), List.mem_of_getElem? (i := 966) (by decide +kernel), List.mem_of_getElem? (i := 967) (by decide +kernel)⟩
theorem lw_p28 : lw_okq (⟨"LagoonOperaModel", "comes", "(II)I"⟩, 23) := ⟨⟨by decide +kernel, by decide +kernel⟩, List.mem_of_getElem? (i := 840) (by decide +kernel), List.mem_of_getElem? (i := 990) (by decide +kernel), List.mem_of_getElem? (i := 991) (by decide +kernel)⟩
theorem lw_p29 : lw_okq (⟨"LagoonOperaModel", "lags", "(II)I"⟩, 23) := ⟨⟨by decide +kernel, by decide +kernel⟩, List.mem_of_getElem? (i := 840) (by decide +kernel), List.mem_of_getElem? (i := 994) (by decide +kernel), List.mem_of_getElem? (i := 995) (by decide +kernel)⟩
theorem lw_p30 : lw_okq (⟨"LagoonOperaModel", "given", "(IIII)I"⟩, 23) := ⟨⟨by decide +kernel, by decide +kernel⟩, List.mem_of_getElem? (i := 840) (by decide +kernel), List.mem_of_getElem? (i := 1003) (by decide +kernel), List.mem_of_getElem? (i := 1004) (by decide +kernel)⟩
theorem lw_p31 : lw_okq (⟨"LagoonOperaModel", "hasText", "(I)Z"⟩, 23) := ⟨⟨by decide +kernel, by decide +kernel⟩, List.mem_of_getElem? (i := 840) (by decide +kernel), List.mem_of_getElem? (i := 1007) (by decide +kernel), List.mem_of_getElem? (i := 1008) (by decide +kernel)⟩
def lw_privs_2 : List (MethodName × Nat) := [(⟨"LagoonOpera", "origins", "(II)J"⟩, 14), (⟨"LagoonOpera", "isHeardBehind", "(III)Z"⟩, 14), (⟨"LagoonOpera$Voices", "own", "(III)I"⟩, 5), (⟨"LagoonOpera$Voices", "from", "(IIII)I"⟩, 5), (⟨"LagoonOpera$Voices", "begin", "(I)V"⟩, 5), (⟨"LagoonOpera", "sheetOf", "(I)LLagoonOpera$Sheet;"⟩, 14), (⟨"LagoonOperaModel", "putIn", "(II)I"⟩, 23), (⟨"LagoonOperaModel", "finding", "(I)I"⟩, 23), (⟨"LagoonOperaModel", "is", "(II)Z"⟩, 23), (⟨"LagoonOperaModel", "sings", "(I)Z"⟩, 23), (⟨"LagoonOperaModel", "boatIs", "(II)I"⟩, 23), (⟨"LagoonOperaModel", "beat", "()I"⟩, 23), (⟨"LagoonOperaModel", "comes", "(II)I"⟩, 23), (⟨"LagoonOperaModel", "lags", "(II)I"⟩, 23), (⟨"LagoonOperaModel", "given", "(IIII)I"⟩, 23), (⟨"LagoonOperaModel", "hasText", "(I)Z"⟩, 23)]
theorem lw_r2 : ∀ q ∈ lw_privs_2, lw_okq q := List.forall_mem_cons.mpr ⟨lw_p16, List.forall_mem_cons.mpr ⟨lw_p17, List.forall_mem_cons.mpr ⟨lw_p18, List.forall_mem_cons.mpr ⟨lw_p19, List.forall_mem_cons.mpr ⟨lw_p20, List.forall_mem_cons.mpr ⟨lw_p21, List.forall_mem_cons.mpr ⟨lw_p22, List.forall_mem_cons.mpr ⟨lw_p23, List.forall_mem_cons.mpr ⟨lw_p24, List.forall_mem_cons.mpr ⟨lw_p25, List.forall_mem_cons.mpr ⟨lw_p26, List.forall_mem_cons.mpr ⟨lw_p27, List.forall_mem_cons.mpr ⟨lw_p28, List.forall_mem_cons.mpr ⟨lw_p29, List.forall_mem_cons.mpr ⟨lw_p30, List.forall_mem_cons.mpr ⟨lw_p31, fun _ h => absurd h List.not_mem_nil⟩⟩⟩⟩⟩⟩⟩⟩⟩⟩⟩⟩⟩⟩⟩⟩
theorem lw_p32 : lw_okq (⟨"LagoonOperaModel", "worked", "(I)I"⟩, 23) := ⟨⟨by decide +kernel, by decide +kernel⟩, List.mem_of_getElem? (i := 840) (by decide +kernel), List.mem_of_getElem? (i := 1011) (by decide +kernel), List.mem_of_getElem? (i := 1012) (by decide +kernel)⟩
theorem lw_p33 : lw_okq (⟨"LagoonOperaModel", "ofOne", "(II)I"⟩, 23) := ⟨⟨by decide +kernel, by decide +kernel⟩, List.mem_of_getElem? (i := 840) (by decide +kernel), List.mem_of_getElem? (i := 1030) (by decide +kernel), List.mem_of_getElem? (i := 1031) (by decide +kernel)⟩
theorem lw_p34 : lw_okq (⟨"LagoonOperaModel", "listenerIs", "(II)I"⟩, 23) := ⟨⟨by decide +kernel, by decide +kernel⟩, List.mem_of_getElem? (i := 840) (by decide +kernel), List.mem_of_getElem? (i := 1034) (by decide +kernel), List.mem_of_getElem? (i := 1035) (by decide +kernel)⟩
theorem lw_p35 : lw_okq (⟨"LagoonOperaModel", "singers", "()I"⟩, 23) := ⟨⟨by decide +kernel, by decide +kernel⟩, List.mem_of_getElem? (i := 840) (by decide +kernel), List.mem_of_getElem? (i := 1038) (by decide +kernel), List.mem_of_getElem? (i := 1039) (by decide +kernel)⟩
theorem lw_p36 : lw_okq (⟨"LagoonOperaModel", "isTogether", "(II)Z"⟩, 23) := ⟨⟨by decide +kernel, by decide +kernel⟩, List.mem_of_getElem? (i := 840) (by decide +kernel), List.mem_of_getElem? (i := 1042) (by decide +kernel), List.mem_of_getElem? (i := 1043) (by decide +kernel)⟩
theorem lw_p37 : lw_okq (⟨"LagoonOperaModel", "either", "()V"⟩, 23) := ⟨⟨by decide +kernel, by decide +kernel⟩, List.mem_of_getElem? (i := 840) (by decide +kernel), List.mem_of_getElem? (i := 1062) (by decide +kernel), List.mem_of_getElem? (i := 1063) (by decide +kernel)⟩
theorem lw_p38 : lw_okq (⟨"LagoonOperaModel", "both", "()V"⟩, 23) := ⟨⟨by decide +kernel, by decide +kernel⟩, List.mem_of_getElem? (i := 840) (by decide +kernel), List.mem_of_getElem? (i := 1066) (by decide +kernel), List.mem_of_getElem? (i := 1067) (by decide +kernel)⟩
theorem lw_p39 : lw_okq (⟨"LagoonOperaModel", "compared", "()V"⟩, 23) := ⟨⟨by decide +kernel, by decide +kernel⟩, List.mem_of_getElem? (i := 840) (by decide +kernel), List.mem_of_getElem? (i := 1070) (by decide +kernel), List.mem_of_getElem? (i := 1071) (by decide +kernel)⟩
theorem lw_p40 : lw_okq (⟨"LagoonOperaModel", "sum", "()V"⟩, 23) := ⟨⟨by decide +kernel, by decide +kernel⟩, List.mem_of_getElem? (i := 840) (by decide +kernel), List.mem_of_getElem? (i := 1074) (by decide +kernel), List.mem_of_getElem? (i := 1075) (by decide +kernel)⟩
theorem lw_p41 : lw_okq (⟨"LagoonOperaModel", "product", "()V"⟩, 23) := ⟨⟨by decide +kernel, by decide +kernel⟩, List.mem_of_getElem? (i := 840) (by decide +kernel), List.mem_of_getElem? (i := 1078) (by decide +kernel), List.mem_of_getElem? (i := 1079) (by decide +kernel)⟩
theorem lw_p42 : lw_okq (⟨"LagoonOperaModel", "one", "()V"⟩, 23) := ⟨⟨by decide +kernel, by decide +kernel⟩, List.mem_of_getElem? (i := 840) (by decide +kernel), List.mem_of_getElem? (i := 1082) (by decide +kernel), List.mem_of_getElem? (i := 1083) (by decide +kernel)⟩
theorem lw_p43 : lw_okq (⟨"LagoonOperaModel", "here", "()I"⟩, 23) := ⟨⟨by decide +kernel, by decide +kernel⟩, List.mem_of_getElem? (i := 840) (by decide +kernel), List.mem_of_getElem? (i := 1086) (by decide +kernel), List.mem_of_getElem? (i := 1087) (by decide +kernel)⟩
theorem lw_p44 : lw_okq (⟨"LagoonOperaModel", "codes", "(I)V"⟩, 23) := ⟨⟨by decide +kernel, by decide +kernel⟩, List.mem_of_getElem? (i := 840) (by decide +kernel), List.mem_of_getElem? (i := 1090) (by decide +kernel), List.mem_of_getElem? (i := 1091) (by decide +kernel)⟩
theorem lw_p45 : lw_okq (⟨"LagoonOperaModel", "takes", "(I)Z"⟩, 23) := ⟨⟨by decide +kernel, by decide +kernel⟩, List.mem_of_getElem? (i := 840) (by decide +kernel), List.mem_of_getElem? (i := 1094) (by decide +kernel), List.mem_of_getElem? (i := 1095) (by decide +kernel)⟩
theorem lw_p46 : lw_okq (⟨"LagoonOperaModel", "nameOf", "(I)I"⟩, 23) := ⟨⟨by decide +kernel, by decide +kernel⟩, List.mem_of_getElem? (i := 840) (by decide +kernel), List.mem_of_getElem? (i := 1098) (by decide +kernel), List.mem_of_getElem? (i := 1099) (by decide +kernel)⟩
theorem lw_p47 : lw_okq (⟨"LagoonOperaModel", "forgetLags", "()V"⟩, 23) := ⟨⟨by decide +kernel, by decide +kernel⟩, List.mem_of_getElem? (i := 840) (by decide +kernel), List.mem_of_getElem? (i := 1150) (by decide +kernel), List.mem_of_getElem? (i := 1151) (by decide +kernel)⟩
def lw_privs_3 : List (MethodName × Nat) := [(⟨"LagoonOperaModel", "worked", "(I)I"⟩, 23), (⟨"LagoonOperaModel", "ofOne", "(II)I"⟩, 23), (⟨"LagoonOperaModel", "listenerIs", "(II)I"⟩, 23), (⟨"LagoonOperaModel", "singers", "()I"⟩, 23), (⟨"LagoonOperaModel", "isTogether", "(II)Z"⟩, 23), (⟨"LagoonOperaModel", "either", "()V"⟩, 23), (⟨"LagoonOperaModel", "both", "()V"⟩, 23), (⟨"LagoonOperaModel", "compared", "()V"⟩, 23), (⟨"LagoonOperaModel", "sum", "()V"⟩, 23), (⟨"LagoonOperaModel", "product", "()V"⟩, 23), (⟨"LagoonOperaModel", "one", "()V"⟩, 23), (⟨"LagoonOperaModel", "here", "()I"⟩, 23), (⟨"LagoonOperaModel", "codes", "(I)V"⟩, 23), (⟨"LagoonOperaModel", "takes", "(I)Z"⟩, 23), (⟨"LagoonOperaModel", "nameOf", "(I)I"⟩, 23), (⟨"LagoonOperaModel", "forgetLags", "()V"⟩, 23)]
theorem lw_r3 : ∀ q ∈ lw_privs_3, lw_okq q := List.forall_mem_cons.mpr ⟨lw_p32, List.forall_mem_cons.mpr ⟨lw_p33, List.forall_mem_cons.mpr ⟨lw_p34, List.forall_mem_cons.mpr ⟨lw_p35, List.forall_mem_cons.mpr ⟨lw_p36, List.forall_mem_cons.mpr ⟨lw_p37, List.forall_mem_cons.mpr ⟨lw_p38, List.forall_mem_cons.mpr ⟨lw_p39, List.forall_mem_cons.mpr ⟨lw_p40, List.forall_mem_cons.mpr ⟨lw_p41, List.forall_mem_cons.mpr ⟨lw_p42, List.forall_mem_cons.mpr ⟨lw_p43, List.forall_mem_cons.mpr ⟨lw_p44, List.forall_mem_cons.mpr ⟨lw_p45, List.forall_mem_cons.mpr ⟨lw_p46, List.forall_mem_cons.mpr ⟨lw_p47, fun _ h => absurd h List.not_mem_nil⟩⟩⟩⟩⟩⟩⟩⟩⟩⟩⟩⟩⟩⟩⟩⟩
theorem lw_p48 : lw_okq (⟨"LagoonOperaModel", "go", "(IZ)I"⟩, 23) := ⟨⟨by decide +kernel, by decide +kernel⟩, List.mem_of_getElem? (i := 840) (by decide +kernel), List.mem_of_getElem? (i := 1162) (by decide +kernel), List.mem_of_getElem? (i := 1163) (by decide +kernel)⟩
theorem lw_p49 : lw_okq (⟨"LagoonOperaModel", "beatsGo", "(IZ)V"⟩, 23) := ⟨⟨by decide +kernel, by decide +kernel⟩, List.mem_of_getElem? (i := 840) (by decide +kernel), List.mem_of_getElem? (i := 1167) (by decide +kernel), List.mem_of_getElem? (i := 1168) (by decide +kernel)⟩
theorem lw_p50 : lw_okq (⟨"LagoonOperaModel", "drawn", "(I)I"⟩, 23) := ⟨⟨by decide +kernel, by decide +kernel⟩, List.mem_of_getElem? (i := 840) (by decide +kernel), List.mem_of_getElem? (i := 1171) (by decide +kernel), List.mem_of_getElem? (i := 1172) (by decide +kernel)⟩
theorem lw_p51 : lw_okq (⟨"LagoonOperaModel", "listen", "(I)V"⟩, 23) := ⟨⟨by decide +kernel, by decide +kernel⟩, List.mem_of_getElem? (i := 840) (by decide +kernel), List.mem_of_getElem? (i := 1176) (by decide +kernel), List.mem_of_getElem? (i := 1177) (by decide +kernel)⟩
theorem lw_p52 : lw_okq (⟨"LagoonOperaModel", "moveAll", "()V"⟩, 23) := ⟨⟨by decide +kernel, by decide +kernel⟩, List.mem_of_getElem? (i := 840) (by decide +kernel), List.mem_of_getElem? (i := 1181) (by decide +kernel), List.mem_of_getElem? (i := 1182) (by decide +kernel)⟩
theorem lw_p53 : lw_okq (⟨"LagoonOperaModel", "movesTo", "(I)I"⟩, 23) := ⟨⟨by decide +kernel, by decide +kernel⟩, List.mem_of_getElem? (i := 840) (by decide +kernel), List.mem_of_getElem? (i := 1185) (by decide +kernel), List.mem_of_getElem? (i := 1186) (by decide +kernel)⟩
theorem lw_p54 : lw_okq (⟨"LagoonOperaModel", "putBack", "(I)I"⟩, 23) := ⟨⟨by decide +kernel, by decide +kernel⟩, List.mem_of_getElem? (i := 840) (by decide +kernel), List.mem_of_getElem? (i := 1206) (by decide +kernel), List.mem_of_getElem? (i := 1207) (by decide +kernel)⟩
theorem lw_p55 : lw_okq (⟨"LagoonOperaModel", "scoreBy", "(II)I"⟩, 23) := ⟨⟨by decide +kernel, by decide +kernel⟩, List.mem_of_getElem? (i := 840) (by decide +kernel), List.mem_of_getElem? (i := 1218) (by decide +kernel), List.mem_of_getElem? (i := 1219) (by decide +kernel)⟩
theorem lw_p56 : lw_okq (⟨"LagoonOperaModel", "findScores", "(I)I"⟩, 23) := ⟨⟨by decide +kernel, by decide +kernel⟩, List.mem_of_getElem? (i := 840) (by decide +kernel), List.mem_of_getElem? (i := 1226) (by decide +kernel), List.mem_of_getElem? (i := 1227) (by decide +kernel)⟩
theorem lw_p57 : lw_okq (⟨"LagoonOperaModel", "mayBeFrom", "(III)Z"⟩, 23) := ⟨⟨by decide +kernel, by decide +kernel⟩, List.mem_of_getElem? (i := 840) (by decide +kernel), List.mem_of_getElem? (i := 1254) (by decide +kernel), List.mem_of_getElem? (i := 1255) (by decide +kernel)⟩
theorem lw_p58 : lw_okq (⟨"LagoonOperaModel", "voiced", "(II)I"⟩, 23) := ⟨⟨by decide +kernel, by decide +kernel⟩, List.mem_of_getElem? (i := 840) (by decide +kernel), List.mem_of_getElem? (i := 1275) (by decide +kernel), List.mem_of_getElem? (i := 1276) (by decide +kernel)⟩
theorem lw_p59 : lw_okq (⟨"LagoonOperaModel", "bodyFrom", "(III)I"⟩, 23) := ⟨⟨by decide +kernel, by decide +kernel⟩, List.mem_of_getElem? (i := 840) (by decide +kernel), List.mem_of_getElem? (i := 1279) (by decide +kernel), List.mem_of_getElem? (i := 1280) (by decide +kernel)⟩
theorem lw_p60 : lw_okq (⟨"LagoonOperaModel", "body", "(III)I"⟩, 23) := ⟨⟨by decide +kernel, by decide +kernel⟩, List.mem_of_getElem? (i := 840) (by decide +kernel), List.mem_of_getElem? (i := 1286) (by decide +kernel), List.mem_of_getElem? (i := 1287) (by decide +kernel)⟩
theorem lw_p61 : lw_okq (⟨"LagoonOperaModel", "began", "(I)V"⟩, 23) := ⟨⟨by decide +kernel, by decide +kernel⟩, List.mem_of_getElem? (i := 840) (by decide +kernel), List.mem_of_getElem? (i := 1290) (by decide +kernel), List.mem_of_getElem? (i := 1291) (by decide +kernel)⟩
theorem lw_p62 : lw_okq (⟨"LagoonOperaModel", "refuses", "(II)I"⟩, 23) := ⟨⟨by decide +kernel, by decide +kernel⟩, List.mem_of_getElem? (i := 840) (by decide +kernel), List.mem_of_getElem? (i := 1317) (by decide +kernel), List.mem_of_getElem? (i := 1318) (by decide +kernel)⟩
def lw_privs_4 : List (MethodName × Nat) := [(⟨"LagoonOperaModel", "go", "(IZ)I"⟩, 23), (⟨"LagoonOperaModel", "beatsGo", "(IZ)V"⟩, 23), (⟨"LagoonOperaModel", "drawn", "(I)I"⟩, 23), (⟨"LagoonOperaModel", "listen", "(I)V"⟩, 23), (⟨"LagoonOperaModel", "moveAll", "()V"⟩, 23), (⟨"LagoonOperaModel", "movesTo", "(I)I"⟩, 23), (⟨"LagoonOperaModel", "putBack", "(I)I"⟩, 23), (⟨"LagoonOperaModel", "scoreBy", "(II)I"⟩, 23), (⟨"LagoonOperaModel", "findScores", "(I)I"⟩, 23), (⟨"LagoonOperaModel", "mayBeFrom", "(III)Z"⟩, 23), (⟨"LagoonOperaModel", "voiced", "(II)I"⟩, 23), (⟨"LagoonOperaModel", "bodyFrom", "(III)I"⟩, 23), (⟨"LagoonOperaModel", "body", "(III)I"⟩, 23), (⟨"LagoonOperaModel", "began", "(I)V"⟩, 23), (⟨"LagoonOperaModel", "refuses", "(II)I"⟩, 23)]
theorem lw_r4 : ∀ q ∈ lw_privs_4, lw_okq q := List.forall_mem_cons.mpr ⟨lw_p48, List.forall_mem_cons.mpr ⟨lw_p49, List.forall_mem_cons.mpr ⟨lw_p50, List.forall_mem_cons.mpr ⟨lw_p51, List.forall_mem_cons.mpr ⟨lw_p52, List.forall_mem_cons.mpr ⟨lw_p53, List.forall_mem_cons.mpr ⟨lw_p54, List.forall_mem_cons.mpr ⟨lw_p55, List.forall_mem_cons.mpr ⟨lw_p56, List.forall_mem_cons.mpr ⟨lw_p57, List.forall_mem_cons.mpr ⟨lw_p58, List.forall_mem_cons.mpr ⟨lw_p59, List.forall_mem_cons.mpr ⟨lw_p60, List.forall_mem_cons.mpr ⟨lw_p61, List.forall_mem_cons.mpr ⟨lw_p62, fun _ h => absurd h List.not_mem_nil⟩⟩⟩⟩⟩⟩⟩⟩⟩⟩⟩⟩⟩⟩⟩
def lw_privs : List (MethodName × Nat) := lw_privs_1 ++ (lw_privs_2 ++ (lw_privs_3 ++ (lw_privs_4)))
def lw_tbl : List Cond := k2_sels lw_privs ++ tables_1
theorem lw_privs_ok : ∀ q ∈ lw_privs, lw_okq q := by
  show ∀ q ∈ lw_privs_1 ++ (lw_privs_2 ++ (lw_privs_3 ++ (lw_privs_4))), lw_okq q
  exact List.forall_mem_append.mpr ⟨lw_r1, List.forall_mem_append.mpr ⟨lw_r2, List.forall_mem_append.mpr ⟨lw_r3, lw_r4⟩⟩⟩
-- ===== end of PART A; then your names; then what follows =====
end
section
def RX0 : String := "LagoonOpera$Boats"
def TX0 : u_T := fun k => match k with
  | 0 => ("LagoonOpera$Boats", "afloat", "I", false)
  | 1 => ("LagoonOpera$Boats", "kinds", "[I", true)
  | 2 => ("LagoonOpera$Boats", "numbers", "[I", true)
  | 3 => ("LagoonOpera$Boats", "cells", "[I", true)
  | _ => ("LagoonOpera$Boats", "parts", "[I", true)
def tyX0 : Nat → FieldType := fun k => match k with
  | 0 => .int
  | 1 => .array .int
  | 2 => .array .int
  | 3 => .array .int
  | _ => .array .int
theorem nmX0 : ∀ a, a < 5 → ∀ b, b < 5 → a ≠ b → (TX0 a).2.1 ≠ (TX0 b).2.1 := by decide +kernel
theorem tyX0_ok : ∀ k, k < 5 → parseFieldDescriptor (TX0 k).2.2.1 = some (tyX0 k) := by decide +kernel
abbrev cX0_init : ByteArray := prog_2_method_1_code
def yX0_init : MethodName := ⟨RX0, "<init>", "()V"⟩
abbrev cX0_copy : ByteArray := prog_2_method_2_code
def yX0_copy : MethodName := ⟨RX0, "copy", "(LLagoonOpera$Boats;)V"⟩
abbrev cX0_hold : ByteArray := prog_2_method_3_code
def yX0_hold : MethodName := ⟨RX0, "hold", "(I)Z"⟩
abbrev cX0_launch : ByteArray := prog_2_method_4_code
def yX0_launch : MethodName := ⟨RX0, "launch", "(II)I"⟩
abbrev cX0_sings : ByteArray := prog_2_method_5_code
def yX0_sings : MethodName := ⟨RX0, "sings", "(II)Z"⟩
abbrev cX0_singers : ByteArray := prog_2_method_6_code
def yX0_singers : MethodName := ⟨RX0, "singers", "(I)I"⟩
abbrev cX0_later : ByteArray := prog_2_method_7_code
def yX0_later : MethodName := ⟨RX0, "later", "(I)I"⟩
abbrev cX0_behind : ByteArray := prog_2_method_8_code
def yX0_behind : MethodName := ⟨RX0, "behind", "(IIII)I"⟩
abbrev cX0_rocked : ByteArray := prog_2_method_9_code
def yX0_rocked : MethodName := ⟨RX0, "rocked", "(III)I"⟩
abbrev cX0_pulled : ByteArray := prog_2_method_10_code
def yX0_pulled : MethodName := ⟨RX0, "pulled", "(IIII)I"⟩
abbrev cX0_together : ByteArray := prog_2_method_11_code
def yX0_together : MethodName := ⟨RX0, "together", "(LLagoonOpera$Laws;[IIIII)Z"⟩
def RX1 : String := "LagoonOpera$Desk"
def TX1 : u_T := fun k => match k with
  | 0 => ("LagoonOpera$Desk", "tape", "[I", true)
  | 1 => ("LagoonOpera$Desk", "fed", "I", false)
  | 2 => ("LagoonOpera$Desk", "numbers", "[I", true)
  | _ => ("LagoonOpera$Desk", "waiting", "I", false)
def tyX1 : Nat → FieldType := fun k => match k with
  | 0 => .array .int
  | 1 => .int
  | 2 => .array .int
  | _ => .int
theorem nmX1 : ∀ a, a < 4 → ∀ b, b < 4 → a ≠ b → (TX1 a).2.1 ≠ (TX1 b).2.1 := by decide +kernel
theorem tyX1_ok : ∀ k, k < 4 → parseFieldDescriptor (TX1 k).2.2.1 = some (tyX1 k) := by decide +kernel
abbrev cX1_init : ByteArray := prog_3_method_1_code
def yX1_init : MethodName := ⟨RX1, "<init>", "()V"⟩
abbrev cX1_copy : ByteArray := prog_3_method_2_code
def yX1_copy : MethodName := ⟨RX1, "copy", "(LLagoonOpera$Desk;)V"⟩
abbrev cX1_take : ByteArray := prog_3_method_3_code
def yX1_take : MethodName := ⟨RX1, "take", "(JI)V"⟩
abbrev cX1_add : ByteArray := prog_3_method_4_code
def yX1_add : MethodName := ⟨RX1, "add", "(I)I"⟩
def RX2 : String := "LagoonOpera$Formula"
def TX2 : u_T := fun k => match k with
  | 0 => ("LagoonOpera$Formula", "length", "I", false)
  | 1 => ("LagoonOpera$Formula", "steps", "[I", true)
  | _ => ("LagoonOpera$Formula", "stack", "[I", true)
def tyX2 : Nat → FieldType := fun k => match k with
  | 0 => .int
  | 1 => .array .int
  | _ => .array .int
theorem nmX2 : ∀ a, a < 3 → ∀ b, b < 3 → a ≠ b → (TX2 a).2.1 ≠ (TX2 b).2.1 := by decide +kernel
theorem tyX2_ok : ∀ k, k < 3 → parseFieldDescriptor (TX2 k).2.2.1 = some (tyX2 k) := by decide +kernel
abbrev cX2_init : ByteArray := prog_4_method_1_code
def yX2_init : MethodName := ⟨RX2, "<init>", "()V"⟩
abbrev cX2_isThere : ByteArray := prog_4_method_2_code
def yX2_isThere : MethodName := ⟨RX2, "isThere", "()Z"⟩
abbrev cX2_copy : ByteArray := prog_4_method_3_code
def yX2_copy : MethodName := ⟨RX2, "copy", "(LLagoonOpera$Formula;)V"⟩
abbrev cX2_add : ByteArray := prog_4_method_4_code
def yX2_add : MethodName := ⟨RX2, "add", "(I)V"⟩
abbrev cX2_worth : ByteArray := prog_4_method_5_code
def yX2_worth : MethodName := ⟨RX2, "worth", "(III)I"⟩
abbrev cX2_joined : ByteArray := prog_4_method_6_code
def yX2_joined : MethodName := ⟨RX2, "joined", "(III)I"⟩
def RX3 : String := "LagoonOpera$Laws"
def TX3 : u_T := fun k => match k with
  | 0 => ("LagoonOpera$Laws", "speed", "I", false)
  | 1 => ("LagoonOpera$Laws", "tides", "[I", true)
  | 2 => ("LagoonOpera$Laws", "lags", "LLagoonOpera$Formula;", true)
  | 3 => ("LagoonOpera$Laws", "pays", "LLagoonOpera$Formula;", true)
  | _ => ("LagoonOpera$Laws", "given", "[I", true)
def tyX3 : Nat → FieldType := fun k => match k with
  | 0 => .int
  | 1 => .array .int
  | 2 => .object "LagoonOpera$Formula"
  | 3 => .object "LagoonOpera$Formula"
  | _ => .array .int
theorem nmX3 : ∀ a, a < 5 → ∀ b, b < 5 → a ≠ b → (TX3 a).2.1 ≠ (TX3 b).2.1 := by decide +kernel
theorem tyX3_ok : ∀ k, k < 5 → parseFieldDescriptor (TX3 k).2.2.1 = some (tyX3 k) := by decide +kernel
abbrev cX3_init : ByteArray := prog_5_method_1_code
def yX3_init : MethodName := ⟨RX3, "<init>", "()V"⟩
abbrev cX3_copy : ByteArray := prog_5_method_2_code
def yX3_copy : MethodName := ⟨RX3, "copy", "(LLagoonOpera$Laws;)V"⟩
abbrev cX3_adopt : ByteArray := prog_5_method_3_code
def yX3_adopt : MethodName := ⟨RX3, "adopt", "(ILLagoonOpera$Formula;)V"⟩
abbrev cX3_tideIn : ByteArray := prog_5_method_4_code
def yX3_tideIn : MethodName := ⟨RX3, "tideIn", "(I)I"⟩
abbrev cX3_lagBy : ByteArray := prog_5_method_5_code
def yX3_lagBy : MethodName := ⟨RX3, "lagBy", "(III)I"⟩
abbrev cX3_gives : ByteArray := prog_5_method_6_code
def yX3_gives : MethodName := ⟨RX3, "gives", "(IIII)I"⟩
abbrev cX3_withoutText : ByteArray := prog_5_method_7_code
def yX3_withoutText : MethodName := ⟨RX3, "withoutText", "(III)I"⟩
def RX4 : String := "LagoonOpera$Outlook"
def TX4 : u_T := fun k => match k with
  | 0 => ("LagoonOpera$Outlook", "boats", "LLagoonOpera$Boats;", true)
  | 1 => ("LagoonOpera$Outlook", "beat", "I", false)
  | 2 => ("LagoonOpera$Outlook", "n", "I", false)
  | 3 => ("LagoonOpera$Outlook", "cells", "[[I", true)
  | _ => ("LagoonOpera$Outlook", "singers", "[I", true)
def tyX4 : Nat → FieldType := fun k => match k with
  | 0 => .object "LagoonOpera$Boats"
  | 1 => .int
  | 2 => .int
  | 3 => .array (.array .int)
  | _ => .array .int
theorem nmX4 : ∀ a, a < 5 → ∀ b, b < 5 → a ≠ b → (TX4 a).2.1 ≠ (TX4 b).2.1 := by decide +kernel
theorem tyX4_ok : ∀ k, k < 5 → parseFieldDescriptor (TX4 k).2.2.1 = some (tyX4 k) := by decide +kernel
abbrev cX4_init : ByteArray := prog_6_method_1_code
def yX4_init : MethodName := ⟨RX4, "<init>", "()V"⟩
abbrev cX4_watch : ByteArray := prog_6_method_2_code
def yX4_watch : MethodName := ⟨RX4, "watch", "(LLagoonOpera$Scene;I)V"⟩
abbrev cX4_sail : ByteArray := prog_6_method_3_code
def yX4_sail : MethodName := ⟨RX4, "sail", "(LLagoonOpera$Laws;I)V"⟩
abbrev cX4_cellBehind : ByteArray := prog_6_method_4_code
def yX4_cellBehind : MethodName := ⟨RX4, "cellBehind", "(II)I"⟩
abbrev cX4_inTime : ByteArray := prog_6_method_5_code
def yX4_inTime : MethodName := ⟨RX4, "inTime", "(LLagoonOpera$Laws;II)I"⟩
def RX5 : String := "LagoonOpera$Reader"
def TX5 : u_T := fun k => match k with
  | 0 => ("LagoonOpera$Reader", "draft", "LLagoonOpera$Formula;", true)
  | 1 => ("LagoonOpera$Reader", "bytes", "[I", true)
  | 2 => ("LagoonOpera$Reader", "length", "I", false)
  | 3 => ("LagoonOpera$Reader", "next", "I", false)
  | _ => ("LagoonOpera$Reader", "use", "I", false)
def tyX5 : Nat → FieldType := fun k => match k with
  | 0 => .object "LagoonOpera$Formula"
  | 1 => .array .int
  | 2 => .int
  | 3 => .int
  | _ => .int
theorem nmX5 : ∀ a, a < 5 → ∀ b, b < 5 → a ≠ b → (TX5 a).2.1 ≠ (TX5 b).2.1 := by decide +kernel
theorem tyX5_ok : ∀ k, k < 5 → parseFieldDescriptor (TX5 k).2.2.1 = some (tyX5 k) := by decide +kernel
abbrev cX5_init : ByteArray := prog_7_method_1_code
def yX5_init : MethodName := ⟨RX5, "<init>", "()V"⟩
abbrev cX5_reads : ByteArray := prog_7_method_2_code
def yX5_reads : MethodName := ⟨RX5, "reads", "([III)Z"⟩
abbrev cX5_sign : ByteArray := prog_7_method_3_code
def yX5_sign : MethodName := ⟨RX5, "sign", "()I"⟩
abbrev cX5_takes : ByteArray := prog_7_method_4_code
def yX5_takes : MethodName := ⟨RX5, "takes", "(I)Z"⟩
abbrev cX5_readT : ByteArray := prog_7_method_5_code
def yX5_readT : MethodName := ⟨RX5, "readT", "(I)Z"⟩
abbrev cX5_readA : ByteArray := prog_7_method_6_code
def yX5_readA : MethodName := ⟨RX5, "readA", "(I)Z"⟩
abbrev cX5_readB : ByteArray := prog_7_method_7_code
def yX5_readB : MethodName := ⟨RX5, "readB", "(I)Z"⟩
abbrev cX5_readS : ByteArray := prog_7_method_8_code
def yX5_readS : MethodName := ⟨RX5, "readS", "(I)Z"⟩
abbrev cX5_readP : ByteArray := prog_7_method_9_code
def yX5_readP : MethodName := ⟨RX5, "readP", "(I)Z"⟩
abbrev cX5_readQ : ByteArray := prog_7_method_10_code
def yX5_readQ : MethodName := ⟨RX5, "readQ", "(I)Z"⟩
abbrev cX5_readNumber : ByteArray := prog_7_method_11_code
def yX5_readNumber : MethodName := ⟨RX5, "readNumber", "()V"⟩
abbrev cX5_readName : ByteArray := prog_7_method_12_code
def yX5_readName : MethodName := ⟨RX5, "readName", "()Z"⟩
abbrev cX5_isDigit : ByteArray := prog_7_method_13_code
def yX5_isDigit : MethodName := ⟨RX5, "isDigit", "(I)Z"⟩
def RX6 : String := "LagoonOpera$Scene"
def TX6 : u_T := fun k => match k with
  | 0 => ("LagoonOpera$Scene", "beat", "I", false)
  | 1 => ("LagoonOpera$Scene", "purse", "I", false)
  | 2 => ("LagoonOpera$Scene", "fog", "I", false)
  | 3 => ("LagoonOpera$Scene", "boats", "LLagoonOpera$Boats;", true)
  | 4 => ("LagoonOpera$Scene", "listeners", "I", false)
  | 5 => ("LagoonOpera$Scene", "places", "[I", true)
  | 6 => ("LagoonOpera$Scene", "inTime", "[I", true)
  | _ => ("LagoonOpera$Scene", "coins", "[I", true)
def tyX6 : Nat → FieldType := fun k => match k with
  | 0 => .int
  | 1 => .int
  | 2 => .int
  | 3 => .object "LagoonOpera$Boats"
  | 4 => .int
  | 5 => .array .int
  | 6 => .array .int
  | _ => .array .int
theorem nmX6 : ∀ a, a < 8 → ∀ b, b < 8 → a ≠ b → (TX6 a).2.1 ≠ (TX6 b).2.1 := by decide +kernel
theorem tyX6_ok : ∀ k, k < 8 → parseFieldDescriptor (TX6 k).2.2.1 = some (tyX6 k) := by decide +kernel
abbrev cX6_init : ByteArray := prog_8_method_1_code
def yX6_init : MethodName := ⟨RX6, "<init>", "()V"⟩
abbrev cX6_copy : ByteArray := prog_8_method_2_code
def yX6_copy : MethodName := ⟨RX6, "copy", "(LLagoonOpera$Scene;)V"⟩
abbrev cX6_pieceBeat : ByteArray := prog_8_method_3_code
def yX6_pieceBeat : MethodName := ⟨RX6, "pieceBeat", "()I"⟩
abbrev cX6_seats : ByteArray := prog_8_method_4_code
def yX6_seats : MethodName := ⟨RX6, "seats", "(I)Z"⟩
abbrev cX6_seat : ByteArray := prog_8_method_5_code
def yX6_seat : MethodName := ⟨RX6, "seat", "(I)I"⟩
abbrev cX6_allCoins : ByteArray := prog_8_method_6_code
def yX6_allCoins : MethodName := ⟨RX6, "allCoins", "()I"⟩
abbrev cX6_tellOf : ByteArray := prog_8_method_7_code
def yX6_tellOf : MethodName := ⟨RX6, "tellOf", "(LLagoonOpera$Laws;II)I"⟩
abbrev cX6_goBy : ByteArray := prog_8_method_8_code
def yX6_goBy : MethodName := ⟨RX6, "goBy", "(LLagoonOpera$Laws;Z)V"⟩
abbrev cX6_leftByFog : ByteArray := prog_8_method_9_code
def yX6_leftByFog : MethodName := ⟨RX6, "leftByFog", "(I)I"⟩
def RX7 : String := "LagoonOpera$Sheet"
def TX7 : u_T := fun k => match k with
  | 0 => ("LagoonOpera$Sheet", "bits", "I", false)
  | 1 => ("LagoonOpera$Sheet", "length", "I", false)
  | _ => ("LagoonOpera$Sheet", "numbers", "[I", true)
def tyX7 : Nat → FieldType := fun k => match k with
  | 0 => .int
  | 1 => .int
  | _ => .array .int
theorem nmX7 : ∀ a, a < 3 → ∀ b, b < 3 → a ≠ b → (TX7 a).2.1 ≠ (TX7 b).2.1 := by decide +kernel
theorem tyX7_ok : ∀ k, k < 3 → parseFieldDescriptor (TX7 k).2.2.1 = some (tyX7 k) := by decide +kernel
abbrev cX7_init : ByteArray := prog_9_method_1_code
def yX7_init : MethodName := ⟨RX7, "<init>", "()V"⟩
abbrev cX7_isMissing : ByteArray := prog_9_method_2_code
def yX7_isMissing : MethodName := ⟨RX7, "isMissing", "()Z"⟩
abbrev cX7_holds : ByteArray := prog_9_method_3_code
def yX7_holds : MethodName := ⟨RX7, "holds", "(I)Z"⟩
abbrev cX7_holdsFrom : ByteArray := prog_9_method_4_code
def yX7_holdsFrom : MethodName := ⟨RX7, "holdsFrom", "(II)Z"⟩
abbrev cX7_lay : ByteArray := prog_9_method_5_code
def yX7_lay : MethodName := ⟨RX7, "lay", "(II)V"⟩
abbrev cX7_write : ByteArray := prog_9_method_6_code
def yX7_write : MethodName := ⟨RX7, "write", "(II)V"⟩
abbrev cX7_readPart : ByteArray := prog_9_method_7_code
def yX7_readPart : MethodName := ⟨RX7, "readPart", "()I"⟩
def RX8 : String := "LagoonOpera$Voices"
def TX8 : u_T := fun k => match k with
  | 0 => ("LagoonOpera$Voices", "trace", "[I", true)
  | 1 => ("LagoonOpera$Voices", "bodies", "I", false)
  | 2 => ("LagoonOpera$Voices", "boat", "I", false)
  | 3 => ("LagoonOpera$Voices", "kind", "I", false)
  | _ => ("LagoonOpera$Voices", "number", "I", false)
def tyX8 : Nat → FieldType := fun k => match k with
  | 0 => .array .int
  | 1 => .int
  | 2 => .int
  | 3 => .int
  | _ => .int
theorem nmX8 : ∀ a, a < 5 → ∀ b, b < 5 → a ≠ b → (TX8 a).2.1 ≠ (TX8 b).2.1 := by decide +kernel
theorem tyX8_ok : ∀ k, k < 5 → parseFieldDescriptor (TX8 k).2.2.1 = some (tyX8 k) := by decide +kernel
abbrev cX8_init : ByteArray := prog_10_method_1_code
def yX8_init : MethodName := ⟨RX8, "<init>", "()V"⟩
abbrev cX8_raise : ByteArray := prog_10_method_2_code
def yX8_raise : MethodName := ⟨RX8, "raise", "(IIIII)I"⟩
abbrev cX8_own : ByteArray := prog_10_method_3_code
def yX8_own : MethodName := ⟨RX8, "own", "(III)I"⟩
abbrev cX8_from : ByteArray := prog_10_method_4_code
def yX8_from : MethodName := ⟨RX8, "from", "(IIII)I"⟩
abbrev cX8_bodyFrom : ByteArray := prog_10_method_5_code
def yX8_bodyFrom : MethodName := ⟨RX8, "bodyFrom", "(II)I"⟩
abbrev cX8_begin : ByteArray := prog_10_method_6_code
def yX8_begin : MethodName := ⟨RX8, "begin", "(I)V"⟩
def RX9 : String := "LagoonOpera"
def TX9 : u_T := fun k => match k with
  | 0 => ("LagoonOpera", "laws", "LLagoonOpera$Laws;", true)
  | 1 => ("LagoonOpera", "scene", "LLagoonOpera$Scene;", true)
  | 2 => ("LagoonOpera", "desk", "LLagoonOpera$Desk;", true)
  | 3 => ("LagoonOpera", "keptLaws", "LLagoonOpera$Laws;", true)
  | 4 => ("LagoonOpera", "keptScene", "LLagoonOpera$Scene;", true)
  | 5 => ("LagoonOpera", "keptDesk", "LLagoonOpera$Desk;", true)
  | 6 => ("LagoonOpera", "images", "I", false)
  | 7 => ("LagoonOpera", "sheets", "[LLagoonOpera$Sheet;", true)
  | 8 => ("LagoonOpera", "voices", "LLagoonOpera$Voices;", true)
  | 9 => ("LagoonOpera", "refusals", "[I", true)
  | 10 => ("LagoonOpera", "reader", "LLagoonOpera$Reader;", true)
  | 11 => ("LagoonOpera", "ahead", "LLagoonOpera$Scene;", true)
  | 12 => ("LagoonOpera", "outlook", "LLagoonOpera$Outlook;", true)
  | _ => ("LagoonOpera", "scores", "[I", true)
def tyX9 : Nat → FieldType := fun k => match k with
  | 0 => .object "LagoonOpera$Laws"
  | 1 => .object "LagoonOpera$Scene"
  | 2 => .object "LagoonOpera$Desk"
  | 3 => .object "LagoonOpera$Laws"
  | 4 => .object "LagoonOpera$Scene"
  | 5 => .object "LagoonOpera$Desk"
  | 6 => .int
  | 7 => .array (.object "LagoonOpera$Sheet")
  | 8 => .object "LagoonOpera$Voices"
  | 9 => .array .int
  | 10 => .object "LagoonOpera$Reader"
  | 11 => .object "LagoonOpera$Scene"
  | 12 => .object "LagoonOpera$Outlook"
  | _ => .array .int
theorem nmX9 : ∀ a, a < 14 → ∀ b, b < 14 → a ≠ b → (TX9 a).2.1 ≠ (TX9 b).2.1 := by decide +kernel
theorem tyX9_ok : ∀ k, k < 14 → parseFieldDescriptor (TX9 k).2.2.1 = some (tyX9 k) := by decide +kernel
abbrev cX9_init : ByteArray := prog_1_method_1_code
def yX9_init : MethodName := ⟨RX9, "<init>", "()V"⟩
abbrev cX9_tide : ByteArray := prog_1_method_2_code
def yX9_tide : MethodName := ⟨RX9, "tide", "(II)I"⟩
abbrev cX9_speed : ByteArray := prog_1_method_3_code
def yX9_speed : MethodName := ⟨RX9, "speed", "(I)I"⟩
abbrev cX9_boat : ByteArray := prog_1_method_4_code
def yX9_boat : MethodName := ⟨RX9, "boat", "(II)I"⟩
abbrev cX9_ofBoat : ByteArray := prog_1_method_5_code
def yX9_ofBoat : MethodName := ⟨RX9, "ofBoat", "(II)I"⟩
abbrev cX9_change : ByteArray := prog_1_method_6_code
def yX9_change : MethodName := ⟨RX9, "change", "(III)I"⟩
abbrev cX9_become : ByteArray := prog_1_method_7_code
def yX9_become : MethodName := ⟨RX9, "become", "(II)I"⟩
abbrev cX9_as : ByteArray := prog_1_method_8_code
def yX9_as : MethodName := ⟨RX9, "as", "(II)I"⟩
abbrev cX9_lag : ByteArray := prog_1_method_9_code
def yX9_lag : MethodName := ⟨RX9, "lag", "(II)I"⟩
abbrev cX9_listener : ByteArray := prog_1_method_10_code
def yX9_listener : MethodName := ⟨RX9, "listener", "(I)I"⟩
abbrev cX9_ofListener : ByteArray := prog_1_method_11_code
def yX9_ofListener : MethodName := ⟨RX9, "ofListener", "(II)I"⟩
abbrev cX9_row : ByteArray := prog_1_method_12_code
def yX9_row : MethodName := ⟨RX9, "row", "(II)I"⟩
abbrev cX9_feed : ByteArray := prog_1_method_13_code
def yX9_feed : MethodName := ⟨RX9, "feed", "(JI)I"⟩
abbrev cX9_text : ByteArray := prog_1_method_14_code
def yX9_text : MethodName := ⟨RX9, "text", "(I)I"⟩
abbrev cX9_law : ByteArray := prog_1_method_15_code
def yX9_law : MethodName := ⟨RX9, "law", "(IIII)I"⟩
abbrev cX9_beats : ByteArray := prog_1_method_16_code
def yX9_beats : MethodName := ⟨RX9, "beats", "(I)I"⟩
abbrev cX9_loose : ByteArray := prog_1_method_17_code
def yX9_loose : MethodName := ⟨RX9, "loose", "(I)I"⟩
abbrev cX9_then : ByteArray := prog_1_method_18_code
def yX9_then : MethodName := ⟨RX9, "then", "(II)I"⟩
abbrev cX9_thenListener : ByteArray := prog_1_method_19_code
def yX9_thenListener : MethodName := ⟨RX9, "thenListener", "(III)I"⟩
abbrev cX9_score : ByteArray := prog_1_method_20_code
def yX9_score : MethodName := ⟨RX9, "score", "(II)I"⟩
abbrev cX9_place : ByteArray := prog_1_method_21_code
def yX9_place : MethodName := ⟨RX9, "place", "(I)I"⟩
abbrev cX9_fromHere : ByteArray := prog_1_method_22_code
def yX9_fromHere : MethodName := ⟨RX9, "fromHere", "(I)J"⟩
abbrev cX9_mooring : ByteArray := prog_1_method_23_code
def yX9_mooring : MethodName := ⟨RX9, "mooring", "(III)I"⟩
abbrev cX9_sooner : ByteArray := prog_1_method_24_code
def yX9_sooner : MethodName := ⟨RX9, "sooner", "(III)I"⟩
abbrev cX9_fitSpeed : ByteArray := prog_1_method_25_code
def yX9_fitSpeed : MethodName := ⟨RX9, "fitSpeed", "(II)I"⟩
abbrev cX9_fromWhere : ByteArray := prog_1_method_26_code
def yX9_fromWhere : MethodName := ⟨RX9, "fromWhere", "(II)I"⟩
abbrev cX9_whereFrom : ByteArray := prog_1_method_27_code
def yX9_whereFrom : MethodName := ⟨RX9, "whereFrom", "(III)I"⟩
abbrev cX9_strokes : ByteArray := prog_1_method_28_code
def yX9_strokes : MethodName := ⟨RX9, "strokes", "(II)I"⟩
abbrev cX9_seed : ByteArray := prog_1_method_29_code
def yX9_seed : MethodName := ⟨RX9, "seed", "(I)I"⟩
abbrev cX9_voice : ByteArray := prog_1_method_30_code
def yX9_voice : MethodName := ⟨RX9, "voice", "(III)I"⟩
abbrev cX9_trace : ByteArray := prog_1_method_31_code
def yX9_trace : MethodName := ⟨RX9, "trace", "(I)I"⟩
abbrev cX9_sheet : ByteArray := prog_1_method_32_code
def yX9_sheet : MethodName := ⟨RX9, "sheet", "(III)I"⟩
abbrev cX9_put : ByteArray := prog_1_method_33_code
def yX9_put : MethodName := ⟨RX9, "put", "(III)I"⟩
abbrev cX9_move : ByteArray := prog_1_method_34_code
def yX9_move : MethodName := ⟨RX9, "move", "(IIIII)I"⟩
abbrev cX9_part : ByteArray := prog_1_method_35_code
def yX9_part : MethodName := ⟨RX9, "part", "(II)I"⟩
abbrev cX9_judge : ByteArray := prog_1_method_36_code
def yX9_judge : MethodName := ⟨RX9, "judge", "(II)I"⟩
abbrev cX9_image : ByteArray := prog_1_method_37_code
def yX9_image : MethodName := ⟨RX9, "image", "()I"⟩
abbrev cX9_restore : ByteArray := prog_1_method_38_code
def yX9_restore : MethodName := ⟨RX9, "restore", "()I"⟩
abbrev cX9_tell : ByteArray := prog_1_method_39_code
def yX9_tell : MethodName := ⟨RX9, "tell", "(I)I"⟩
abbrev cX9_check : ByteArray := prog_1_method_40_code
def yX9_check : MethodName := ⟨RX9, "check", "(I)I"⟩
abbrev cX9_count : ByteArray := prog_1_method_41_code
def yX9_count : MethodName := ⟨RX9, "count", "(I)I"⟩
abbrev cX9_told : ByteArray := prog_1_method_42_code
def yX9_told : MethodName := ⟨RX9, "told", "(I)I"⟩
abbrev cX9_refuse : ByteArray := prog_1_method_43_code
def yX9_refuse : MethodName := ⟨RX9, "refuse", "(I)I"⟩
abbrev cX9_goOn : ByteArray := prog_1_method_44_code
def yX9_goOn : MethodName := ⟨RX9, "goOn", "(IZ)I"⟩
abbrev cX9_watchAll : ByteArray := prog_1_method_45_code
def yX9_watchAll : MethodName := ⟨RX9, "watchAll", "(I)V"⟩
abbrev cX9_scoreAll : ByteArray := prog_1_method_46_code
def yX9_scoreAll : MethodName := ⟨RX9, "scoreAll", "(I)V"⟩
abbrev cX9_origins : ByteArray := prog_1_method_47_code
def yX9_origins : MethodName := ⟨RX9, "origins", "(II)J"⟩
abbrev cX9_isHeardBehind : ByteArray := prog_1_method_48_code
def yX9_isHeardBehind : MethodName := ⟨RX9, "isHeardBehind", "(III)Z"⟩
abbrev cX9_sheetOf : ByteArray := prog_1_method_49_code
def yX9_sheetOf : MethodName := ⟨RX9, "sheetOf", "(I)LLagoonOpera$Sheet;"⟩
abbrev cX9_within : ByteArray := prog_1_method_50_code
def yX9_within : MethodName := ⟨RX9, "within", "(III)Z"⟩
abbrev cX9_isCell : ByteArray := prog_1_method_51_code
def yX9_isCell : MethodName := ⟨RX9, "isCell", "(I)Z"⟩
abbrev cX9_isAhead : ByteArray := prog_1_method_52_code
def yX9_isAhead : MethodName := ⟨RX9, "isAhead", "(I)Z"⟩
abbrev cX9_isKindAndNumber : ByteArray := prog_1_method_53_code
def yX9_isKindAndNumber : MethodName := ⟨RX9, "isKindAndNumber", "(I)Z"⟩
abbrev cX9_areThreeCells : ByteArray := prog_1_method_54_code
def yX9_areThreeCells : MethodName := ⟨RX9, "areThreeCells", "(I)Z"⟩
abbrev cX9_areThreeLags : ByteArray := prog_1_method_55_code
def yX9_areThreeLags : MethodName := ⟨RX9, "areThreeLags", "(I)Z"⟩
abbrev cX9_above : ByteArray := prog_1_method_56_code
def yX9_above : MethodName := ⟨RX9, "above", "(I)I"⟩
abbrev cX9_isUnder : ByteArray := prog_1_method_57_code
def yX9_isUnder : MethodName := ⟨RX9, "isUnder", "(II)Z"⟩
abbrev cX9_far : ByteArray := prog_1_method_58_code
def yX9_far : MethodName := ⟨RX9, "far", "(II)I"⟩
abbrev cX9_nextCell : ByteArray := prog_1_method_59_code
def yX9_nextCell : MethodName := ⟨RX9, "nextCell", "(II)I"⟩
abbrev cX9_firstOfMost : ByteArray := prog_1_method_60_code
def yX9_firstOfMost : MethodName := ⟨RX9, "firstOfMost", "([II)I"⟩
def RX10 : String := "LagoonOperaModel"
def TX10 : u_T := fun k => match k with
  | 0 => ("LagoonOperaModel", "now", "[I", true)
  | 1 => ("LagoonOperaModel", "kept", "[I", true)
  | 2 => ("LagoonOperaModel", "aside", "[I", true)
  | 3 => ("LagoonOperaModel", "images", "I", false)
  | 4 => ("LagoonOperaModel", "errors", "[I", true)
  | 5 => ("LagoonOperaModel", "lagFound", "[I", true)
  | 6 => ("LagoonOperaModel", "NAMED", "[Ljava/lang/String;", true)
  | 7 => ("LagoonOperaModel", "at", "I", false)
  | 8 => ("LagoonOperaModel", "open", "I", false)
  | 9 => ("LagoonOperaModel", "use", "I", false)
  | 10 => ("LagoonOperaModel", "isWrong", "Z", false)
  | 11 => ("LagoonOperaModel", "code", "[I", true)
  | 12 => ("LagoonOperaModel", "coded", "I", false)
  | 13 => ("LagoonOperaModel", "named", "[I", true)
  | 14 => ("LagoonOperaModel", "pile", "[I", true)
  | 15 => ("LagoonOperaModel", "scores", "[I", true)
  | 16 => ("LagoonOperaModel", "trace", "[I", true)
  | 17 => ("LagoonOperaModel", "traced", "I", false)
  | 18 => ("LagoonOperaModel", "speaker", "I", false)
  | 19 => ("LagoonOperaModel", "widths", "[I", true)
  | 20 => ("LagoonOperaModel", "sizes", "[I", true)
  | 21 => ("LagoonOperaModel", "numbers", "[I", true)
  | _ => ("LagoonOperaModel", "carried", "[I", true)
def tyX10 : Nat → FieldType := fun k => match k with
  | 0 => .array .int
  | 1 => .array .int
  | 2 => .array .int
  | 3 => .int
  | 4 => .array .int
  | 5 => .array .int
  | 6 => .array (.object "java/lang/String")
  | 7 => .int
  | 8 => .int
  | 9 => .int
  | 10 => .boolean
  | 11 => .array .int
  | 12 => .int
  | 13 => .array .int
  | 14 => .array .int
  | 15 => .array .int
  | 16 => .array .int
  | 17 => .int
  | 18 => .int
  | 19 => .array .int
  | 20 => .array .int
  | 21 => .array .int
  | _ => .array .int
theorem nmX10 : ∀ a, a < 23 → ∀ b, b < 23 → a ≠ b → (TX10 a).2.1 ≠ (TX10 b).2.1 := by decide +kernel
theorem tyX10_ok : ∀ k, k < 23 → parseFieldDescriptor (TX10 k).2.2.1 = some (tyX10 k) := by decide +kernel
abbrev cX10_init : ByteArray := prog_12_method_1_code
def yX10_init : MethodName := ⟨RX10, "<init>", "()V"⟩
abbrev cX10_finding : ByteArray := prog_12_method_2_code
def yX10_finding : MethodName := ⟨RX10, "finding", "(I)I"⟩
abbrev cX10_within : ByteArray := prog_12_method_3_code
def yX10_within : MethodName := ⟨RX10, "within", "(III)Z"⟩
abbrev cX10_held : ByteArray := prog_12_method_4_code
def yX10_held : MethodName := ⟨RX10, "held", "(III)I"⟩
abbrev cX10_is : ByteArray := prog_12_method_5_code
def yX10_is : MethodName := ⟨RX10, "is", "(II)Z"⟩
abbrev cX10_copy : ByteArray := prog_12_method_6_code
def yX10_copy : MethodName := ⟨RX10, "copy", "([I[I)V"⟩
abbrev cX10_putIn : ByteArray := prog_12_method_7_code
def yX10_putIn : MethodName := ⟨RX10, "putIn", "(II)I"⟩
abbrev cX10_putBack : ByteArray := prog_12_method_8_code
def yX10_putBack : MethodName := ⟨RX10, "putBack", "(I)I"⟩
abbrev cX10_isCell : ByteArray := prog_12_method_9_code
def yX10_isCell : MethodName := ⟨RX10, "isCell", "(I)Z"⟩
abbrev cX10_tide : ByteArray := prog_12_method_10_code
def yX10_tide : MethodName := ⟨RX10, "tide", "(II)I"⟩
abbrev cX10_speed : ByteArray := prog_12_method_11_code
def yX10_speed : MethodName := ⟨RX10, "speed", "(I)I"⟩
abbrev cX10_boatIs : ByteArray := prog_12_method_12_code
def yX10_boatIs : MethodName := ⟨RX10, "boatIs", "(II)I"⟩
abbrev cX10_listenerIs : ByteArray := prog_12_method_13_code
def yX10_listenerIs : MethodName := ⟨RX10, "listenerIs", "(II)I"⟩
abbrev cX10_boat : ByteArray := prog_12_method_14_code
def yX10_boat : MethodName := ⟨RX10, "boat", "(II)I"⟩
abbrev cX10_beat : ByteArray := prog_12_method_15_code
def yX10_beat : MethodName := ⟨RX10, "beat", "()I"⟩
abbrev cX10_sings : ByteArray := prog_12_method_16_code
def yX10_sings : MethodName := ⟨RX10, "sings", "(I)Z"⟩
abbrev cX10_ofBoat : ByteArray := prog_12_method_17_code
def yX10_ofBoat : MethodName := ⟨RX10, "ofBoat", "(II)I"⟩
abbrev cX10_change : ByteArray := prog_12_method_18_code
def yX10_change : MethodName := ⟨RX10, "change", "(III)I"⟩
abbrev cX10_become : ByteArray := prog_12_method_19_code
def yX10_become : MethodName := ⟨RX10, "become", "(II)I"⟩
abbrev cX10_above : ByteArray := prog_12_method_20_code
def yX10_above : MethodName := ⟨RX10, "above", "(I)I"⟩
abbrev cX10_as : ByteArray := prog_12_method_21_code
def yX10_as : MethodName := ⟨RX10, "as", "(II)I"⟩
abbrev cX10_far : ByteArray := prog_12_method_22_code
def yX10_far : MethodName := ⟨RX10, "far", "(II)I"⟩
abbrev cX10_forgetLags : ByteArray := prog_12_method_23_code
def yX10_forgetLags : MethodName := ⟨RX10, "forgetLags", "()V"⟩
abbrev cX10_lags : ByteArray := prog_12_method_24_code
def yX10_lags : MethodName := ⟨RX10, "lags", "(II)I"⟩
abbrev cX10_comes : ByteArray := prog_12_method_25_code
def yX10_comes : MethodName := ⟨RX10, "comes", "(II)I"⟩
abbrev cX10_lag : ByteArray := prog_12_method_26_code
def yX10_lag : MethodName := ⟨RX10, "lag", "(II)I"⟩
abbrev cX10_listener : ByteArray := prog_12_method_27_code
def yX10_listener : MethodName := ⟨RX10, "listener", "(I)I"⟩
abbrev cX10_singers : ByteArray := prog_12_method_28_code
def yX10_singers : MethodName := ⟨RX10, "singers", "()I"⟩
abbrev cX10_bits : ByteArray := prog_12_method_29_code
def yX10_bits : MethodName := ⟨RX10, "bits", "(I)I"⟩
abbrev cX10_isTogether : ByteArray := prog_12_method_30_code
def yX10_isTogether : MethodName := ⟨RX10, "isTogether", "(II)Z"⟩
abbrev cX10_ofOne : ByteArray := prog_12_method_31_code
def yX10_ofOne : MethodName := ⟨RX10, "ofOne", "(II)I"⟩
abbrev cX10_ofListener : ByteArray := prog_12_method_32_code
def yX10_ofListener : MethodName := ⟨RX10, "ofListener", "(II)I"⟩
abbrev cX10_row : ByteArray := prog_12_method_33_code
def yX10_row : MethodName := ⟨RX10, "row", "(II)I"⟩
abbrev cX10_feed : ByteArray := prog_12_method_34_code
def yX10_feed : MethodName := ⟨RX10, "feed", "(JI)I"⟩
abbrev cX10_here : ByteArray := prog_12_method_35_code
def yX10_here : MethodName := ⟨RX10, "here", "()I"⟩
abbrev cX10_takes : ByteArray := prog_12_method_36_code
def yX10_takes : MethodName := ⟨RX10, "takes", "(I)Z"⟩
abbrev cX10_codes : ByteArray := prog_12_method_37_code
def yX10_codes : MethodName := ⟨RX10, "codes", "(I)V"⟩
abbrev cX10_either : ByteArray := prog_12_method_38_code
def yX10_either : MethodName := ⟨RX10, "either", "()V"⟩
abbrev cX10_both : ByteArray := prog_12_method_39_code
def yX10_both : MethodName := ⟨RX10, "both", "()V"⟩
abbrev cX10_compared : ByteArray := prog_12_method_40_code
def yX10_compared : MethodName := ⟨RX10, "compared", "()V"⟩
abbrev cX10_sum : ByteArray := prog_12_method_41_code
def yX10_sum : MethodName := ⟨RX10, "sum", "()V"⟩
abbrev cX10_product : ByteArray := prog_12_method_42_code
def yX10_product : MethodName := ⟨RX10, "product", "()V"⟩
abbrev cX10_nameOf : ByteArray := prog_12_method_43_code
def yX10_nameOf : MethodName := ⟨RX10, "nameOf", "(I)I"⟩
abbrev cX10_one : ByteArray := prog_12_method_44_code
def yX10_one : MethodName := ⟨RX10, "one", "()V"⟩
abbrev cX10_text : ByteArray := prog_12_method_45_code
def yX10_text : MethodName := ⟨RX10, "text", "(I)I"⟩
abbrev cX10_done : ByteArray := prog_12_method_46_code
def yX10_done : MethodName := ⟨RX10, "done", "(III)I"⟩
abbrev cX10_worked : ByteArray := prog_12_method_47_code
def yX10_worked : MethodName := ⟨RX10, "worked", "(I)I"⟩
abbrev cX10_hasText : ByteArray := prog_12_method_48_code
def yX10_hasText : MethodName := ⟨RX10, "hasText", "(I)Z"⟩
abbrev cX10_given : ByteArray := prog_12_method_49_code
def yX10_given : MethodName := ⟨RX10, "given", "(IIII)I"⟩
abbrev cX10_law : ByteArray := prog_12_method_50_code
def yX10_law : MethodName := ⟨RX10, "law", "(IIII)I"⟩
abbrev cX10_drawn : ByteArray := prog_12_method_51_code
def yX10_drawn : MethodName := ⟨RX10, "drawn", "(I)I"⟩
abbrev cX10_next : ByteArray := prog_12_method_52_code
def yX10_next : MethodName := ⟨RX10, "next", "(II)I"⟩
abbrev cX10_movesTo : ByteArray := prog_12_method_53_code
def yX10_movesTo : MethodName := ⟨RX10, "movesTo", "(I)I"⟩
abbrev cX10_listen : ByteArray := prog_12_method_54_code
def yX10_listen : MethodName := ⟨RX10, "listen", "(I)V"⟩
abbrev cX10_moveAll : ByteArray := prog_12_method_55_code
def yX10_moveAll : MethodName := ⟨RX10, "moveAll", "()V"⟩
abbrev cX10_beatsGo : ByteArray := prog_12_method_56_code
def yX10_beatsGo : MethodName := ⟨RX10, "beatsGo", "(IZ)V"⟩
abbrev cX10_go : ByteArray := prog_12_method_57_code
def yX10_go : MethodName := ⟨RX10, "go", "(IZ)I"⟩
abbrev cX10_beats : ByteArray := prog_12_method_58_code
def yX10_beats : MethodName := ⟨RX10, "beats", "(I)I"⟩
abbrev cX10_loose : ByteArray := prog_12_method_59_code
def yX10_loose : MethodName := ⟨RX10, "loose", "(I)I"⟩
abbrev cX10_isAhead : ByteArray := prog_12_method_60_code
def yX10_isAhead : MethodName := ⟨RX10, "isAhead", "(I)Z"⟩
abbrev cX10_then : ByteArray := prog_12_method_61_code
def yX10_then : MethodName := ⟨RX10, "then", "(II)I"⟩
abbrev cX10_thenListener : ByteArray := prog_12_method_62_code
def yX10_thenListener : MethodName := ⟨RX10, "thenListener", "(III)I"⟩
abbrev cX10_scoreBy : ByteArray := prog_12_method_63_code
def yX10_scoreBy : MethodName := ⟨RX10, "scoreBy", "(II)I"⟩
abbrev cX10_score : ByteArray := prog_12_method_64_code
def yX10_score : MethodName := ⟨RX10, "score", "(II)I"⟩
abbrev cX10_findScores : ByteArray := prog_12_method_65_code
def yX10_findScores : MethodName := ⟨RX10, "findScores", "(I)I"⟩
abbrev cX10_place : ByteArray := prog_12_method_66_code
def yX10_place : MethodName := ⟨RX10, "place", "(I)I"⟩
abbrev cX10_fromHere : ByteArray := prog_12_method_67_code
def yX10_fromHere : MethodName := ⟨RX10, "fromHere", "(I)J"⟩
abbrev cX10_mooring : ByteArray := prog_12_method_68_code
def yX10_mooring : MethodName := ⟨RX10, "mooring", "(III)I"⟩
abbrev cX10_sooner : ByteArray := prog_12_method_69_code
def yX10_sooner : MethodName := ⟨RX10, "sooner", "(III)I"⟩
abbrev cX10_fitSpeed : ByteArray := prog_12_method_70_code
def yX10_fitSpeed : MethodName := ⟨RX10, "fitSpeed", "(II)I"⟩
abbrev cX10_areTold : ByteArray := prog_12_method_71_code
def yX10_areTold : MethodName := ⟨RX10, "areTold", "(II)Z"⟩
abbrev cX10_mayBeFrom : ByteArray := prog_12_method_72_code
def yX10_mayBeFrom : MethodName := ⟨RX10, "mayBeFrom", "(III)Z"⟩
abbrev cX10_fromWhere : ByteArray := prog_12_method_73_code
def yX10_fromWhere : MethodName := ⟨RX10, "fromWhere", "(II)I"⟩
abbrev cX10_whereFrom : ByteArray := prog_12_method_74_code
def yX10_whereFrom : MethodName := ⟨RX10, "whereFrom", "(III)I"⟩
abbrev cX10_strokes : ByteArray := prog_12_method_75_code
def yX10_strokes : MethodName := ⟨RX10, "strokes", "(II)I"⟩
abbrev cX10_seed : ByteArray := prog_12_method_76_code
def yX10_seed : MethodName := ⟨RX10, "seed", "(I)I"⟩
abbrev cX10_began : ByteArray := prog_12_method_77_code
def yX10_began : MethodName := ⟨RX10, "began", "(I)V"⟩
abbrev cX10_hasOwn : ByteArray := prog_12_method_78_code
def yX10_hasOwn : MethodName := ⟨RX10, "hasOwn", "(II)Z"⟩
abbrev cX10_voiced : ByteArray := prog_12_method_79_code
def yX10_voiced : MethodName := ⟨RX10, "voiced", "(II)I"⟩
abbrev cX10_bodyFrom : ByteArray := prog_12_method_80_code
def yX10_bodyFrom : MethodName := ⟨RX10, "bodyFrom", "(III)I"⟩
abbrev cX10_body : ByteArray := prog_12_method_81_code
def yX10_body : MethodName := ⟨RX10, "body", "(III)I"⟩
abbrev cX10_voice : ByteArray := prog_12_method_82_code
def yX10_voice : MethodName := ⟨RX10, "voice", "(III)I"⟩
abbrev cX10_trace : ByteArray := prog_12_method_83_code
def yX10_trace : MethodName := ⟨RX10, "trace", "(I)I"⟩
abbrev cX10_isSheet : ByteArray := prog_12_method_84_code
def yX10_isSheet : MethodName := ⟨RX10, "isSheet", "(I)Z"⟩
abbrev cX10_sheet : ByteArray := prog_12_method_85_code
def yX10_sheet : MethodName := ⟨RX10, "sheet", "(III)I"⟩
abbrev cX10_put : ByteArray := prog_12_method_86_code
def yX10_put : MethodName := ⟨RX10, "put", "(III)I"⟩
abbrev cX10_move : ByteArray := prog_12_method_87_code
def yX10_move : MethodName := ⟨RX10, "move", "(IIIII)I"⟩
abbrev cX10_refuses : ByteArray := prog_12_method_88_code
def yX10_refuses : MethodName := ⟨RX10, "refuses", "(II)I"⟩
abbrev cX10_part : ByteArray := prog_12_method_89_code
def yX10_part : MethodName := ⟨RX10, "part", "(II)I"⟩
abbrev cX10_judge : ByteArray := prog_12_method_90_code
def yX10_judge : MethodName := ⟨RX10, "judge", "(II)I"⟩
abbrev cX10_image : ByteArray := prog_12_method_91_code
def yX10_image : MethodName := ⟨RX10, "image", "()I"⟩
abbrev cX10_restore : ByteArray := prog_12_method_92_code
def yX10_restore : MethodName := ⟨RX10, "restore", "()I"⟩
abbrev cX10_tell : ByteArray := prog_12_method_93_code
def yX10_tell : MethodName := ⟨RX10, "tell", "(I)I"⟩
abbrev cX10_check : ByteArray := prog_12_method_94_code
def yX10_check : MethodName := ⟨RX10, "check", "(I)I"⟩
abbrev cX10_count : ByteArray := prog_12_method_95_code
def yX10_count : MethodName := ⟨RX10, "count", "(I)I"⟩
abbrev cX10_told : ByteArray := prog_12_method_96_code
def yX10_told : MethodName := ⟨RX10, "told", "(I)I"⟩
def RJx145de : String := "java/io/Serializable"
def TJx145de : u_T := fun k => match k with
  | _ => ("", "", "", false)
def tyJx145de : Nat → FieldType := fun k => match k with
  | _ => .int
def RJx9f9b0 : String := "java/lang/CharSequence"
def TJx9f9b0 : u_T := fun k => match k with
  | _ => ("", "", "", false)
def tyJx9f9b0 : Nat → FieldType := fun k => match k with
  | _ => .int
def RJxb160c : String := "java/lang/Comparable"
def TJxb160c : u_T := fun k => match k with
  | _ => ("", "", "", false)
def tyJxb160c : Nat → FieldType := fun k => match k with
  | _ => .int
def RJ6 : String := "java/lang/Integer"
def TJ6 : u_T := fun k => match k with
  | _ => ("", "", "", false)
def tyJ6 : Nat → FieldType := fun k => match k with
  | _ => .int
abbrev cJ6_bitCount_0f7a4 : ByteArray := prog_13_method_49_code
def yJ6_bitCount_0f7a4 : MethodName := ⟨RJ6, "bitCount", "(I)I"⟩
abbrev cJ6_rotateRight_7cf53 : ByteArray := prog_13_method_51_code
def yJ6_rotateRight_7cf53 : MethodName := ⟨RJ6, "rotateRight", "(II)I"⟩
def RJ13 : String := "java/lang/Long"
def TJ13 : u_T := fun k => match k with
  | _ => ("", "", "", false)
def tyJ13 : Nat → FieldType := fun k => match k with
  | _ => .int
abbrev cJ13_bitCount_95d88 : ByteArray := prog_14_method_50_code
def yJ13_bitCount_95d88 : MethodName := ⟨RJ13, "bitCount", "(J)I"⟩
def RJ9 : String := "java/lang/Math"
def TJ9 : u_T := fun k => match k with
  | _ => ("", "", "", false)
def tyJ9 : Nat → FieldType := fun k => match k with
  | _ => .int
abbrev cJ9_abs_0f7a4 : ByteArray := prog_15_method_59_code
def yJ9_abs_0f7a4 : MethodName := ⟨RJ9, "abs", "(I)I"⟩
abbrev cJ9_max_7cf53 : ByteArray := prog_15_method_65_code
def yJ9_max_7cf53 : MethodName := ⟨RJ9, "max", "(II)I"⟩
abbrev cJ9_min_7cf53 : ByteArray := prog_15_method_69_code
def yJ9_min_7cf53 : MethodName := ⟨RJ9, "min", "(II)I"⟩
def RJ0 : String := "java/lang/String"
def TJ0 : u_T := fun k => match k with
  | _ => ("", "", "", false)
def tyJ0 : Nat → FieldType := fun k => match k with
  | _ => .int
abbrev cJ0_length_8abf5 : ByteArray := prog_16_method_54_code
def yJ0_length_8abf5 : MethodName := ⟨RJ0, "length", "()I"⟩
abbrev cJ0_charAt_5068e : ByteArray := prog_16_method_56_code
def yJ0_charAt_5068e : MethodName := ⟨RJ0, "charAt", "(I)C"⟩
abbrev cJ0_coder_7d493 : ByteArray := prog_16_method_152_code
def yJ0_coder_7d493 : MethodName := ⟨RJ0, "coder", "()B"⟩
abbrev cJ0_isLatin1_aae02 : ByteArray := prog_16_method_154_code
def yJ0_isLatin1_aae02 : MethodName := ⟨RJ0, "isLatin1", "()Z"⟩
abbrev cJ0_checkIndex_df160 : ByteArray := prog_16_method_155_code
def yJ0_checkIndex_df160 : MethodName := ⟨RJ0, "checkIndex", "(II)V"⟩
def RJ1 : String := "java/lang/StringLatin1"
def TJ1 : u_T := fun k => match k with
  | _ => ("", "", "", false)
def tyJ1 : Nat → FieldType := fun k => match k with
  | _ => .int
abbrev cJ1_charAt_3b067 : ByteArray := prog_17_method_2_code
def yJ1_charAt_3b067 : MethodName := ⟨RJ1, "charAt", "([BI)C"⟩
def RJ2 : String := "java/lang/StringUTF16"
def TJ2 : u_T := fun k => match k with
  | _ => ("", "", "", false)
def tyJ2 : Nat → FieldType := fun k => match k with
  | _ => .int
abbrev cJ2_getChar_3b067 : ByteArray := prog_18_method_5_code
def yJ2_getChar_3b067 : MethodName := ⟨RJ2, "getChar", "([BI)C"⟩
abbrev cJ2_length_9d52b : ByteArray := prog_18_method_6_code
def yJ2_length_9d52b : MethodName := ⟨RJ2, "length", "([B)I"⟩
abbrev cJ2_charAt_3b067 : ByteArray := prog_18_method_83_code
def yJ2_charAt_3b067 : MethodName := ⟨RJ2, "charAt", "([BI)C"⟩
abbrev cJ2_checkIndex_2214a : ByteArray := prog_18_method_91_code
def yJ2_checkIndex_2214a : MethodName := ⟨RJ2, "checkIndex", "(I[B)V"⟩
def RJ10 : String := "java/lang/System"
def TJ10 : u_T := fun k => match k with
  | _ => ("", "", "", false)
def tyJ10 : Nat → FieldType := fun k => match k with
  | _ => .int
def RJxfd54e : String := "java/lang/constant/Constable"
def TJxfd54e : u_T := fun k => match k with
  | _ => ("", "", "", false)
def tyJxfd54e : Nat → FieldType := fun k => match k with
  | _ => .int
def RJx3cf43 : String := "java/lang/constant/ConstantDesc"
def TJx3cf43 : u_T := fun k => match k with
  | _ => ("", "", "", false)
def tyJx3cf43 : Nat → FieldType := fun k => match k with
  | _ => .int
def RJ7 : String := "java/util/Arrays"
def TJ7 : u_T := fun k => match k with
  | _ => ("", "", "", false)
def tyJ7 : Nat → FieldType := fun k => match k with
  | _ => .int
abbrev cJ7_fill_53178 : ByteArray := prog_20_method_103_code
def yJ7_fill_53178 : MethodName := ⟨RJ7, "fill", "([II)V"⟩
def RJ3 : String := "jdk/internal/util/Preconditions"
def TJ3 : u_T := fun k => match k with
  | _ => ("", "", "", false)
def tyJ3 : Nat → FieldType := fun k => match k with
  | _ => .int
abbrev cJ3_checkIndex_8e157 : ByteArray := prog_21_method_11_code
def yJ3_checkIndex_8e157 : MethodName := ⟨RJ3, "checkIndex", "(IILjava/util/function/BiFunction;)I"⟩
def RL : String := "LagoonOperaLaw"
abbrev cL_law : ByteArray := code
def yL_law : MethodName := ⟨RL, "law", "([I)Z"⟩
abbrev vwCl : List vw_C := [(RX0, TX0, 5), (RX1, TX1, 4), (RX2, TX2, 3), (RX3, TX3, 5), (RX4, TX4, 5), (RX5, TX5, 5), (RX6, TX6, 8), (RX7, TX7, 3), (RX8, TX8, 5), (RX9, TX9, 14), (RX10, TX10, 23)]
end
section
theorem dX0_init_0 : decode cX0_init 0 = .ok (.aload_n 0, 1) := by decide +kernel
theorem dX0_init_1 : decode cX0_init 1 = .ok (.invokespecial 3, 3) := by decide +kernel
theorem dX0_init_4 : decode cX0_init 4 = .ok (.aload_n 0, 1) := by decide +kernel
theorem dX0_init_5 : decode cX0_init 5 = .ok (.bipush 9, 2) := by decide +kernel
theorem dX0_init_7 : decode cX0_init 7 = .ok (.newarray .int, 2) := by decide +kernel
theorem dX0_init_9 : decode cX0_init 9 = .ok (.putfield 9, 3) := by decide +kernel
theorem dX0_init_12 : decode cX0_init 12 = .ok (.aload_n 0, 1) := by decide +kernel
theorem dX0_init_13 : decode cX0_init 13 = .ok (.bipush 9, 2) := by decide +kernel
theorem dX0_init_15 : decode cX0_init 15 = .ok (.newarray .int, 2) := by decide +kernel
theorem dX0_init_17 : decode cX0_init 17 = .ok (.putfield 15, 3) := by decide +kernel
theorem dX0_init_20 : decode cX0_init 20 = .ok (.aload_n 0, 1) := by decide +kernel
theorem dX0_init_21 : decode cX0_init 21 = .ok (.bipush 9, 2) := by decide +kernel
theorem dX0_init_23 : decode cX0_init 23 = .ok (.newarray .int, 2) := by decide +kernel
theorem dX0_init_25 : decode cX0_init 25 = .ok (.putfield 18, 3) := by decide +kernel
theorem dX0_init_28 : decode cX0_init 28 = .ok (.aload_n 0, 1) := by decide +kernel
theorem dX0_init_29 : decode cX0_init 29 = .ok (.bipush 9, 2) := by decide +kernel
theorem dX0_init_31 : decode cX0_init 31 = .ok (.newarray .int, 2) := by decide +kernel
theorem dX0_init_33 : decode cX0_init 33 = .ok (.putfield 21, 3) := by decide +kernel
theorem dX0_init_36 : decode cX0_init 36 = .ok (.return_, 1) := by decide +kernel
theorem dX0_copy_0 : decode cX0_copy 0 = .ok (.aload_n 0, 1) := by decide +kernel
theorem dX0_copy_1 : decode cX0_copy 1 = .ok (.aload_n 1, 1) := by decide +kernel
theorem dX0_copy_2 : decode cX0_copy 2 = .ok (.getfield 24, 3) := by decide +kernel
theorem dX0_copy_5 : decode cX0_copy 5 = .ok (.putfield 24, 3) := by decide +kernel
theorem dX0_copy_8 : decode cX0_copy 8 = .ok (.aload_n 1, 1) := by decide +kernel
theorem dX0_copy_9 : decode cX0_copy 9 = .ok (.getfield 9, 3) := by decide +kernel
theorem dX0_copy_12 : decode cX0_copy 12 = .ok (.iconst 0, 1) := by decide +kernel
theorem dX0_copy_13 : decode cX0_copy 13 = .ok (.aload_n 0, 1) := by decide +kernel
theorem dX0_copy_14 : decode cX0_copy 14 = .ok (.getfield 9, 3) := by decide +kernel
theorem dX0_copy_17 : decode cX0_copy 17 = .ok (.iconst 0, 1) := by decide +kernel
theorem dX0_copy_18 : decode cX0_copy 18 = .ok (.bipush 9, 2) := by decide +kernel
theorem dX0_copy_20 : decode cX0_copy 20 = .ok (.invokestatic 28, 3) := by decide +kernel
theorem dX0_copy_23 : decode cX0_copy 23 = .ok (.aload_n 1, 1) := by decide +kernel
theorem dX0_copy_24 : decode cX0_copy 24 = .ok (.getfield 15, 3) := by decide +kernel
theorem dX0_copy_27 : decode cX0_copy 27 = .ok (.iconst 0, 1) := by decide +kernel
theorem dX0_copy_28 : decode cX0_copy 28 = .ok (.aload_n 0, 1) := by decide +kernel
theorem dX0_copy_29 : decode cX0_copy 29 = .ok (.getfield 15, 3) := by decide +kernel
theorem dX0_copy_32 : decode cX0_copy 32 = .ok (.iconst 0, 1) := by decide +kernel
theorem dX0_copy_33 : decode cX0_copy 33 = .ok (.bipush 9, 2) := by decide +kernel
theorem dX0_copy_35 : decode cX0_copy 35 = .ok (.invokestatic 28, 3) := by decide +kernel
theorem dX0_copy_38 : decode cX0_copy 38 = .ok (.aload_n 1, 1) := by decide +kernel
theorem dX0_copy_39 : decode cX0_copy 39 = .ok (.getfield 18, 3) := by decide +kernel
theorem dX0_copy_42 : decode cX0_copy 42 = .ok (.iconst 0, 1) := by decide +kernel
theorem dX0_copy_43 : decode cX0_copy 43 = .ok (.aload_n 0, 1) := by decide +kernel
theorem dX0_copy_44 : decode cX0_copy 44 = .ok (.getfield 18, 3) := by decide +kernel
theorem dX0_copy_47 : decode cX0_copy 47 = .ok (.iconst 0, 1) := by decide +kernel
theorem dX0_copy_48 : decode cX0_copy 48 = .ok (.bipush 9, 2) := by decide +kernel
theorem dX0_copy_50 : decode cX0_copy 50 = .ok (.invokestatic 28, 3) := by decide +kernel
theorem dX0_copy_53 : decode cX0_copy 53 = .ok (.aload_n 1, 1) := by decide +kernel
theorem dX0_copy_54 : decode cX0_copy 54 = .ok (.getfield 21, 3) := by decide +kernel
theorem dX0_copy_57 : decode cX0_copy 57 = .ok (.iconst 0, 1) := by decide +kernel
theorem dX0_copy_58 : decode cX0_copy 58 = .ok (.aload_n 0, 1) := by decide +kernel
theorem dX0_copy_59 : decode cX0_copy 59 = .ok (.getfield 21, 3) := by decide +kernel
theorem dX0_copy_62 : decode cX0_copy 62 = .ok (.iconst 0, 1) := by decide +kernel
theorem dX0_copy_63 : decode cX0_copy 63 = .ok (.bipush 9, 2) := by decide +kernel
theorem dX0_copy_65 : decode cX0_copy 65 = .ok (.invokestatic 28, 3) := by decide +kernel
theorem dX0_copy_68 : decode cX0_copy 68 = .ok (.return_, 1) := by decide +kernel
theorem dX0_hold_0 : decode cX0_hold 0 = .ok (.iload_n 1, 1) := by decide +kernel
theorem dX0_hold_1 : decode cX0_hold 1 = .ok (.ifCond .lt 21, 3) := by decide +kernel
theorem dX0_hold_4 : decode cX0_hold 4 = .ok (.iload_n 1, 1) := by decide +kernel
theorem dX0_hold_5 : decode cX0_hold 5 = .ok (.aload_n 0, 1) := by decide +kernel
theorem dX0_hold_6 : decode cX0_hold 6 = .ok (.getfield 24, 3) := by decide +kernel
theorem dX0_hold_9 : decode cX0_hold 9 = .ok (.if_icmp .ge 13, 3) := by decide +kernel
theorem dX0_hold_12 : decode cX0_hold 12 = .ok (.iload_n 1, 1) := by decide +kernel
theorem dX0_hold_13 : decode cX0_hold 13 = .ok (.bipush 9, 2) := by decide +kernel
theorem dX0_hold_15 : decode cX0_hold 15 = .ok (.if_icmp .ge 7, 3) := by decide +kernel
theorem dX0_hold_18 : decode cX0_hold 18 = .ok (.iconst 1, 1) := by decide +kernel
theorem dX0_hold_19 : decode cX0_hold 19 = .ok (.goto 4, 3) := by decide +kernel
theorem dX0_hold_22 : decode cX0_hold 22 = .ok (.iconst 0, 1) := by decide +kernel
theorem dX0_hold_23 : decode cX0_hold 23 = .ok (.ireturn, 1) := by decide +kernel
theorem dX0_launch_0 : decode cX0_launch 0 = .ok (.aload_n 0, 1) := by decide +kernel
theorem dX0_launch_1 : decode cX0_launch 1 = .ok (.getfield 24, 3) := by decide +kernel
theorem dX0_launch_4 : decode cX0_launch 4 = .ok (.istore_n 3, 1) := by decide +kernel
theorem dX0_launch_5 : decode cX0_launch 5 = .ok (.iload_n 3, 1) := by decide +kernel
theorem dX0_launch_6 : decode cX0_launch 6 = .ok (.ifCond .lt 9, 3) := by decide +kernel
theorem dX0_launch_9 : decode cX0_launch 9 = .ok (.iload_n 3, 1) := by decide +kernel
theorem dX0_launch_10 : decode cX0_launch 10 = .ok (.bipush 9, 2) := by decide +kernel
theorem dX0_launch_12 : decode cX0_launch 12 = .ok (.if_icmp .lt 5, 3) := by decide +kernel
theorem dX0_launch_15 : decode cX0_launch 15 = .ok (.iload_n 3, 1) := by decide +kernel
theorem dX0_launch_16 : decode cX0_launch 16 = .ok (.ireturn, 1) := by decide +kernel
theorem dX0_launch_17 : decode cX0_launch 17 = .ok (.aload_n 0, 1) := by decide +kernel
theorem dX0_launch_18 : decode cX0_launch 18 = .ok (.getfield 9, 3) := by decide +kernel
theorem dX0_launch_21 : decode cX0_launch 21 = .ok (.iload_n 3, 1) := by decide +kernel
theorem dX0_launch_22 : decode cX0_launch 22 = .ok (.iload_n 1, 1) := by decide +kernel
theorem dX0_launch_23 : decode cX0_launch 23 = .ok (.bipush 10, 2) := by decide +kernel
theorem dX0_launch_25 : decode cX0_launch 25 = .ok (.idiv, 1) := by decide +kernel
theorem dX0_launch_26 : decode cX0_launch 26 = .ok (.iastore, 1) := by decide +kernel
theorem dX0_launch_27 : decode cX0_launch 27 = .ok (.aload_n 0, 1) := by decide +kernel
theorem dX0_launch_28 : decode cX0_launch 28 = .ok (.getfield 15, 3) := by decide +kernel
theorem dX0_launch_31 : decode cX0_launch 31 = .ok (.iload_n 3, 1) := by decide +kernel
theorem dX0_launch_32 : decode cX0_launch 32 = .ok (.iload_n 1, 1) := by decide +kernel
theorem dX0_launch_33 : decode cX0_launch 33 = .ok (.bipush 10, 2) := by decide +kernel
theorem dX0_launch_35 : decode cX0_launch 35 = .ok (.irem, 1) := by decide +kernel
theorem dX0_launch_36 : decode cX0_launch 36 = .ok (.iastore, 1) := by decide +kernel
theorem dX0_launch_37 : decode cX0_launch 37 = .ok (.aload_n 0, 1) := by decide +kernel
theorem dX0_launch_38 : decode cX0_launch 38 = .ok (.getfield 18, 3) := by decide +kernel
theorem dX0_launch_41 : decode cX0_launch 41 = .ok (.iload_n 3, 1) := by decide +kernel
theorem dX0_launch_42 : decode cX0_launch 42 = .ok (.iload_n 2, 1) := by decide +kernel
theorem dX0_launch_43 : decode cX0_launch 43 = .ok (.iastore, 1) := by decide +kernel
theorem dX0_launch_44 : decode cX0_launch 44 = .ok (.aload_n 0, 1) := by decide +kernel
theorem dX0_launch_45 : decode cX0_launch 45 = .ok (.getfield 21, 3) := by decide +kernel
theorem dX0_launch_48 : decode cX0_launch 48 = .ok (.iload_n 3, 1) := by decide +kernel
theorem dX0_launch_49 : decode cX0_launch 49 = .ok (.iconst 0, 1) := by decide +kernel
theorem dX0_launch_50 : decode cX0_launch 50 = .ok (.iastore, 1) := by decide +kernel
theorem dX0_launch_51 : decode cX0_launch 51 = .ok (.aload_n 0, 1) := by decide +kernel
theorem dX0_launch_52 : decode cX0_launch 52 = .ok (.dup, 1) := by decide +kernel
theorem dX0_launch_53 : decode cX0_launch 53 = .ok (.getfield 24, 3) := by decide +kernel
theorem dX0_launch_56 : decode cX0_launch 56 = .ok (.iconst 1, 1) := by decide +kernel
theorem dX0_launch_57 : decode cX0_launch 57 = .ok (.iadd, 1) := by decide +kernel
theorem dX0_launch_58 : decode cX0_launch 58 = .ok (.putfield 24, 3) := by decide +kernel
theorem dX0_launch_61 : decode cX0_launch 61 = .ok (.iload_n 3, 1) := by decide +kernel
theorem dX0_launch_62 : decode cX0_launch 62 = .ok (.ireturn, 1) := by decide +kernel
theorem dX0_sings_0 : decode cX0_sings 0 = .ok (.aload_n 0, 1) := by decide +kernel
theorem dX0_sings_1 : decode cX0_sings 1 = .ok (.iload_n 1, 1) := by decide +kernel
theorem dX0_sings_2 : decode cX0_sings 2 = .ok (.invokevirtual 34, 3) := by decide +kernel
theorem dX0_sings_5 : decode cX0_sings 5 = .ok (.ifCond .eq 21, 3) := by decide +kernel
theorem dX0_sings_8 : decode cX0_sings 8 = .ok (.aload_n 0, 1) := by decide +kernel
theorem dX0_sings_9 : decode cX0_sings 9 = .ok (.getfield 21, 3) := by decide +kernel
theorem dX0_sings_12 : decode cX0_sings 12 = .ok (.iload_n 1, 1) := by decide +kernel
theorem dX0_sings_13 : decode cX0_sings 13 = .ok (.iaload, 1) := by decide +kernel
theorem dX0_sings_14 : decode cX0_sings 14 = .ok (.iload_n 2, 1) := by decide +kernel
theorem dX0_sings_15 : decode cX0_sings 15 = .ok (.iushr, 1) := by decide +kernel
theorem dX0_sings_16 : decode cX0_sings 16 = .ok (.iconst 1, 1) := by decide +kernel
theorem dX0_sings_17 : decode cX0_sings 17 = .ok (.iand, 1) := by decide +kernel
theorem dX0_sings_18 : decode cX0_sings 18 = .ok (.iconst 1, 1) := by decide +kernel
theorem dX0_sings_19 : decode cX0_sings 19 = .ok (.if_icmp .ne 7, 3) := by decide +kernel
theorem dX0_sings_22 : decode cX0_sings 22 = .ok (.iconst 1, 1) := by decide +kernel
theorem dX0_sings_23 : decode cX0_sings 23 = .ok (.goto 4, 3) := by decide +kernel
theorem dX0_sings_26 : decode cX0_sings 26 = .ok (.iconst 0, 1) := by decide +kernel
theorem dX0_sings_27 : decode cX0_sings 27 = .ok (.ireturn, 1) := by decide +kernel
theorem dX0_singers_0 : decode cX0_singers 0 = .ok (.iconst 0, 1) := by decide +kernel
theorem dX0_singers_1 : decode cX0_singers 1 = .ok (.istore_n 2, 1) := by decide +kernel
theorem dX0_singers_2 : decode cX0_singers 2 = .ok (.iconst 0, 1) := by decide +kernel
theorem dX0_singers_3 : decode cX0_singers 3 = .ok (.istore_n 3, 1) := by decide +kernel
theorem dX0_singers_4 : decode cX0_singers 4 = .ok (.iload_n 3, 1) := by decide +kernel
theorem dX0_singers_5 : decode cX0_singers 5 = .ok (.aload_n 0, 1) := by decide +kernel
theorem dX0_singers_6 : decode cX0_singers 6 = .ok (.getfield 24, 3) := by decide +kernel
theorem dX0_singers_9 : decode cX0_singers 9 = .ok (.if_icmp .ge 30, 3) := by decide +kernel
theorem dX0_singers_12 : decode cX0_singers 12 = .ok (.iload_n 3, 1) := by decide +kernel
theorem dX0_singers_13 : decode cX0_singers 13 = .ok (.bipush 9, 2) := by decide +kernel
theorem dX0_singers_15 : decode cX0_singers 15 = .ok (.if_icmp .ge 24, 3) := by decide +kernel
theorem dX0_singers_18 : decode cX0_singers 18 = .ok (.aload_n 0, 1) := by decide +kernel
theorem dX0_singers_19 : decode cX0_singers 19 = .ok (.iload_n 3, 1) := by decide +kernel
theorem dX0_singers_20 : decode cX0_singers 20 = .ok (.iload_n 1, 1) := by decide +kernel
theorem dX0_singers_21 : decode cX0_singers 21 = .ok (.invokevirtual 38, 3) := by decide +kernel
theorem dX0_singers_24 : decode cX0_singers 24 = .ok (.ifCond .eq 9, 3) := by decide +kernel
theorem dX0_singers_27 : decode cX0_singers 27 = .ok (.iload_n 2, 1) := by decide +kernel
theorem dX0_singers_28 : decode cX0_singers 28 = .ok (.iconst 1, 1) := by decide +kernel
theorem dX0_singers_29 : decode cX0_singers 29 = .ok (.iload_n 3, 1) := by decide +kernel
theorem dX0_singers_30 : decode cX0_singers 30 = .ok (.ishl, 1) := by decide +kernel
theorem dX0_singers_31 : decode cX0_singers 31 = .ok (.ior, 1) := by decide +kernel
theorem dX0_singers_32 : decode cX0_singers 32 = .ok (.istore_n 2, 1) := by decide +kernel
theorem dX0_singers_33 : decode cX0_singers 33 = .ok (.iinc 3 1, 3) := by decide +kernel
theorem dX0_singers_36 : decode cX0_singers 36 = .ok (.goto (-32), 3) := by decide +kernel
theorem dX0_singers_39 : decode cX0_singers 39 = .ok (.iload_n 2, 1) := by decide +kernel
theorem dX0_singers_40 : decode cX0_singers 40 = .ok (.ireturn, 1) := by decide +kernel
theorem dX0_later_0 : decode cX0_later 0 = .ok (.aload_n 0, 1) := by decide +kernel
theorem dX0_later_1 : decode cX0_later 1 = .ok (.iload_n 1, 1) := by decide +kernel
theorem dX0_later_2 : decode cX0_later 2 = .ok (.invokevirtual 34, 3) := by decide +kernel
theorem dX0_later_5 : decode cX0_later 5 = .ok (.ifCond .ne 5, 3) := by decide +kernel
theorem dX0_later_8 : decode cX0_later 8 = .ok (.iconst 0, 1) := by decide +kernel
theorem dX0_later_9 : decode cX0_later 9 = .ok (.ireturn, 1) := by decide +kernel
theorem dX0_later_10 : decode cX0_later 10 = .ok (.aload_n 0, 1) := by decide +kernel
theorem dX0_later_11 : decode cX0_later 11 = .ok (.getfield 9, 3) := by decide +kernel
theorem dX0_later_14 : decode cX0_later 14 = .ok (.iload_n 1, 1) := by decide +kernel
theorem dX0_later_15 : decode cX0_later 15 = .ok (.iaload, 1) := by decide +kernel
theorem dX0_later_16 : decode cX0_later 16 = .ok (.iconst 5, 1) := by decide +kernel
theorem dX0_later_17 : decode cX0_later 17 = .ok (.if_icmp .ne 12, 3) := by decide +kernel
theorem dX0_later_20 : decode cX0_later 20 = .ok (.aload_n 0, 1) := by decide +kernel
theorem dX0_later_21 : decode cX0_later 21 = .ok (.getfield 15, 3) := by decide +kernel
theorem dX0_later_24 : decode cX0_later 24 = .ok (.iload_n 1, 1) := by decide +kernel
theorem dX0_later_25 : decode cX0_later 25 = .ok (.iaload, 1) := by decide +kernel
theorem dX0_later_26 : decode cX0_later 26 = .ok (.iconst 3, 1) := by decide +kernel
theorem dX0_later_27 : decode cX0_later 27 = .ok (.idiv, 1) := by decide +kernel
theorem dX0_later_28 : decode cX0_later 28 = .ok (.ireturn, 1) := by decide +kernel
theorem dX0_later_29 : decode cX0_later 29 = .ok (.aload_n 0, 1) := by decide +kernel
theorem dX0_later_30 : decode cX0_later 30 = .ok (.getfield 9, 3) := by decide +kernel
theorem dX0_later_33 : decode cX0_later 33 = .ok (.iload_n 1, 1) := by decide +kernel
theorem dX0_later_34 : decode cX0_later 34 = .ok (.iaload, 1) := by decide +kernel
theorem dX0_later_35 : decode cX0_later 35 = .ok (.iconst 4, 1) := by decide +kernel
theorem dX0_later_36 : decode cX0_later 36 = .ok (.if_icmp .ne 12, 3) := by decide +kernel
theorem dX0_later_39 : decode cX0_later 39 = .ok (.aload_n 0, 1) := by decide +kernel
theorem dX0_later_40 : decode cX0_later 40 = .ok (.getfield 15, 3) := by decide +kernel
theorem dX0_later_43 : decode cX0_later 43 = .ok (.iload_n 1, 1) := by decide +kernel
theorem dX0_later_44 : decode cX0_later 44 = .ok (.iaload, 1) := by decide +kernel
theorem dX0_later_45 : decode cX0_later 45 = .ok (.goto 4, 3) := by decide +kernel
theorem dX0_later_48 : decode cX0_later 48 = .ok (.iconst 0, 1) := by decide +kernel
theorem dX0_later_49 : decode cX0_later 49 = .ok (.ireturn, 1) := by decide +kernel
theorem dX0_behind_0 : decode cX0_behind 0 = .ok (.aload_n 0, 1) := by decide +kernel
theorem dX0_behind_1 : decode cX0_behind 1 = .ok (.iload_n 1, 1) := by decide +kernel
theorem dX0_behind_2 : decode cX0_behind 2 = .ok (.invokevirtual 34, 3) := by decide +kernel
theorem dX0_behind_5 : decode cX0_behind 5 = .ok (.ifCond .ne 5, 3) := by decide +kernel
theorem dX0_behind_8 : decode cX0_behind 8 = .ok (.iload_n 2, 1) := by decide +kernel
theorem dX0_behind_9 : decode cX0_behind 9 = .ok (.ireturn, 1) := by decide +kernel
theorem dX0_behind_10 : decode cX0_behind 10 = .ok (.aload_n 0, 1) := by decide +kernel
theorem dX0_behind_11 : decode cX0_behind 11 = .ok (.getfield 9, 3) := by decide +kernel
theorem dX0_behind_14 : decode cX0_behind 14 = .ok (.iload_n 1, 1) := by decide +kernel
theorem dX0_behind_15 : decode cX0_behind 15 = .ok (.iaload, 1) := by decide +kernel
theorem dX0_behind_16 : decode cX0_behind 16 = .ok (.tableswitch 113 0 6 #[44, 113, 52, 80, 113, 59, 90], 44) := by decide +kernel
theorem dX0_behind_60 : decode cX0_behind 60 = .ok (.iload_n 2, 1) := by decide +kernel
theorem dX0_behind_61 : decode cX0_behind 61 = .ok (.iload_n 3, 1) := by decide +kernel
theorem dX0_behind_62 : decode cX0_behind 62 = .ok (.iload 4, 2) := by decide +kernel
theorem dX0_behind_64 : decode cX0_behind 64 = .ok (.invokestatic 42, 3) := by decide +kernel
theorem dX0_behind_67 : decode cX0_behind 67 = .ok (.ireturn, 1) := by decide +kernel
theorem dX0_behind_68 : decode cX0_behind 68 = .ok (.iload_n 2, 1) := by decide +kernel
theorem dX0_behind_69 : decode cX0_behind 69 = .ok (.iload 4, 2) := by decide +kernel
theorem dX0_behind_71 : decode cX0_behind 71 = .ok (.invokestatic 46, 3) := by decide +kernel
theorem dX0_behind_74 : decode cX0_behind 74 = .ok (.ireturn, 1) := by decide +kernel
theorem dX0_behind_75 : decode cX0_behind 75 = .ok (.iload_n 3, 1) := by decide +kernel
theorem dX0_behind_76 : decode cX0_behind 76 = .ok (.aload_n 0, 1) := by decide +kernel
theorem dX0_behind_77 : decode cX0_behind 77 = .ok (.getfield 15, 3) := by decide +kernel
theorem dX0_behind_80 : decode cX0_behind 80 = .ok (.iload_n 1, 1) := by decide +kernel
theorem dX0_behind_81 : decode cX0_behind 81 = .ok (.iaload, 1) := by decide +kernel
theorem dX0_behind_82 : decode cX0_behind 82 = .ok (.if_icmp .ge 7, 3) := by decide +kernel
theorem dX0_behind_85 : decode cX0_behind 85 = .ok (.iload_n 2, 1) := by decide +kernel
theorem dX0_behind_86 : decode cX0_behind 86 = .ok (.goto 9, 3) := by decide +kernel
theorem dX0_behind_89 : decode cX0_behind 89 = .ok (.iload_n 2, 1) := by decide +kernel
theorem dX0_behind_90 : decode cX0_behind 90 = .ok (.iload 4, 2) := by decide +kernel
theorem dX0_behind_92 : decode cX0_behind 92 = .ok (.invokestatic 46, 3) := by decide +kernel
theorem dX0_behind_95 : decode cX0_behind 95 = .ok (.ireturn, 1) := by decide +kernel
theorem dX0_behind_96 : decode cX0_behind 96 = .ok (.aload_n 0, 1) := by decide +kernel
theorem dX0_behind_97 : decode cX0_behind 97 = .ok (.iload_n 1, 1) := by decide +kernel
theorem dX0_behind_98 : decode cX0_behind 98 = .ok (.iload_n 2, 1) := by decide +kernel
theorem dX0_behind_99 : decode cX0_behind 99 = .ok (.iload_n 3, 1) := by decide +kernel
theorem dX0_behind_100 : decode cX0_behind 100 = .ok (.iload 4, 2) := by decide +kernel
theorem dX0_behind_102 : decode cX0_behind 102 = .ok (.invokevirtual 50, 3) := by decide +kernel
theorem dX0_behind_105 : decode cX0_behind 105 = .ok (.ireturn, 1) := by decide +kernel
theorem dX0_behind_106 : decode cX0_behind 106 = .ok (.aload_n 0, 1) := by decide +kernel
theorem dX0_behind_107 : decode cX0_behind 107 = .ok (.iload_n 1, 1) := by decide +kernel
theorem dX0_behind_108 : decode cX0_behind 108 = .ok (.iload_n 3, 1) := by decide +kernel
theorem dX0_behind_109 : decode cX0_behind 109 = .ok (.invokevirtual 38, 3) := by decide +kernel
theorem dX0_behind_112 : decode cX0_behind 112 = .ok (.ifCond .eq 15, 3) := by decide +kernel
theorem dX0_behind_115 : decode cX0_behind 115 = .ok (.aload_n 0, 1) := by decide +kernel
theorem dX0_behind_116 : decode cX0_behind 116 = .ok (.iload_n 1, 1) := by decide +kernel
theorem dX0_behind_117 : decode cX0_behind 117 = .ok (.iload_n 2, 1) := by decide +kernel
theorem dX0_behind_118 : decode cX0_behind 118 = .ok (.iload_n 3, 1) := by decide +kernel
theorem dX0_behind_119 : decode cX0_behind 119 = .ok (.iload 4, 2) := by decide +kernel
theorem dX0_behind_121 : decode cX0_behind 121 = .ok (.invokevirtual 50, 3) := by decide +kernel
theorem dX0_behind_124 : decode cX0_behind 124 = .ok (.goto 4, 3) := by decide +kernel
theorem dX0_behind_127 : decode cX0_behind 127 = .ok (.iload_n 2, 1) := by decide +kernel
theorem dX0_behind_128 : decode cX0_behind 128 = .ok (.ireturn, 1) := by decide +kernel
theorem dX0_behind_129 : decode cX0_behind 129 = .ok (.iload_n 2, 1) := by decide +kernel
theorem dX0_behind_130 : decode cX0_behind 130 = .ok (.ireturn, 1) := by decide +kernel
theorem dX0_rocked_0 : decode cX0_rocked 0 = .ok (.iload_n 1, 1) := by decide +kernel
theorem dX0_rocked_1 : decode cX0_rocked 1 = .ok (.iconst 1, 1) := by decide +kernel
theorem dX0_rocked_2 : decode cX0_rocked 2 = .ok (.iand, 1) := by decide +kernel
theorem dX0_rocked_3 : decode cX0_rocked 3 = .ok (.iconst 1, 1) := by decide +kernel
theorem dX0_rocked_4 : decode cX0_rocked 4 = .ok (.if_icmp .ne 11, 3) := by decide +kernel
theorem dX0_rocked_7 : decode cX0_rocked 7 = .ok (.iload_n 0, 1) := by decide +kernel
theorem dX0_rocked_8 : decode cX0_rocked 8 = .ok (.iload_n 2, 1) := by decide +kernel
theorem dX0_rocked_9 : decode cX0_rocked 9 = .ok (.invokestatic 46, 3) := by decide +kernel
theorem dX0_rocked_12 : decode cX0_rocked 12 = .ok (.goto 4, 3) := by decide +kernel
theorem dX0_rocked_15 : decode cX0_rocked 15 = .ok (.iload_n 0, 1) := by decide +kernel
theorem dX0_rocked_16 : decode cX0_rocked 16 = .ok (.ireturn, 1) := by decide +kernel
theorem dX0_pulled_0 : decode cX0_pulled 0 = .ok (.iload_n 2, 1) := by decide +kernel
theorem dX0_pulled_1 : decode cX0_pulled 1 = .ok (.iload_n 3, 1) := by decide +kernel
theorem dX0_pulled_2 : decode cX0_pulled 2 = .ok (.iload 4, 2) := by decide +kernel
theorem dX0_pulled_4 : decode cX0_pulled 4 = .ok (.invokestatic 42, 3) := by decide +kernel
theorem dX0_pulled_7 : decode cX0_pulled 7 = .ok (.istore 5, 2) := by decide +kernel
theorem dX0_pulled_9 : decode cX0_pulled 9 = .ok (.iload_n 3, 1) := by decide +kernel
theorem dX0_pulled_10 : decode cX0_pulled 10 = .ok (.bipush 7, 2) := by decide +kernel
theorem dX0_pulled_12 : decode cX0_pulled 12 = .ok (.iand, 1) := by decide +kernel
theorem dX0_pulled_13 : decode cX0_pulled 13 = .ok (.bipush 7, 2) := by decide +kernel
theorem dX0_pulled_15 : decode cX0_pulled 15 = .ok (.if_icmp .ne 29, 3) := by decide +kernel
theorem dX0_pulled_18 : decode cX0_pulled 18 = .ok (.aload_n 0, 1) := by decide +kernel
theorem dX0_pulled_19 : decode cX0_pulled 19 = .ok (.iload_n 1, 1) := by decide +kernel
theorem dX0_pulled_20 : decode cX0_pulled 20 = .ok (.invokevirtual 34, 3) := by decide +kernel
theorem dX0_pulled_23 : decode cX0_pulled 23 = .ok (.ifCond .eq 21, 3) := by decide +kernel
theorem dX0_pulled_26 : decode cX0_pulled 26 = .ok (.iload 5, 2) := by decide +kernel
theorem dX0_pulled_28 : decode cX0_pulled 28 = .ok (.aload_n 0, 1) := by decide +kernel
theorem dX0_pulled_29 : decode cX0_pulled 29 = .ok (.getfield 15, 3) := by decide +kernel
theorem dX0_pulled_32 : decode cX0_pulled 32 = .ok (.iload_n 1, 1) := by decide +kernel
theorem dX0_pulled_33 : decode cX0_pulled 33 = .ok (.iaload, 1) := by decide +kernel
theorem dX0_pulled_34 : decode cX0_pulled 34 = .ok (.iconst 4, 1) := by decide +kernel
theorem dX0_pulled_35 : decode cX0_pulled 35 = .ok (.irem, 1) := by decide +kernel
theorem dX0_pulled_36 : decode cX0_pulled 36 = .ok (.iconst 1, 1) := by decide +kernel
theorem dX0_pulled_37 : decode cX0_pulled 37 = .ok (.iadd, 1) := by decide +kernel
theorem dX0_pulled_38 : decode cX0_pulled 38 = .ok (.invokestatic 46, 3) := by decide +kernel
theorem dX0_pulled_41 : decode cX0_pulled 41 = .ok (.goto 5, 3) := by decide +kernel
theorem dX0_pulled_44 : decode cX0_pulled 44 = .ok (.iload 5, 2) := by decide +kernel
theorem dX0_pulled_46 : decode cX0_pulled 46 = .ok (.ireturn, 1) := by decide +kernel
theorem dX0_together_0 : decode cX0_together 0 = .ok (.iload 6, 2) := by decide +kernel
theorem dX0_together_2 : decode cX0_together 2 = .ok (.invokestatic 54, 3) := by decide +kernel
theorem dX0_together_5 : decode cX0_together 5 = .ok (.iconst 2, 1) := by decide +kernel
theorem dX0_together_6 : decode cX0_together 6 = .ok (.if_icmp .ge 5, 3) := by decide +kernel
theorem dX0_together_9 : decode cX0_together 9 = .ok (.iconst 0, 1) := by decide +kernel
theorem dX0_together_10 : decode cX0_together 10 = .ok (.ireturn, 1) := by decide +kernel
theorem dX0_together_11 : decode cX0_together 11 = .ok (.iconst (-1), 1) := by decide +kernel
theorem dX0_together_12 : decode cX0_together 12 = .ok (.istore 7, 2) := by decide +kernel
theorem dX0_together_14 : decode cX0_together 14 = .ok (.iconst 0, 1) := by decide +kernel
theorem dX0_together_15 : decode cX0_together 15 = .ok (.istore 8, 2) := by decide +kernel
theorem dX0_together_17 : decode cX0_together 17 = .ok (.iload 8, 2) := by decide +kernel
theorem dX0_together_19 : decode cX0_together 19 = .ok (.bipush 9, 2) := by decide +kernel
theorem dX0_together_21 : decode cX0_together 21 = .ok (.if_icmp .ge 72, 3) := by decide +kernel
theorem dX0_together_24 : decode cX0_together 24 = .ok (.iload 8, 2) := by decide +kernel
theorem dX0_together_26 : decode cX0_together 26 = .ok (.aload_n 2, 1) := by decide +kernel
theorem dX0_together_27 : decode cX0_together 27 = .ok (.arraylength, 1) := by decide +kernel
theorem dX0_together_28 : decode cX0_together 28 = .ok (.if_icmp .ge 65, 3) := by decide +kernel
theorem dX0_together_31 : decode cX0_together 31 = .ok (.iload 6, 2) := by decide +kernel
theorem dX0_together_33 : decode cX0_together 33 = .ok (.iload 8, 2) := by decide +kernel
theorem dX0_together_35 : decode cX0_together 35 = .ok (.iushr, 1) := by decide +kernel
theorem dX0_together_36 : decode cX0_together 36 = .ok (.iconst 1, 1) := by decide +kernel
theorem dX0_together_37 : decode cX0_together 37 = .ok (.iand, 1) := by decide +kernel
theorem dX0_together_38 : decode cX0_together 38 = .ok (.ifCond .ne 6, 3) := by decide +kernel
theorem dX0_together_41 : decode cX0_together 41 = .ok (.goto 46, 3) := by decide +kernel
theorem dX0_together_44 : decode cX0_together 44 = .ok (.aload_n 1, 1) := by decide +kernel
theorem dX0_together_45 : decode cX0_together 45 = .ok (.aload_n 2, 1) := by decide +kernel
theorem dX0_together_46 : decode cX0_together 46 = .ok (.iload 8, 2) := by decide +kernel
theorem dX0_together_48 : decode cX0_together 48 = .ok (.iaload, 1) := by decide +kernel
theorem dX0_together_49 : decode cX0_together 49 = .ok (.iload_n 3, 1) := by decide +kernel
theorem dX0_together_50 : decode cX0_together 50 = .ok (.invokestatic 60, 3) := by decide +kernel
theorem dX0_together_53 : decode cX0_together 53 = .ok (.iload 5, 2) := by decide +kernel
theorem dX0_together_55 : decode cX0_together 55 = .ok (.iload 4, 2) := by decide +kernel
theorem dX0_together_57 : decode cX0_together 57 = .ok (.invokevirtual 63, 3) := by decide +kernel
theorem dX0_together_60 : decode cX0_together 60 = .ok (.aload_n 0, 1) := by decide +kernel
theorem dX0_together_61 : decode cX0_together 61 = .ok (.iload 8, 2) := by decide +kernel
theorem dX0_together_63 : decode cX0_together 63 = .ok (.invokevirtual 68, 3) := by decide +kernel
theorem dX0_together_66 : decode cX0_together 66 = .ok (.iadd, 1) := by decide +kernel
theorem dX0_together_67 : decode cX0_together 67 = .ok (.istore 9, 2) := by decide +kernel
theorem dX0_together_69 : decode cX0_together 69 = .ok (.iload 7, 2) := by decide +kernel
theorem dX0_together_71 : decode cX0_together 71 = .ok (.ifCond .lt 12, 3) := by decide +kernel
theorem dX0_together_74 : decode cX0_together 74 = .ok (.iload 9, 2) := by decide +kernel
theorem dX0_together_76 : decode cX0_together 76 = .ok (.iload 7, 2) := by decide +kernel
theorem dX0_together_78 : decode cX0_together 78 = .ok (.if_icmp .eq 5, 3) := by decide +kernel
theorem dX0_together_81 : decode cX0_together 81 = .ok (.iconst 0, 1) := by decide +kernel
theorem dX0_together_82 : decode cX0_together 82 = .ok (.ireturn, 1) := by decide +kernel
theorem dX0_together_83 : decode cX0_together 83 = .ok (.iload 9, 2) := by decide +kernel
theorem dX0_together_85 : decode cX0_together 85 = .ok (.istore 7, 2) := by decide +kernel
theorem dX0_together_87 : decode cX0_together 87 = .ok (.iinc 8 1, 3) := by decide +kernel
theorem dX0_together_90 : decode cX0_together 90 = .ok (.goto (-73), 3) := by decide +kernel
theorem dX0_together_93 : decode cX0_together 93 = .ok (.iconst 1, 1) := by decide +kernel
theorem dX0_together_94 : decode cX0_together 94 = .ok (.ireturn, 1) := by decide +kernel
theorem dX1_init_0 : decode cX1_init 0 = .ok (.aload_n 0, 1) := by decide +kernel
theorem dX1_init_1 : decode cX1_init 1 = .ok (.invokespecial 3, 3) := by decide +kernel
theorem dX1_init_4 : decode cX1_init 4 = .ok (.aload_n 0, 1) := by decide +kernel
theorem dX1_init_5 : decode cX1_init 5 = .ok (.bipush 50, 2) := by decide +kernel
theorem dX1_init_7 : decode cX1_init 7 = .ok (.newarray .int, 2) := by decide +kernel
theorem dX1_init_9 : decode cX1_init 9 = .ok (.putfield 9, 3) := by decide +kernel
theorem dX1_init_12 : decode cX1_init 12 = .ok (.aload_n 0, 1) := by decide +kernel
theorem dX1_init_13 : decode cX1_init 13 = .ok (.bipush 20, 2) := by decide +kernel
theorem dX1_init_15 : decode cX1_init 15 = .ok (.newarray .int, 2) := by decide +kernel
theorem dX1_init_17 : decode cX1_init 17 = .ok (.putfield 15, 3) := by decide +kernel
theorem dX1_init_20 : decode cX1_init 20 = .ok (.return_, 1) := by decide +kernel
theorem dX1_copy_0 : decode cX1_copy 0 = .ok (.aload_n 0, 1) := by decide +kernel
theorem dX1_copy_1 : decode cX1_copy 1 = .ok (.aload_n 1, 1) := by decide +kernel
theorem dX1_copy_2 : decode cX1_copy 2 = .ok (.getfield 18, 3) := by decide +kernel
theorem dX1_copy_5 : decode cX1_copy 5 = .ok (.putfield 18, 3) := by decide +kernel
theorem dX1_copy_8 : decode cX1_copy 8 = .ok (.aload_n 1, 1) := by decide +kernel
theorem dX1_copy_9 : decode cX1_copy 9 = .ok (.getfield 9, 3) := by decide +kernel
theorem dX1_copy_12 : decode cX1_copy 12 = .ok (.iconst 0, 1) := by decide +kernel
theorem dX1_copy_13 : decode cX1_copy 13 = .ok (.aload_n 0, 1) := by decide +kernel
theorem dX1_copy_14 : decode cX1_copy 14 = .ok (.getfield 9, 3) := by decide +kernel
theorem dX1_copy_17 : decode cX1_copy 17 = .ok (.iconst 0, 1) := by decide +kernel
theorem dX1_copy_18 : decode cX1_copy 18 = .ok (.bipush 50, 2) := by decide +kernel
theorem dX1_copy_20 : decode cX1_copy 20 = .ok (.invokestatic 22, 3) := by decide +kernel
theorem dX1_copy_23 : decode cX1_copy 23 = .ok (.aload_n 0, 1) := by decide +kernel
theorem dX1_copy_24 : decode cX1_copy 24 = .ok (.aload_n 1, 1) := by decide +kernel
theorem dX1_copy_25 : decode cX1_copy 25 = .ok (.getfield 28, 3) := by decide +kernel
theorem dX1_copy_28 : decode cX1_copy 28 = .ok (.putfield 28, 3) := by decide +kernel
theorem dX1_copy_31 : decode cX1_copy 31 = .ok (.aload_n 1, 1) := by decide +kernel
theorem dX1_copy_32 : decode cX1_copy 32 = .ok (.getfield 15, 3) := by decide +kernel
theorem dX1_copy_35 : decode cX1_copy 35 = .ok (.iconst 0, 1) := by decide +kernel
theorem dX1_copy_36 : decode cX1_copy 36 = .ok (.aload_n 0, 1) := by decide +kernel
theorem dX1_copy_37 : decode cX1_copy 37 = .ok (.getfield 15, 3) := by decide +kernel
theorem dX1_copy_40 : decode cX1_copy 40 = .ok (.iconst 0, 1) := by decide +kernel
theorem dX1_copy_41 : decode cX1_copy 41 = .ok (.bipush 20, 2) := by decide +kernel
theorem dX1_copy_43 : decode cX1_copy 43 = .ok (.invokestatic 22, 3) := by decide +kernel
theorem dX1_copy_46 : decode cX1_copy 46 = .ok (.return_, 1) := by decide +kernel
theorem dX1_take_0 : decode cX1_take 0 = .ok (.iconst 0, 1) := by decide +kernel
theorem dX1_take_1 : decode cX1_take 1 = .ok (.istore 4, 2) := by decide +kernel
theorem dX1_take_3 : decode cX1_take 3 = .ok (.iload 4, 2) := by decide +kernel
theorem dX1_take_5 : decode cX1_take 5 = .ok (.iload_n 3, 1) := by decide +kernel
theorem dX1_take_6 : decode cX1_take 6 = .ok (.if_icmp .ge 56, 3) := by decide +kernel
theorem dX1_take_9 : decode cX1_take 9 = .ok (.aload_n 0, 1) := by decide +kernel
theorem dX1_take_10 : decode cX1_take 10 = .ok (.getfield 18, 3) := by decide +kernel
theorem dX1_take_13 : decode cX1_take 13 = .ok (.ifCond .lt 49, 3) := by decide +kernel
theorem dX1_take_16 : decode cX1_take 16 = .ok (.aload_n 0, 1) := by decide +kernel
theorem dX1_take_17 : decode cX1_take 17 = .ok (.getfield 18, 3) := by decide +kernel
theorem dX1_take_20 : decode cX1_take 20 = .ok (.bipush 50, 2) := by decide +kernel
theorem dX1_take_22 : decode cX1_take 22 = .ok (.if_icmp .ge 40, 3) := by decide +kernel
theorem dX1_take_25 : decode cX1_take 25 = .ok (.aload_n 0, 1) := by decide +kernel
theorem dX1_take_26 : decode cX1_take 26 = .ok (.getfield 9, 3) := by decide +kernel
theorem dX1_take_29 : decode cX1_take 29 = .ok (.aload_n 0, 1) := by decide +kernel
theorem dX1_take_30 : decode cX1_take 30 = .ok (.getfield 18, 3) := by decide +kernel
theorem dX1_take_33 : decode cX1_take 33 = .ok (.lload_n 1, 1) := by decide +kernel
theorem dX1_take_34 : decode cX1_take 34 = .ok (.bipush 8, 2) := by decide +kernel
theorem dX1_take_36 : decode cX1_take 36 = .ok (.iload 4, 2) := by decide +kernel
theorem dX1_take_38 : decode cX1_take 38 = .ok (.imul, 1) := by decide +kernel
theorem dX1_take_39 : decode cX1_take 39 = .ok (.lushr, 1) := by decide +kernel
theorem dX1_take_40 : decode cX1_take 40 = .ok (.l2i, 1) := by decide +kernel
theorem dX1_take_41 : decode cX1_take 41 = .ok (.sipush 255, 3) := by decide +kernel
theorem dX1_take_44 : decode cX1_take 44 = .ok (.iand, 1) := by decide +kernel
theorem dX1_take_45 : decode cX1_take 45 = .ok (.iastore, 1) := by decide +kernel
theorem dX1_take_46 : decode cX1_take 46 = .ok (.aload_n 0, 1) := by decide +kernel
theorem dX1_take_47 : decode cX1_take 47 = .ok (.dup, 1) := by decide +kernel
theorem dX1_take_48 : decode cX1_take 48 = .ok (.getfield 18, 3) := by decide +kernel
theorem dX1_take_51 : decode cX1_take 51 = .ok (.iconst 1, 1) := by decide +kernel
theorem dX1_take_52 : decode cX1_take 52 = .ok (.iadd, 1) := by decide +kernel
theorem dX1_take_53 : decode cX1_take 53 = .ok (.putfield 18, 3) := by decide +kernel
theorem dX1_take_56 : decode cX1_take 56 = .ok (.iinc 4 1, 3) := by decide +kernel
theorem dX1_take_59 : decode cX1_take 59 = .ok (.goto (-56), 3) := by decide +kernel
theorem dX1_take_62 : decode cX1_take 62 = .ok (.return_, 1) := by decide +kernel
theorem dX1_add_0 : decode cX1_add 0 = .ok (.aload_n 0, 1) := by decide +kernel
theorem dX1_add_1 : decode cX1_add 1 = .ok (.getfield 28, 3) := by decide +kernel
theorem dX1_add_4 : decode cX1_add 4 = .ok (.ifCond .lt 12, 3) := by decide +kernel
theorem dX1_add_7 : decode cX1_add 7 = .ok (.aload_n 0, 1) := by decide +kernel
theorem dX1_add_8 : decode cX1_add 8 = .ok (.getfield 28, 3) := by decide +kernel
theorem dX1_add_11 : decode cX1_add 11 = .ok (.bipush 20, 2) := by decide +kernel
theorem dX1_add_13 : decode cX1_add 13 = .ok (.if_icmp .lt 8, 3) := by decide +kernel
theorem dX1_add_16 : decode cX1_add 16 = .ok (.aload_n 0, 1) := by decide +kernel
theorem dX1_add_17 : decode cX1_add 17 = .ok (.getfield 28, 3) := by decide +kernel
theorem dX1_add_20 : decode cX1_add 20 = .ok (.ireturn, 1) := by decide +kernel
theorem dX1_add_21 : decode cX1_add 21 = .ok (.aload_n 0, 1) := by decide +kernel
theorem dX1_add_22 : decode cX1_add 22 = .ok (.getfield 15, 3) := by decide +kernel
theorem dX1_add_25 : decode cX1_add 25 = .ok (.aload_n 0, 1) := by decide +kernel
theorem dX1_add_26 : decode cX1_add 26 = .ok (.getfield 28, 3) := by decide +kernel
theorem dX1_add_29 : decode cX1_add 29 = .ok (.iload_n 1, 1) := by decide +kernel
theorem dX1_add_30 : decode cX1_add 30 = .ok (.iastore, 1) := by decide +kernel
theorem dX1_add_31 : decode cX1_add 31 = .ok (.aload_n 0, 1) := by decide +kernel
theorem dX1_add_32 : decode cX1_add 32 = .ok (.dup, 1) := by decide +kernel
theorem dX1_add_33 : decode cX1_add 33 = .ok (.getfield 28, 3) := by decide +kernel
theorem dX1_add_36 : decode cX1_add 36 = .ok (.iconst 1, 1) := by decide +kernel
theorem dX1_add_37 : decode cX1_add 37 = .ok (.iadd, 1) := by decide +kernel
theorem dX1_add_38 : decode cX1_add 38 = .ok (.putfield 28, 3) := by decide +kernel
theorem dX1_add_41 : decode cX1_add 41 = .ok (.aload_n 0, 1) := by decide +kernel
theorem dX1_add_42 : decode cX1_add 42 = .ok (.getfield 28, 3) := by decide +kernel
theorem dX1_add_45 : decode cX1_add 45 = .ok (.ireturn, 1) := by decide +kernel
theorem dX2_init_0 : decode cX2_init 0 = .ok (.aload_n 0, 1) := by decide +kernel
theorem dX2_init_1 : decode cX2_init 1 = .ok (.invokespecial 3, 3) := by decide +kernel
theorem dX2_init_4 : decode cX2_init 4 = .ok (.aload_n 0, 1) := by decide +kernel
theorem dX2_init_5 : decode cX2_init 5 = .ok (.bipush 50, 2) := by decide +kernel
theorem dX2_init_7 : decode cX2_init 7 = .ok (.newarray .int, 2) := by decide +kernel
theorem dX2_init_9 : decode cX2_init 9 = .ok (.putfield 9, 3) := by decide +kernel
theorem dX2_init_12 : decode cX2_init 12 = .ok (.aload_n 0, 1) := by decide +kernel
theorem dX2_init_13 : decode cX2_init 13 = .ok (.bipush 50, 2) := by decide +kernel
theorem dX2_init_15 : decode cX2_init 15 = .ok (.newarray .int, 2) := by decide +kernel
theorem dX2_init_17 : decode cX2_init 17 = .ok (.putfield 15, 3) := by decide +kernel
theorem dX2_init_20 : decode cX2_init 20 = .ok (.return_, 1) := by decide +kernel
theorem dX2_isThere_0 : decode cX2_isThere 0 = .ok (.aload_n 0, 1) := by decide +kernel
theorem dX2_isThere_1 : decode cX2_isThere 1 = .ok (.getfield 18, 3) := by decide +kernel
theorem dX2_isThere_4 : decode cX2_isThere 4 = .ok (.ifCond .le 7, 3) := by decide +kernel
theorem dX2_isThere_7 : decode cX2_isThere 7 = .ok (.iconst 1, 1) := by decide +kernel
theorem dX2_isThere_8 : decode cX2_isThere 8 = .ok (.goto 4, 3) := by decide +kernel
theorem dX2_isThere_11 : decode cX2_isThere 11 = .ok (.iconst 0, 1) := by decide +kernel
theorem dX2_isThere_12 : decode cX2_isThere 12 = .ok (.ireturn, 1) := by decide +kernel
theorem dX2_copy_0 : decode cX2_copy 0 = .ok (.aload_n 0, 1) := by decide +kernel
theorem dX2_copy_1 : decode cX2_copy 1 = .ok (.aload_n 1, 1) := by decide +kernel
theorem dX2_copy_2 : decode cX2_copy 2 = .ok (.getfield 18, 3) := by decide +kernel
theorem dX2_copy_5 : decode cX2_copy 5 = .ok (.putfield 18, 3) := by decide +kernel
theorem dX2_copy_8 : decode cX2_copy 8 = .ok (.aload_n 1, 1) := by decide +kernel
theorem dX2_copy_9 : decode cX2_copy 9 = .ok (.getfield 9, 3) := by decide +kernel
theorem dX2_copy_12 : decode cX2_copy 12 = .ok (.iconst 0, 1) := by decide +kernel
theorem dX2_copy_13 : decode cX2_copy 13 = .ok (.aload_n 0, 1) := by decide +kernel
theorem dX2_copy_14 : decode cX2_copy 14 = .ok (.getfield 9, 3) := by decide +kernel
theorem dX2_copy_17 : decode cX2_copy 17 = .ok (.iconst 0, 1) := by decide +kernel
theorem dX2_copy_18 : decode cX2_copy 18 = .ok (.bipush 50, 2) := by decide +kernel
theorem dX2_copy_20 : decode cX2_copy 20 = .ok (.invokestatic 22, 3) := by decide +kernel
theorem dX2_copy_23 : decode cX2_copy 23 = .ok (.return_, 1) := by decide +kernel
theorem dX2_add_0 : decode cX2_add 0 = .ok (.aload_n 0, 1) := by decide +kernel
theorem dX2_add_1 : decode cX2_add 1 = .ok (.getfield 18, 3) := by decide +kernel
theorem dX2_add_4 : decode cX2_add 4 = .ok (.ifCond .lt 12, 3) := by decide +kernel
theorem dX2_add_7 : decode cX2_add 7 = .ok (.aload_n 0, 1) := by decide +kernel
theorem dX2_add_8 : decode cX2_add 8 = .ok (.getfield 18, 3) := by decide +kernel
theorem dX2_add_11 : decode cX2_add 11 = .ok (.bipush 50, 2) := by decide +kernel
theorem dX2_add_13 : decode cX2_add 13 = .ok (.if_icmp .lt 4, 3) := by decide +kernel
theorem dX2_add_16 : decode cX2_add 16 = .ok (.return_, 1) := by decide +kernel
theorem dX2_add_17 : decode cX2_add 17 = .ok (.aload_n 0, 1) := by decide +kernel
theorem dX2_add_18 : decode cX2_add 18 = .ok (.getfield 9, 3) := by decide +kernel
theorem dX2_add_21 : decode cX2_add 21 = .ok (.aload_n 0, 1) := by decide +kernel
theorem dX2_add_22 : decode cX2_add 22 = .ok (.getfield 18, 3) := by decide +kernel
theorem dX2_add_25 : decode cX2_add 25 = .ok (.iload_n 1, 1) := by decide +kernel
theorem dX2_add_26 : decode cX2_add 26 = .ok (.iastore, 1) := by decide +kernel
theorem dX2_add_27 : decode cX2_add 27 = .ok (.aload_n 0, 1) := by decide +kernel
theorem dX2_add_28 : decode cX2_add 28 = .ok (.dup, 1) := by decide +kernel
theorem dX2_add_29 : decode cX2_add 29 = .ok (.getfield 18, 3) := by decide +kernel
theorem dX2_add_32 : decode cX2_add 32 = .ok (.iconst 1, 1) := by decide +kernel
theorem dX2_add_33 : decode cX2_add 33 = .ok (.iadd, 1) := by decide +kernel
theorem dX2_add_34 : decode cX2_add 34 = .ok (.putfield 18, 3) := by decide +kernel
theorem dX2_add_37 : decode cX2_add 37 = .ok (.return_, 1) := by decide +kernel
theorem dX2_worth_0 : decode cX2_worth 0 = .ok (.iconst 0, 1) := by decide +kernel
theorem dX2_worth_1 : decode cX2_worth 1 = .ok (.istore 4, 2) := by decide +kernel
theorem dX2_worth_3 : decode cX2_worth 3 = .ok (.iconst 0, 1) := by decide +kernel
theorem dX2_worth_4 : decode cX2_worth 4 = .ok (.istore 5, 2) := by decide +kernel
theorem dX2_worth_6 : decode cX2_worth 6 = .ok (.iload 5, 2) := by decide +kernel
theorem dX2_worth_8 : decode cX2_worth 8 = .ok (.aload_n 0, 1) := by decide +kernel
theorem dX2_worth_9 : decode cX2_worth 9 = .ok (.getfield 18, 3) := by decide +kernel
theorem dX2_worth_12 : decode cX2_worth 12 = .ok (.if_icmp .ge 191, 3) := by decide +kernel
theorem dX2_worth_15 : decode cX2_worth 15 = .ok (.iload 5, 2) := by decide +kernel
theorem dX2_worth_17 : decode cX2_worth 17 = .ok (.bipush 50, 2) := by decide +kernel
theorem dX2_worth_19 : decode cX2_worth 19 = .ok (.if_icmp .ge 184, 3) := by decide +kernel
theorem dX2_worth_22 : decode cX2_worth 22 = .ok (.aload_n 0, 1) := by decide +kernel
theorem dX2_worth_23 : decode cX2_worth 23 = .ok (.getfield 9, 3) := by decide +kernel
theorem dX2_worth_26 : decode cX2_worth 26 = .ok (.iload 5, 2) := by decide +kernel
theorem dX2_worth_28 : decode cX2_worth 28 = .ok (.iaload, 1) := by decide +kernel
theorem dX2_worth_29 : decode cX2_worth 29 = .ok (.istore 6, 2) := by decide +kernel
theorem dX2_worth_31 : decode cX2_worth 31 = .ok (.iload 6, 2) := by decide +kernel
theorem dX2_worth_33 : decode cX2_worth 33 = .ok (.bipush (-3), 2) := by decide +kernel
theorem dX2_worth_35 : decode cX2_worth 35 = .ok (.if_icmp .lt 62, 3) := by decide +kernel
theorem dX2_worth_38 : decode cX2_worth 38 = .ok (.iload 4, 2) := by decide +kernel
theorem dX2_worth_40 : decode cX2_worth 40 = .ok (.ifCond .lt 10, 3) := by decide +kernel
theorem dX2_worth_43 : decode cX2_worth 43 = .ok (.iload 4, 2) := by decide +kernel
theorem dX2_worth_45 : decode cX2_worth 45 = .ok (.bipush 50, 2) := by decide +kernel
theorem dX2_worth_47 : decode cX2_worth 47 = .ok (.if_icmp .lt 5, 3) := by decide +kernel
theorem dX2_worth_50 : decode cX2_worth 50 = .ok (.iconst 0, 1) := by decide +kernel
theorem dX2_worth_51 : decode cX2_worth 51 = .ok (.ireturn, 1) := by decide +kernel
theorem dX2_worth_52 : decode cX2_worth 52 = .ok (.aload_n 0, 1) := by decide +kernel
theorem dX2_worth_53 : decode cX2_worth 53 = .ok (.getfield 15, 3) := by decide +kernel
theorem dX2_worth_56 : decode cX2_worth 56 = .ok (.iload 4, 2) := by decide +kernel
theorem dX2_worth_58 : decode cX2_worth 58 = .ok (.iload 6, 2) := by decide +kernel
theorem dX2_worth_60 : decode cX2_worth 60 = .ok (.ifCond .lt 8, 3) := by decide +kernel
theorem dX2_worth_63 : decode cX2_worth 63 = .ok (.iload 6, 2) := by decide +kernel
theorem dX2_worth_65 : decode cX2_worth 65 = .ok (.goto 25, 3) := by decide +kernel
theorem dX2_worth_68 : decode cX2_worth 68 = .ok (.iload 6, 2) := by decide +kernel
theorem dX2_worth_70 : decode cX2_worth 70 = .ok (.iconst (-1), 1) := by decide +kernel
theorem dX2_worth_71 : decode cX2_worth 71 = .ok (.if_icmp .ne 7, 3) := by decide +kernel
theorem dX2_worth_74 : decode cX2_worth 74 = .ok (.iload_n 1, 1) := by decide +kernel
theorem dX2_worth_75 : decode cX2_worth 75 = .ok (.goto 15, 3) := by decide +kernel
theorem dX2_worth_78 : decode cX2_worth 78 = .ok (.iload 6, 2) := by decide +kernel
theorem dX2_worth_80 : decode cX2_worth 80 = .ok (.bipush (-2), 2) := by decide +kernel
theorem dX2_worth_82 : decode cX2_worth 82 = .ok (.if_icmp .ne 7, 3) := by decide +kernel
theorem dX2_worth_85 : decode cX2_worth 85 = .ok (.iload_n 2, 1) := by decide +kernel
theorem dX2_worth_86 : decode cX2_worth 86 = .ok (.goto 4, 3) := by decide +kernel
theorem dX2_worth_89 : decode cX2_worth 89 = .ok (.iload_n 3, 1) := by decide +kernel
theorem dX2_worth_90 : decode cX2_worth 90 = .ok (.iastore, 1) := by decide +kernel
theorem dX2_worth_91 : decode cX2_worth 91 = .ok (.iinc 4 1, 3) := by decide +kernel
theorem dX2_worth_94 : decode cX2_worth 94 = .ok (.goto 103, 3) := by decide +kernel
theorem dX2_worth_97 : decode cX2_worth 97 = .ok (.iload 6, 2) := by decide +kernel
theorem dX2_worth_99 : decode cX2_worth 99 = .ok (.bipush (-33), 2) := by decide +kernel
theorem dX2_worth_101 : decode cX2_worth 101 = .ok (.if_icmp .ne 47, 3) := by decide +kernel
theorem dX2_worth_104 : decode cX2_worth 104 = .ok (.iload 4, 2) := by decide +kernel
theorem dX2_worth_106 : decode cX2_worth 106 = .ok (.iconst 1, 1) := by decide +kernel
theorem dX2_worth_107 : decode cX2_worth 107 = .ok (.if_icmp .lt 10, 3) := by decide +kernel
theorem dX2_worth_110 : decode cX2_worth 110 = .ok (.iload 4, 2) := by decide +kernel
theorem dX2_worth_112 : decode cX2_worth 112 = .ok (.bipush 50, 2) := by decide +kernel
theorem dX2_worth_114 : decode cX2_worth 114 = .ok (.if_icmp .le 5, 3) := by decide +kernel
theorem dX2_worth_117 : decode cX2_worth 117 = .ok (.iconst 0, 1) := by decide +kernel
theorem dX2_worth_118 : decode cX2_worth 118 = .ok (.ireturn, 1) := by decide +kernel
theorem dX2_worth_119 : decode cX2_worth 119 = .ok (.aload_n 0, 1) := by decide +kernel
theorem dX2_worth_120 : decode cX2_worth 120 = .ok (.getfield 15, 3) := by decide +kernel
theorem dX2_worth_123 : decode cX2_worth 123 = .ok (.iload 4, 2) := by decide +kernel
theorem dX2_worth_125 : decode cX2_worth 125 = .ok (.iconst 1, 1) := by decide +kernel
theorem dX2_worth_126 : decode cX2_worth 126 = .ok (.isub, 1) := by decide +kernel
theorem dX2_worth_127 : decode cX2_worth 127 = .ok (.aload_n 0, 1) := by decide +kernel
theorem dX2_worth_128 : decode cX2_worth 128 = .ok (.getfield 15, 3) := by decide +kernel
theorem dX2_worth_131 : decode cX2_worth 131 = .ok (.iload 4, 2) := by decide +kernel
theorem dX2_worth_133 : decode cX2_worth 133 = .ok (.iconst 1, 1) := by decide +kernel
theorem dX2_worth_134 : decode cX2_worth 134 = .ok (.isub, 1) := by decide +kernel
theorem dX2_worth_135 : decode cX2_worth 135 = .ok (.iaload, 1) := by decide +kernel
theorem dX2_worth_136 : decode cX2_worth 136 = .ok (.ifCond .ne 7, 3) := by decide +kernel
theorem dX2_worth_139 : decode cX2_worth 139 = .ok (.iconst 1, 1) := by decide +kernel
theorem dX2_worth_140 : decode cX2_worth 140 = .ok (.goto 4, 3) := by decide +kernel
theorem dX2_worth_143 : decode cX2_worth 143 = .ok (.iconst 0, 1) := by decide +kernel
theorem dX2_worth_144 : decode cX2_worth 144 = .ok (.iastore, 1) := by decide +kernel
theorem dX2_worth_145 : decode cX2_worth 145 = .ok (.goto 52, 3) := by decide +kernel
theorem dX2_worth_148 : decode cX2_worth 148 = .ok (.iload 4, 2) := by decide +kernel
theorem dX2_worth_150 : decode cX2_worth 150 = .ok (.iconst 2, 1) := by decide +kernel
theorem dX2_worth_151 : decode cX2_worth 151 = .ok (.if_icmp .lt 10, 3) := by decide +kernel
theorem dX2_worth_154 : decode cX2_worth 154 = .ok (.iload 4, 2) := by decide +kernel
theorem dX2_worth_156 : decode cX2_worth 156 = .ok (.bipush 50, 2) := by decide +kernel
theorem dX2_worth_158 : decode cX2_worth 158 = .ok (.if_icmp .le 5, 3) := by decide +kernel
theorem dX2_worth_161 : decode cX2_worth 161 = .ok (.iconst 0, 1) := by decide +kernel
theorem dX2_worth_162 : decode cX2_worth 162 = .ok (.ireturn, 1) := by decide +kernel
theorem dX2_worth_163 : decode cX2_worth 163 = .ok (.iinc 4 (-1), 3) := by decide +kernel
theorem dX2_worth_166 : decode cX2_worth 166 = .ok (.aload_n 0, 1) := by decide +kernel
theorem dX2_worth_167 : decode cX2_worth 167 = .ok (.getfield 15, 3) := by decide +kernel
theorem dX2_worth_170 : decode cX2_worth 170 = .ok (.iload 4, 2) := by decide +kernel
theorem dX2_worth_172 : decode cX2_worth 172 = .ok (.iconst 1, 1) := by decide +kernel
theorem dX2_worth_173 : decode cX2_worth 173 = .ok (.isub, 1) := by decide +kernel
theorem dX2_worth_174 : decode cX2_worth 174 = .ok (.iload 6, 2) := by decide +kernel
theorem dX2_worth_176 : decode cX2_worth 176 = .ok (.ineg, 1) := by decide +kernel
theorem dX2_worth_177 : decode cX2_worth 177 = .ok (.aload_n 0, 1) := by decide +kernel
theorem dX2_worth_178 : decode cX2_worth 178 = .ok (.getfield 15, 3) := by decide +kernel
theorem dX2_worth_181 : decode cX2_worth 181 = .ok (.iload 4, 2) := by decide +kernel
theorem dX2_worth_183 : decode cX2_worth 183 = .ok (.iconst 1, 1) := by decide +kernel
theorem dX2_worth_184 : decode cX2_worth 184 = .ok (.isub, 1) := by decide +kernel
theorem dX2_worth_185 : decode cX2_worth 185 = .ok (.iaload, 1) := by decide +kernel
theorem dX2_worth_186 : decode cX2_worth 186 = .ok (.aload_n 0, 1) := by decide +kernel
theorem dX2_worth_187 : decode cX2_worth 187 = .ok (.getfield 15, 3) := by decide +kernel
theorem dX2_worth_190 : decode cX2_worth 190 = .ok (.iload 4, 2) := by decide +kernel
theorem dX2_worth_192 : decode cX2_worth 192 = .ok (.iaload, 1) := by decide +kernel
theorem dX2_worth_193 : decode cX2_worth 193 = .ok (.invokestatic 28, 3) := by decide +kernel
theorem dX2_worth_196 : decode cX2_worth 196 = .ok (.iastore, 1) := by decide +kernel
theorem dX2_worth_197 : decode cX2_worth 197 = .ok (.iinc 5 1, 3) := by decide +kernel
theorem dX2_worth_200 : decode cX2_worth 200 = .ok (.goto (-194), 3) := by decide +kernel
theorem dX2_worth_203 : decode cX2_worth 203 = .ok (.aload_n 0, 1) := by decide +kernel
theorem dX2_worth_204 : decode cX2_worth 204 = .ok (.getfield 15, 3) := by decide +kernel
theorem dX2_worth_207 : decode cX2_worth 207 = .ok (.iconst 0, 1) := by decide +kernel
theorem dX2_worth_208 : decode cX2_worth 208 = .ok (.iaload, 1) := by decide +kernel
theorem dX2_worth_209 : decode cX2_worth 209 = .ok (.ireturn, 1) := by decide +kernel
theorem dX2_joined_0 : decode cX2_joined 0 = .ok (.iload_n 0, 1) := by decide +kernel
theorem dX2_joined_1 : decode cX2_joined 1 = .ok (.lookupswitch 188 #[(37, 176), (38, 105), (42, 160), (43, 152), (45, 156), (47, 164), (60, 119), (61, 130), (62, 141), (124, 91)], 91) := by decide +kernel
theorem dX2_joined_92 : decode cX2_joined 92 = .ok (.iload_n 1, 1) := by decide +kernel
theorem dX2_joined_93 : decode cX2_joined 93 = .ok (.ifCond .ne 7, 3) := by decide +kernel
theorem dX2_joined_96 : decode cX2_joined 96 = .ok (.iload_n 2, 1) := by decide +kernel
theorem dX2_joined_97 : decode cX2_joined 97 = .ok (.ifCond .eq 7, 3) := by decide +kernel
theorem dX2_joined_100 : decode cX2_joined 100 = .ok (.iconst 1, 1) := by decide +kernel
theorem dX2_joined_101 : decode cX2_joined 101 = .ok (.goto 4, 3) := by decide +kernel
theorem dX2_joined_104 : decode cX2_joined 104 = .ok (.iconst 0, 1) := by decide +kernel
theorem dX2_joined_105 : decode cX2_joined 105 = .ok (.ireturn, 1) := by decide +kernel
theorem dX2_joined_106 : decode cX2_joined 106 = .ok (.iload_n 1, 1) := by decide +kernel
theorem dX2_joined_107 : decode cX2_joined 107 = .ok (.ifCond .eq 11, 3) := by decide +kernel
theorem dX2_joined_110 : decode cX2_joined 110 = .ok (.iload_n 2, 1) := by decide +kernel
theorem dX2_joined_111 : decode cX2_joined 111 = .ok (.ifCond .eq 7, 3) := by decide +kernel
theorem dX2_joined_114 : decode cX2_joined 114 = .ok (.iconst 1, 1) := by decide +kernel
theorem dX2_joined_115 : decode cX2_joined 115 = .ok (.goto 4, 3) := by decide +kernel
theorem dX2_joined_118 : decode cX2_joined 118 = .ok (.iconst 0, 1) := by decide +kernel
theorem dX2_joined_119 : decode cX2_joined 119 = .ok (.ireturn, 1) := by decide +kernel
theorem dX2_joined_120 : decode cX2_joined 120 = .ok (.iload_n 1, 1) := by decide +kernel
theorem dX2_joined_121 : decode cX2_joined 121 = .ok (.iload_n 2, 1) := by decide +kernel
theorem dX2_joined_122 : decode cX2_joined 122 = .ok (.if_icmp .ge 7, 3) := by decide +kernel
theorem dX2_joined_125 : decode cX2_joined 125 = .ok (.iconst 1, 1) := by decide +kernel
theorem dX2_joined_126 : decode cX2_joined 126 = .ok (.goto 4, 3) := by decide +kernel
theorem dX2_joined_129 : decode cX2_joined 129 = .ok (.iconst 0, 1) := by decide +kernel
theorem dX2_joined_130 : decode cX2_joined 130 = .ok (.ireturn, 1) := by decide +kernel
theorem dX2_joined_131 : decode cX2_joined 131 = .ok (.iload_n 1, 1) := by decide +kernel
theorem dX2_joined_132 : decode cX2_joined 132 = .ok (.iload_n 2, 1) := by decide +kernel
theorem dX2_joined_133 : decode cX2_joined 133 = .ok (.if_icmp .ne 7, 3) := by decide +kernel
theorem dX2_joined_136 : decode cX2_joined 136 = .ok (.iconst 1, 1) := by decide +kernel
theorem dX2_joined_137 : decode cX2_joined 137 = .ok (.goto 4, 3) := by decide +kernel
theorem dX2_joined_140 : decode cX2_joined 140 = .ok (.iconst 0, 1) := by decide +kernel
theorem dX2_joined_141 : decode cX2_joined 141 = .ok (.ireturn, 1) := by decide +kernel
theorem dX2_joined_142 : decode cX2_joined 142 = .ok (.iload_n 1, 1) := by decide +kernel
theorem dX2_joined_143 : decode cX2_joined 143 = .ok (.iload_n 2, 1) := by decide +kernel
theorem dX2_joined_144 : decode cX2_joined 144 = .ok (.if_icmp .le 7, 3) := by decide +kernel
theorem dX2_joined_147 : decode cX2_joined 147 = .ok (.iconst 1, 1) := by decide +kernel
theorem dX2_joined_148 : decode cX2_joined 148 = .ok (.goto 4, 3) := by decide +kernel
theorem dX2_joined_151 : decode cX2_joined 151 = .ok (.iconst 0, 1) := by decide +kernel
theorem dX2_joined_152 : decode cX2_joined 152 = .ok (.ireturn, 1) := by decide +kernel
theorem dX2_joined_153 : decode cX2_joined 153 = .ok (.iload_n 1, 1) := by decide +kernel
theorem dX2_joined_154 : decode cX2_joined 154 = .ok (.iload_n 2, 1) := by decide +kernel
theorem dX2_joined_155 : decode cX2_joined 155 = .ok (.iadd, 1) := by decide +kernel
theorem dX2_joined_156 : decode cX2_joined 156 = .ok (.ireturn, 1) := by decide +kernel
theorem dX2_joined_157 : decode cX2_joined 157 = .ok (.iload_n 1, 1) := by decide +kernel
theorem dX2_joined_158 : decode cX2_joined 158 = .ok (.iload_n 2, 1) := by decide +kernel
theorem dX2_joined_159 : decode cX2_joined 159 = .ok (.isub, 1) := by decide +kernel
theorem dX2_joined_160 : decode cX2_joined 160 = .ok (.ireturn, 1) := by decide +kernel
theorem dX2_joined_161 : decode cX2_joined 161 = .ok (.iload_n 1, 1) := by decide +kernel
theorem dX2_joined_162 : decode cX2_joined 162 = .ok (.iload_n 2, 1) := by decide +kernel
theorem dX2_joined_163 : decode cX2_joined 163 = .ok (.imul, 1) := by decide +kernel
theorem dX2_joined_164 : decode cX2_joined 164 = .ok (.ireturn, 1) := by decide +kernel
theorem dX2_joined_165 : decode cX2_joined 165 = .ok (.iload_n 2, 1) := by decide +kernel
theorem dX2_joined_166 : decode cX2_joined 166 = .ok (.ifCond .ne 7, 3) := by decide +kernel
theorem dX2_joined_169 : decode cX2_joined 169 = .ok (.iconst 0, 1) := by decide +kernel
theorem dX2_joined_170 : decode cX2_joined 170 = .ok (.goto 6, 3) := by decide +kernel
theorem dX2_joined_173 : decode cX2_joined 173 = .ok (.iload_n 1, 1) := by decide +kernel
theorem dX2_joined_174 : decode cX2_joined 174 = .ok (.iload_n 2, 1) := by decide +kernel
theorem dX2_joined_175 : decode cX2_joined 175 = .ok (.idiv, 1) := by decide +kernel
theorem dX2_joined_176 : decode cX2_joined 176 = .ok (.ireturn, 1) := by decide +kernel
theorem dX2_joined_177 : decode cX2_joined 177 = .ok (.iload_n 2, 1) := by decide +kernel
theorem dX2_joined_178 : decode cX2_joined 178 = .ok (.ifCond .ne 7, 3) := by decide +kernel
theorem dX2_joined_181 : decode cX2_joined 181 = .ok (.iconst 0, 1) := by decide +kernel
theorem dX2_joined_182 : decode cX2_joined 182 = .ok (.goto 6, 3) := by decide +kernel
theorem dX2_joined_185 : decode cX2_joined 185 = .ok (.iload_n 1, 1) := by decide +kernel
theorem dX2_joined_186 : decode cX2_joined 186 = .ok (.iload_n 2, 1) := by decide +kernel
theorem dX2_joined_187 : decode cX2_joined 187 = .ok (.irem, 1) := by decide +kernel
theorem dX2_joined_188 : decode cX2_joined 188 = .ok (.ireturn, 1) := by decide +kernel
theorem dX2_joined_189 : decode cX2_joined 189 = .ok (.iconst 0, 1) := by decide +kernel
theorem dX2_joined_190 : decode cX2_joined 190 = .ok (.ireturn, 1) := by decide +kernel
theorem dX3_init_0 : decode cX3_init 0 = .ok (.aload_n 0, 1) := by decide +kernel
theorem dX3_init_1 : decode cX3_init 1 = .ok (.invokespecial 3, 3) := by decide +kernel
theorem dX3_init_4 : decode cX3_init 4 = .ok (.aload_n 0, 1) := by decide +kernel
theorem dX3_init_5 : decode cX3_init 5 = .ok (.iconst 2, 1) := by decide +kernel
theorem dX3_init_6 : decode cX3_init 6 = .ok (.putfield 9, 3) := by decide +kernel
theorem dX3_init_9 : decode cX3_init 9 = .ok (.aload_n 0, 1) := by decide +kernel
theorem dX3_init_10 : decode cX3_init 10 = .ok (.iconst 4, 1) := by decide +kernel
theorem dX3_init_11 : decode cX3_init 11 = .ok (.newarray .int, 2) := by decide +kernel
theorem dX3_init_13 : decode cX3_init 13 = .ok (.putfield 15, 3) := by decide +kernel
theorem dX3_init_16 : decode cX3_init 16 = .ok (.aload_n 0, 1) := by decide +kernel
theorem dX3_init_17 : decode cX3_init 17 = .ok (.new 19, 3) := by decide +kernel
theorem dX3_init_20 : decode cX3_init 20 = .ok (.dup, 1) := by decide +kernel
theorem dX3_init_21 : decode cX3_init 21 = .ok (.invokespecial 21, 3) := by decide +kernel
theorem dX3_init_24 : decode cX3_init 24 = .ok (.putfield 22, 3) := by decide +kernel
theorem dX3_init_27 : decode cX3_init 27 = .ok (.aload_n 0, 1) := by decide +kernel
theorem dX3_init_28 : decode cX3_init 28 = .ok (.new 19, 3) := by decide +kernel
theorem dX3_init_31 : decode cX3_init 31 = .ok (.dup, 1) := by decide +kernel
theorem dX3_init_32 : decode cX3_init 32 = .ok (.invokespecial 21, 3) := by decide +kernel
theorem dX3_init_35 : decode cX3_init 35 = .ok (.putfield 26, 3) := by decide +kernel
theorem dX3_init_38 : decode cX3_init 38 = .ok (.aload_n 0, 1) := by decide +kernel
theorem dX3_init_39 : decode cX3_init 39 = .ok (.sipush 2304, 3) := by decide +kernel
theorem dX3_init_42 : decode cX3_init 42 = .ok (.newarray .int, 2) := by decide +kernel
theorem dX3_init_44 : decode cX3_init 44 = .ok (.putfield 29, 3) := by decide +kernel
theorem dX3_init_47 : decode cX3_init 47 = .ok (.aload_n 0, 1) := by decide +kernel
theorem dX3_init_48 : decode cX3_init 48 = .ok (.getfield 29, 3) := by decide +kernel
theorem dX3_init_51 : decode cX3_init 51 = .ok (.iconst (-1), 1) := by decide +kernel
theorem dX3_init_52 : decode cX3_init 52 = .ok (.invokestatic 32, 3) := by decide +kernel
theorem dX3_init_55 : decode cX3_init 55 = .ok (.return_, 1) := by decide +kernel
theorem dX3_copy_0 : decode cX3_copy 0 = .ok (.aload_n 0, 1) := by decide +kernel
theorem dX3_copy_1 : decode cX3_copy 1 = .ok (.aload_n 1, 1) := by decide +kernel
theorem dX3_copy_2 : decode cX3_copy 2 = .ok (.getfield 9, 3) := by decide +kernel
theorem dX3_copy_5 : decode cX3_copy 5 = .ok (.putfield 9, 3) := by decide +kernel
theorem dX3_copy_8 : decode cX3_copy 8 = .ok (.aload_n 1, 1) := by decide +kernel
theorem dX3_copy_9 : decode cX3_copy 9 = .ok (.getfield 15, 3) := by decide +kernel
theorem dX3_copy_12 : decode cX3_copy 12 = .ok (.iconst 0, 1) := by decide +kernel
theorem dX3_copy_13 : decode cX3_copy 13 = .ok (.aload_n 0, 1) := by decide +kernel
theorem dX3_copy_14 : decode cX3_copy 14 = .ok (.getfield 15, 3) := by decide +kernel
theorem dX3_copy_17 : decode cX3_copy 17 = .ok (.iconst 0, 1) := by decide +kernel
theorem dX3_copy_18 : decode cX3_copy 18 = .ok (.iconst 4, 1) := by decide +kernel
theorem dX3_copy_19 : decode cX3_copy 19 = .ok (.invokestatic 38, 3) := by decide +kernel
theorem dX3_copy_22 : decode cX3_copy 22 = .ok (.aload_n 0, 1) := by decide +kernel
theorem dX3_copy_23 : decode cX3_copy 23 = .ok (.getfield 22, 3) := by decide +kernel
theorem dX3_copy_26 : decode cX3_copy 26 = .ok (.aload_n 1, 1) := by decide +kernel
theorem dX3_copy_27 : decode cX3_copy 27 = .ok (.getfield 22, 3) := by decide +kernel
theorem dX3_copy_30 : decode cX3_copy 30 = .ok (.invokevirtual 44, 3) := by decide +kernel
theorem dX3_copy_33 : decode cX3_copy 33 = .ok (.aload_n 0, 1) := by decide +kernel
theorem dX3_copy_34 : decode cX3_copy 34 = .ok (.getfield 26, 3) := by decide +kernel
theorem dX3_copy_37 : decode cX3_copy 37 = .ok (.aload_n 1, 1) := by decide +kernel
theorem dX3_copy_38 : decode cX3_copy 38 = .ok (.getfield 26, 3) := by decide +kernel
theorem dX3_copy_41 : decode cX3_copy 41 = .ok (.invokevirtual 44, 3) := by decide +kernel
theorem dX3_copy_44 : decode cX3_copy 44 = .ok (.aload_n 0, 1) := by decide +kernel
theorem dX3_copy_45 : decode cX3_copy 45 = .ok (.getfield 29, 3) := by decide +kernel
theorem dX3_copy_48 : decode cX3_copy 48 = .ok (.iconst (-1), 1) := by decide +kernel
theorem dX3_copy_49 : decode cX3_copy 49 = .ok (.invokestatic 32, 3) := by decide +kernel
theorem dX3_copy_52 : decode cX3_copy 52 = .ok (.return_, 1) := by decide +kernel
theorem dX3_adopt_0 : decode cX3_adopt 0 = .ok (.iload_n 1, 1) := by decide +kernel
theorem dX3_adopt_1 : decode cX3_adopt 1 = .ok (.ifCond .ne 22, 3) := by decide +kernel
theorem dX3_adopt_4 : decode cX3_adopt 4 = .ok (.aload_n 0, 1) := by decide +kernel
theorem dX3_adopt_5 : decode cX3_adopt 5 = .ok (.getfield 22, 3) := by decide +kernel
theorem dX3_adopt_8 : decode cX3_adopt 8 = .ok (.aload_n 2, 1) := by decide +kernel
theorem dX3_adopt_9 : decode cX3_adopt 9 = .ok (.invokevirtual 44, 3) := by decide +kernel
theorem dX3_adopt_12 : decode cX3_adopt 12 = .ok (.aload_n 0, 1) := by decide +kernel
theorem dX3_adopt_13 : decode cX3_adopt 13 = .ok (.getfield 29, 3) := by decide +kernel
theorem dX3_adopt_16 : decode cX3_adopt 16 = .ok (.iconst (-1), 1) := by decide +kernel
theorem dX3_adopt_17 : decode cX3_adopt 17 = .ok (.invokestatic 32, 3) := by decide +kernel
theorem dX3_adopt_20 : decode cX3_adopt 20 = .ok (.goto 11, 3) := by decide +kernel
theorem dX3_adopt_23 : decode cX3_adopt 23 = .ok (.aload_n 0, 1) := by decide +kernel
theorem dX3_adopt_24 : decode cX3_adopt 24 = .ok (.getfield 26, 3) := by decide +kernel
theorem dX3_adopt_27 : decode cX3_adopt 27 = .ok (.aload_n 2, 1) := by decide +kernel
theorem dX3_adopt_28 : decode cX3_adopt 28 = .ok (.invokevirtual 44, 3) := by decide +kernel
theorem dX3_adopt_31 : decode cX3_adopt 31 = .ok (.return_, 1) := by decide +kernel
theorem dX3_tideIn_0 : decode cX3_tideIn 0 = .ok (.aload_n 0, 1) := by decide +kernel
theorem dX3_tideIn_1 : decode cX3_tideIn 1 = .ok (.getfield 15, 3) := by decide +kernel
theorem dX3_tideIn_4 : decode cX3_tideIn 4 = .ok (.iload_n 1, 1) := by decide +kernel
theorem dX3_tideIn_5 : decode cX3_tideIn 5 = .ok (.iconst 3, 1) := by decide +kernel
theorem dX3_tideIn_6 : decode cX3_tideIn 6 = .ok (.ishr, 1) := by decide +kernel
theorem dX3_tideIn_7 : decode cX3_tideIn 7 = .ok (.iconst 3, 1) := by decide +kernel
theorem dX3_tideIn_8 : decode cX3_tideIn 8 = .ok (.iand, 1) := by decide +kernel
theorem dX3_tideIn_9 : decode cX3_tideIn 9 = .ok (.iaload, 1) := by decide +kernel
theorem dX3_tideIn_10 : decode cX3_tideIn 10 = .ok (.ireturn, 1) := by decide +kernel
theorem dX3_lagBy_0 : decode cX3_lagBy 0 = .ok (.iload_n 2, 1) := by decide +kernel
theorem dX3_lagBy_1 : decode cX3_lagBy 1 = .ok (.iconst 1, 1) := by decide +kernel
theorem dX3_lagBy_2 : decode cX3_lagBy 2 = .ok (.isub, 1) := by decide +kernel
theorem dX3_lagBy_3 : decode cX3_lagBy 3 = .ok (.bipush 32, 2) := by decide +kernel
theorem dX3_lagBy_5 : decode cX3_lagBy 5 = .ok (.imul, 1) := by decide +kernel
theorem dX3_lagBy_6 : decode cX3_lagBy 6 = .ok (.iload_n 3, 1) := by decide +kernel
theorem dX3_lagBy_7 : decode cX3_lagBy 7 = .ok (.iadd, 1) := by decide +kernel
theorem dX3_lagBy_8 : decode cX3_lagBy 8 = .ok (.bipush 8, 2) := by decide +kernel
theorem dX3_lagBy_10 : decode cX3_lagBy 10 = .ok (.imul, 1) := by decide +kernel
theorem dX3_lagBy_11 : decode cX3_lagBy 11 = .ok (.iload_n 1, 1) := by decide +kernel
theorem dX3_lagBy_12 : decode cX3_lagBy 12 = .ok (.iadd, 1) := by decide +kernel
theorem dX3_lagBy_13 : decode cX3_lagBy 13 = .ok (.istore 4, 2) := by decide +kernel
theorem dX3_lagBy_15 : decode cX3_lagBy 15 = .ok (.iload 4, 2) := by decide +kernel
theorem dX3_lagBy_17 : decode cX3_lagBy 17 = .ok (.ifCond .lt 13, 3) := by decide +kernel
theorem dX3_lagBy_20 : decode cX3_lagBy 20 = .ok (.iload 4, 2) := by decide +kernel
theorem dX3_lagBy_22 : decode cX3_lagBy 22 = .ok (.aload_n 0, 1) := by decide +kernel
theorem dX3_lagBy_23 : decode cX3_lagBy 23 = .ok (.getfield 29, 3) := by decide +kernel
theorem dX3_lagBy_26 : decode cX3_lagBy 26 = .ok (.arraylength, 1) := by decide +kernel
theorem dX3_lagBy_27 : decode cX3_lagBy 27 = .ok (.if_icmp .lt 12, 3) := by decide +kernel
theorem dX3_lagBy_30 : decode cX3_lagBy 30 = .ok (.aload_n 0, 1) := by decide +kernel
theorem dX3_lagBy_31 : decode cX3_lagBy 31 = .ok (.iconst 0, 1) := by decide +kernel
theorem dX3_lagBy_32 : decode cX3_lagBy 32 = .ok (.iload_n 1, 1) := by decide +kernel
theorem dX3_lagBy_33 : decode cX3_lagBy 33 = .ok (.iload_n 2, 1) := by decide +kernel
theorem dX3_lagBy_34 : decode cX3_lagBy 34 = .ok (.iload_n 3, 1) := by decide +kernel
theorem dX3_lagBy_35 : decode cX3_lagBy 35 = .ok (.invokevirtual 48, 3) := by decide +kernel
theorem dX3_lagBy_38 : decode cX3_lagBy 38 = .ok (.ireturn, 1) := by decide +kernel
theorem dX3_lagBy_39 : decode cX3_lagBy 39 = .ok (.aload_n 0, 1) := by decide +kernel
theorem dX3_lagBy_40 : decode cX3_lagBy 40 = .ok (.getfield 29, 3) := by decide +kernel
theorem dX3_lagBy_43 : decode cX3_lagBy 43 = .ok (.iload 4, 2) := by decide +kernel
theorem dX3_lagBy_45 : decode cX3_lagBy 45 = .ok (.iaload, 1) := by decide +kernel
theorem dX3_lagBy_46 : decode cX3_lagBy 46 = .ok (.iconst (-1), 1) := by decide +kernel
theorem dX3_lagBy_47 : decode cX3_lagBy 47 = .ok (.if_icmp .ne 18, 3) := by decide +kernel
theorem dX3_lagBy_50 : decode cX3_lagBy 50 = .ok (.aload_n 0, 1) := by decide +kernel
theorem dX3_lagBy_51 : decode cX3_lagBy 51 = .ok (.getfield 29, 3) := by decide +kernel
theorem dX3_lagBy_54 : decode cX3_lagBy 54 = .ok (.iload 4, 2) := by decide +kernel
theorem dX3_lagBy_56 : decode cX3_lagBy 56 = .ok (.aload_n 0, 1) := by decide +kernel
theorem dX3_lagBy_57 : decode cX3_lagBy 57 = .ok (.iconst 0, 1) := by decide +kernel
theorem dX3_lagBy_58 : decode cX3_lagBy 58 = .ok (.iload_n 1, 1) := by decide +kernel
theorem dX3_lagBy_59 : decode cX3_lagBy 59 = .ok (.iload_n 2, 1) := by decide +kernel
theorem dX3_lagBy_60 : decode cX3_lagBy 60 = .ok (.iload_n 3, 1) := by decide +kernel
theorem dX3_lagBy_61 : decode cX3_lagBy 61 = .ok (.invokevirtual 48, 3) := by decide +kernel
theorem dX3_lagBy_64 : decode cX3_lagBy 64 = .ok (.iastore, 1) := by decide +kernel
theorem dX3_lagBy_65 : decode cX3_lagBy 65 = .ok (.aload_n 0, 1) := by decide +kernel
theorem dX3_lagBy_66 : decode cX3_lagBy 66 = .ok (.getfield 29, 3) := by decide +kernel
theorem dX3_lagBy_69 : decode cX3_lagBy 69 = .ok (.iload 4, 2) := by decide +kernel
theorem dX3_lagBy_71 : decode cX3_lagBy 71 = .ok (.iaload, 1) := by decide +kernel
theorem dX3_lagBy_72 : decode cX3_lagBy 72 = .ok (.ireturn, 1) := by decide +kernel
theorem dX3_gives_0 : decode cX3_gives 0 = .ok (.iload_n 1, 1) := by decide +kernel
theorem dX3_gives_1 : decode cX3_gives 1 = .ok (.ifCond .ne 10, 3) := by decide +kernel
theorem dX3_gives_4 : decode cX3_gives 4 = .ok (.aload_n 0, 1) := by decide +kernel
theorem dX3_gives_5 : decode cX3_gives 5 = .ok (.getfield 22, 3) := by decide +kernel
theorem dX3_gives_8 : decode cX3_gives 8 = .ok (.goto 7, 3) := by decide +kernel
theorem dX3_gives_11 : decode cX3_gives 11 = .ok (.aload_n 0, 1) := by decide +kernel
theorem dX3_gives_12 : decode cX3_gives 12 = .ok (.getfield 26, 3) := by decide +kernel
theorem dX3_gives_15 : decode cX3_gives 15 = .ok (.astore 5, 2) := by decide +kernel
theorem dX3_gives_17 : decode cX3_gives 17 = .ok (.aload 5, 2) := by decide +kernel
theorem dX3_gives_19 : decode cX3_gives 19 = .ok (.invokevirtual 52, 3) := by decide +kernel
theorem dX3_gives_22 : decode cX3_gives 22 = .ok (.ifCond .eq 15, 3) := by decide +kernel
theorem dX3_gives_25 : decode cX3_gives 25 = .ok (.aload 5, 2) := by decide +kernel
theorem dX3_gives_27 : decode cX3_gives 27 = .ok (.iload_n 2, 1) := by decide +kernel
theorem dX3_gives_28 : decode cX3_gives 28 = .ok (.iload_n 3, 1) := by decide +kernel
theorem dX3_gives_29 : decode cX3_gives 29 = .ok (.iload 4, 2) := by decide +kernel
theorem dX3_gives_31 : decode cX3_gives 31 = .ok (.invokevirtual 56, 3) := by decide +kernel
theorem dX3_gives_34 : decode cX3_gives 34 = .ok (.goto 9, 3) := by decide +kernel
theorem dX3_gives_37 : decode cX3_gives 37 = .ok (.iload_n 1, 1) := by decide +kernel
theorem dX3_gives_38 : decode cX3_gives 38 = .ok (.iload_n 2, 1) := by decide +kernel
theorem dX3_gives_39 : decode cX3_gives 39 = .ok (.iload_n 3, 1) := by decide +kernel
theorem dX3_gives_40 : decode cX3_gives 40 = .ok (.invokestatic 60, 3) := by decide +kernel
theorem dX3_gives_43 : decode cX3_gives 43 = .ok (.istore 6, 2) := by decide +kernel
theorem dX3_gives_45 : decode cX3_gives 45 = .ok (.iconst 0, 1) := by decide +kernel
theorem dX3_gives_46 : decode cX3_gives 46 = .ok (.bipush 99, 2) := by decide +kernel
theorem dX3_gives_48 : decode cX3_gives 48 = .ok (.iload 6, 2) := by decide +kernel
theorem dX3_gives_50 : decode cX3_gives 50 = .ok (.invokestatic 63, 3) := by decide +kernel
theorem dX3_gives_53 : decode cX3_gives 53 = .ok (.invokestatic 69, 3) := by decide +kernel
theorem dX3_gives_56 : decode cX3_gives 56 = .ok (.ireturn, 1) := by decide +kernel
theorem dX3_withoutText_0 : decode cX3_withoutText 0 = .ok (.iload_n 0, 1) := by decide +kernel
theorem dX3_withoutText_1 : decode cX3_withoutText 1 = .ok (.iconst 1, 1) := by decide +kernel
theorem dX3_withoutText_2 : decode cX3_withoutText 2 = .ok (.if_icmp .ne 5, 3) := by decide +kernel
theorem dX3_withoutText_5 : decode cX3_withoutText 5 = .ok (.iload_n 2, 1) := by decide +kernel
theorem dX3_withoutText_6 : decode cX3_withoutText 6 = .ok (.ireturn, 1) := by decide +kernel
theorem dX3_withoutText_7 : decode cX3_withoutText 7 = .ok (.iload_n 2, 1) := by decide +kernel
theorem dX3_withoutText_8 : decode cX3_withoutText 8 = .ok (.ifCond .ne 7, 3) := by decide +kernel
theorem dX3_withoutText_11 : decode cX3_withoutText 11 = .ok (.iconst 0, 1) := by decide +kernel
theorem dX3_withoutText_12 : decode cX3_withoutText 12 = .ok (.goto 6, 3) := by decide +kernel
theorem dX3_withoutText_15 : decode cX3_withoutText 15 = .ok (.iload_n 1, 1) := by decide +kernel
theorem dX3_withoutText_16 : decode cX3_withoutText 16 = .ok (.iload_n 2, 1) := by decide +kernel
theorem dX3_withoutText_17 : decode cX3_withoutText 17 = .ok (.idiv, 1) := by decide +kernel
theorem dX3_withoutText_18 : decode cX3_withoutText 18 = .ok (.ireturn, 1) := by decide +kernel
theorem dX4_init_0 : decode cX4_init 0 = .ok (.aload_n 0, 1) := by decide +kernel
theorem dX4_init_1 : decode cX4_init 1 = .ok (.invokespecial 3, 3) := by decide +kernel
theorem dX4_init_4 : decode cX4_init 4 = .ok (.aload_n 0, 1) := by decide +kernel
theorem dX4_init_5 : decode cX4_init 5 = .ok (.new 9, 3) := by decide +kernel
theorem dX4_init_8 : decode cX4_init 8 = .ok (.dup, 1) := by decide +kernel
theorem dX4_init_9 : decode cX4_init 9 = .ok (.invokespecial 11, 3) := by decide +kernel
theorem dX4_init_12 : decode cX4_init 12 = .ok (.putfield 12, 3) := by decide +kernel
theorem dX4_init_15 : decode cX4_init 15 = .ok (.aload_n 0, 1) := by decide +kernel
theorem dX4_init_16 : decode cX4_init 16 = .ok (.sipush 129, 3) := by decide +kernel
theorem dX4_init_19 : decode cX4_init 19 = .ok (.bipush 9, 2) := by decide +kernel
theorem dX4_init_21 : decode cX4_init 21 = .ok (.multianewarray 18 2, 4) := by decide +kernel
theorem dX4_init_25 : decode cX4_init 25 = .ok (.putfield 20, 3) := by decide +kernel
theorem dX4_init_28 : decode cX4_init 28 = .ok (.aload_n 0, 1) := by decide +kernel
theorem dX4_init_29 : decode cX4_init 29 = .ok (.sipush 129, 3) := by decide +kernel
theorem dX4_init_32 : decode cX4_init 32 = .ok (.newarray .int, 2) := by decide +kernel
theorem dX4_init_34 : decode cX4_init 34 = .ok (.putfield 23, 3) := by decide +kernel
theorem dX4_init_37 : decode cX4_init 37 = .ok (.return_, 1) := by decide +kernel
theorem dX4_watch_0 : decode cX4_watch 0 = .ok (.aload_n 0, 1) := by decide +kernel
theorem dX4_watch_1 : decode cX4_watch 1 = .ok (.getfield 12, 3) := by decide +kernel
theorem dX4_watch_4 : decode cX4_watch 4 = .ok (.aload_n 1, 1) := by decide +kernel
theorem dX4_watch_5 : decode cX4_watch 5 = .ok (.getfield 27, 3) := by decide +kernel
theorem dX4_watch_8 : decode cX4_watch 8 = .ok (.invokevirtual 30, 3) := by decide +kernel
theorem dX4_watch_11 : decode cX4_watch 11 = .ok (.aload_n 0, 1) := by decide +kernel
theorem dX4_watch_12 : decode cX4_watch 12 = .ok (.aload_n 1, 1) := by decide +kernel
theorem dX4_watch_13 : decode cX4_watch 13 = .ok (.getfield 34, 3) := by decide +kernel
theorem dX4_watch_16 : decode cX4_watch 16 = .ok (.putfield 38, 3) := by decide +kernel
theorem dX4_watch_19 : decode cX4_watch 19 = .ok (.aload_n 0, 1) := by decide +kernel
theorem dX4_watch_20 : decode cX4_watch 20 = .ok (.iconst 0, 1) := by decide +kernel
theorem dX4_watch_21 : decode cX4_watch 21 = .ok (.sipush 128, 3) := by decide +kernel
theorem dX4_watch_24 : decode cX4_watch 24 = .ok (.iload_n 2, 1) := by decide +kernel
theorem dX4_watch_25 : decode cX4_watch 25 = .ok (.invokestatic 39, 3) := by decide +kernel
theorem dX4_watch_28 : decode cX4_watch 28 = .ok (.invokestatic 45, 3) := by decide +kernel
theorem dX4_watch_31 : decode cX4_watch 31 = .ok (.putfield 48, 3) := by decide +kernel
theorem dX4_watch_34 : decode cX4_watch 34 = .ok (.aload_n 0, 1) := by decide +kernel
theorem dX4_watch_35 : decode cX4_watch 35 = .ok (.getfield 23, 3) := by decide +kernel
theorem dX4_watch_38 : decode cX4_watch 38 = .ok (.iconst 0, 1) := by decide +kernel
theorem dX4_watch_39 : decode cX4_watch 39 = .ok (.invokestatic 51, 3) := by decide +kernel
theorem dX4_watch_42 : decode cX4_watch 42 = .ok (.return_, 1) := by decide +kernel
theorem dX4_sail_0 : decode cX4_sail 0 = .ok (.aload_n 0, 1) := by decide +kernel
theorem dX4_sail_1 : decode cX4_sail 1 = .ok (.getfield 12, 3) := by decide +kernel
theorem dX4_sail_4 : decode cX4_sail 4 = .ok (.iload_n 2, 1) := by decide +kernel
theorem dX4_sail_5 : decode cX4_sail 5 = .ok (.invokevirtual 57, 3) := by decide +kernel
theorem dX4_sail_8 : decode cX4_sail 8 = .ok (.ifCond .ne 4, 3) := by decide +kernel
theorem dX4_sail_11 : decode cX4_sail 11 = .ok (.return_, 1) := by decide +kernel
theorem dX4_sail_12 : decode cX4_sail 12 = .ok (.aload_n 0, 1) := by decide +kernel
theorem dX4_sail_13 : decode cX4_sail 13 = .ok (.getfield 12, 3) := by decide +kernel
theorem dX4_sail_16 : decode cX4_sail 16 = .ok (.getfield 61, 3) := by decide +kernel
theorem dX4_sail_19 : decode cX4_sail 19 = .ok (.iload_n 2, 1) := by decide +kernel
theorem dX4_sail_20 : decode cX4_sail 20 = .ok (.iaload, 1) := by decide +kernel
theorem dX4_sail_21 : decode cX4_sail 21 = .ok (.istore_n 3, 1) := by decide +kernel
theorem dX4_sail_22 : decode cX4_sail 22 = .ok (.iconst 0, 1) := by decide +kernel
theorem dX4_sail_23 : decode cX4_sail 23 = .ok (.istore 4, 2) := by decide +kernel
theorem dX4_sail_25 : decode cX4_sail 25 = .ok (.iload 4, 2) := by decide +kernel
theorem dX4_sail_27 : decode cX4_sail 27 = .ok (.aload_n 0, 1) := by decide +kernel
theorem dX4_sail_28 : decode cX4_sail 28 = .ok (.getfield 48, 3) := by decide +kernel
theorem dX4_sail_31 : decode cX4_sail 31 = .ok (.if_icmp .gt 107, 3) := by decide +kernel
theorem dX4_sail_34 : decode cX4_sail 34 = .ok (.iload 4, 2) := by decide +kernel
theorem dX4_sail_36 : decode cX4_sail 36 = .ok (.sipush 128, 3) := by decide +kernel
theorem dX4_sail_39 : decode cX4_sail 39 = .ok (.if_icmp .gt 99, 3) := by decide +kernel
theorem dX4_sail_42 : decode cX4_sail 42 = .ok (.aload_n 0, 1) := by decide +kernel
theorem dX4_sail_43 : decode cX4_sail 43 = .ok (.getfield 38, 3) := by decide +kernel
theorem dX4_sail_46 : decode cX4_sail 46 = .ok (.iload 4, 2) := by decide +kernel
theorem dX4_sail_48 : decode cX4_sail 48 = .ok (.iadd, 1) := by decide +kernel
theorem dX4_sail_49 : decode cX4_sail 49 = .ok (.bipush 31, 2) := by decide +kernel
theorem dX4_sail_51 : decode cX4_sail 51 = .ok (.iand, 1) := by decide +kernel
theorem dX4_sail_52 : decode cX4_sail 52 = .ok (.istore 5, 2) := by decide +kernel
theorem dX4_sail_54 : decode cX4_sail 54 = .ok (.iconst 1, 1) := by decide +kernel
theorem dX4_sail_55 : decode cX4_sail 55 = .ok (.iload_n 2, 1) := by decide +kernel
theorem dX4_sail_56 : decode cX4_sail 56 = .ok (.ishl, 1) := by decide +kernel
theorem dX4_sail_57 : decode cX4_sail 57 = .ok (.istore 6, 2) := by decide +kernel
theorem dX4_sail_59 : decode cX4_sail 59 = .ok (.aload_n 0, 1) := by decide +kernel
theorem dX4_sail_60 : decode cX4_sail 60 = .ok (.getfield 20, 3) := by decide +kernel
theorem dX4_sail_63 : decode cX4_sail 63 = .ok (.iload 4, 2) := by decide +kernel
theorem dX4_sail_65 : decode cX4_sail 65 = .ok (.aaload, 1) := by decide +kernel
theorem dX4_sail_66 : decode cX4_sail 66 = .ok (.iload_n 2, 1) := by decide +kernel
theorem dX4_sail_67 : decode cX4_sail 67 = .ok (.iload_n 3, 1) := by decide +kernel
theorem dX4_sail_68 : decode cX4_sail 68 = .ok (.iastore, 1) := by decide +kernel
theorem dX4_sail_69 : decode cX4_sail 69 = .ok (.aload_n 0, 1) := by decide +kernel
theorem dX4_sail_70 : decode cX4_sail 70 = .ok (.getfield 23, 3) := by decide +kernel
theorem dX4_sail_73 : decode cX4_sail 73 = .ok (.iload 4, 2) := by decide +kernel
theorem dX4_sail_75 : decode cX4_sail 75 = .ok (.aload_n 0, 1) := by decide +kernel
theorem dX4_sail_76 : decode cX4_sail 76 = .ok (.getfield 12, 3) := by decide +kernel
theorem dX4_sail_79 : decode cX4_sail 79 = .ok (.iload_n 2, 1) := by decide +kernel
theorem dX4_sail_80 : decode cX4_sail 80 = .ok (.iload 5, 2) := by decide +kernel
theorem dX4_sail_82 : decode cX4_sail 82 = .ok (.invokevirtual 63, 3) := by decide +kernel
theorem dX4_sail_85 : decode cX4_sail 85 = .ok (.ifCond .eq 16, 3) := by decide +kernel
theorem dX4_sail_88 : decode cX4_sail 88 = .ok (.aload_n 0, 1) := by decide +kernel
theorem dX4_sail_89 : decode cX4_sail 89 = .ok (.getfield 23, 3) := by decide +kernel
theorem dX4_sail_92 : decode cX4_sail 92 = .ok (.iload 4, 2) := by decide +kernel
theorem dX4_sail_94 : decode cX4_sail 94 = .ok (.iaload, 1) := by decide +kernel
theorem dX4_sail_95 : decode cX4_sail 95 = .ok (.iload 6, 2) := by decide +kernel
theorem dX4_sail_97 : decode cX4_sail 97 = .ok (.ior, 1) := by decide +kernel
theorem dX4_sail_98 : decode cX4_sail 98 = .ok (.goto 15, 3) := by decide +kernel
theorem dX4_sail_101 : decode cX4_sail 101 = .ok (.aload_n 0, 1) := by decide +kernel
theorem dX4_sail_102 : decode cX4_sail 102 = .ok (.getfield 23, 3) := by decide +kernel
theorem dX4_sail_105 : decode cX4_sail 105 = .ok (.iload 4, 2) := by decide +kernel
theorem dX4_sail_107 : decode cX4_sail 107 = .ok (.iaload, 1) := by decide +kernel
theorem dX4_sail_108 : decode cX4_sail 108 = .ok (.iload 6, 2) := by decide +kernel
theorem dX4_sail_110 : decode cX4_sail 110 = .ok (.iconst (-1), 1) := by decide +kernel
theorem dX4_sail_111 : decode cX4_sail 111 = .ok (.ixor, 1) := by decide +kernel
theorem dX4_sail_112 : decode cX4_sail 112 = .ok (.iand, 1) := by decide +kernel
theorem dX4_sail_113 : decode cX4_sail 113 = .ok (.iastore, 1) := by decide +kernel
theorem dX4_sail_114 : decode cX4_sail 114 = .ok (.aload_n 0, 1) := by decide +kernel
theorem dX4_sail_115 : decode cX4_sail 115 = .ok (.getfield 12, 3) := by decide +kernel
theorem dX4_sail_118 : decode cX4_sail 118 = .ok (.iload_n 2, 1) := by decide +kernel
theorem dX4_sail_119 : decode cX4_sail 119 = .ok (.iload_n 3, 1) := by decide +kernel
theorem dX4_sail_120 : decode cX4_sail 120 = .ok (.iload 5, 2) := by decide +kernel
theorem dX4_sail_122 : decode cX4_sail 122 = .ok (.aload_n 1, 1) := by decide +kernel
theorem dX4_sail_123 : decode cX4_sail 123 = .ok (.iload 5, 2) := by decide +kernel
theorem dX4_sail_125 : decode cX4_sail 125 = .ok (.invokevirtual 67, 3) := by decide +kernel
theorem dX4_sail_128 : decode cX4_sail 128 = .ok (.invokevirtual 73, 3) := by decide +kernel
theorem dX4_sail_131 : decode cX4_sail 131 = .ok (.istore_n 3, 1) := by decide +kernel
theorem dX4_sail_132 : decode cX4_sail 132 = .ok (.iinc 4 1, 3) := by decide +kernel
theorem dX4_sail_135 : decode cX4_sail 135 = .ok (.goto (-110), 3) := by decide +kernel
theorem dX4_sail_138 : decode cX4_sail 138 = .ok (.return_, 1) := by decide +kernel
theorem dX4_cellBehind_0 : decode cX4_cellBehind 0 = .ok (.iload_n 1, 1) := by decide +kernel
theorem dX4_cellBehind_1 : decode cX4_cellBehind 1 = .ok (.ifCond .lt 32, 3) := by decide +kernel
theorem dX4_cellBehind_4 : decode cX4_cellBehind 4 = .ok (.iload_n 1, 1) := by decide +kernel
theorem dX4_cellBehind_5 : decode cX4_cellBehind 5 = .ok (.sipush 128, 3) := by decide +kernel
theorem dX4_cellBehind_8 : decode cX4_cellBehind 8 = .ok (.if_icmp .gt 25, 3) := by decide +kernel
theorem dX4_cellBehind_11 : decode cX4_cellBehind 11 = .ok (.aload_n 0, 1) := by decide +kernel
theorem dX4_cellBehind_12 : decode cX4_cellBehind 12 = .ok (.getfield 12, 3) := by decide +kernel
theorem dX4_cellBehind_15 : decode cX4_cellBehind 15 = .ok (.iload_n 2, 1) := by decide +kernel
theorem dX4_cellBehind_16 : decode cX4_cellBehind 16 = .ok (.invokevirtual 57, 3) := by decide +kernel
theorem dX4_cellBehind_19 : decode cX4_cellBehind 19 = .ok (.ifCond .eq 14, 3) := by decide +kernel
theorem dX4_cellBehind_22 : decode cX4_cellBehind 22 = .ok (.aload_n 0, 1) := by decide +kernel
theorem dX4_cellBehind_23 : decode cX4_cellBehind 23 = .ok (.getfield 20, 3) := by decide +kernel
theorem dX4_cellBehind_26 : decode cX4_cellBehind 26 = .ok (.iload_n 1, 1) := by decide +kernel
theorem dX4_cellBehind_27 : decode cX4_cellBehind 27 = .ok (.aaload, 1) := by decide +kernel
theorem dX4_cellBehind_28 : decode cX4_cellBehind 28 = .ok (.iload_n 2, 1) := by decide +kernel
theorem dX4_cellBehind_29 : decode cX4_cellBehind 29 = .ok (.iaload, 1) := by decide +kernel
theorem dX4_cellBehind_30 : decode cX4_cellBehind 30 = .ok (.goto 4, 3) := by decide +kernel
theorem dX4_cellBehind_33 : decode cX4_cellBehind 33 = .ok (.iconst 0, 1) := by decide +kernel
theorem dX4_cellBehind_34 : decode cX4_cellBehind 34 = .ok (.ireturn, 1) := by decide +kernel
theorem dX4_inTime_0 : decode cX4_inTime 0 = .ok (.iconst 0, 1) := by decide +kernel
theorem dX4_inTime_1 : decode cX4_inTime 1 = .ok (.istore 4, 2) := by decide +kernel
theorem dX4_inTime_3 : decode cX4_inTime 3 = .ok (.iconst 0, 1) := by decide +kernel
theorem dX4_inTime_4 : decode cX4_inTime 4 = .ok (.istore 5, 2) := by decide +kernel
theorem dX4_inTime_6 : decode cX4_inTime 6 = .ok (.iload 5, 2) := by decide +kernel
theorem dX4_inTime_8 : decode cX4_inTime 8 = .ok (.aload_n 0, 1) := by decide +kernel
theorem dX4_inTime_9 : decode cX4_inTime 9 = .ok (.getfield 48, 3) := by decide +kernel
theorem dX4_inTime_12 : decode cX4_inTime 12 = .ok (.if_icmp .ge 57, 3) := by decide +kernel
theorem dX4_inTime_15 : decode cX4_inTime 15 = .ok (.iload 5, 2) := by decide +kernel
theorem dX4_inTime_17 : decode cX4_inTime 17 = .ok (.sipush 128, 3) := by decide +kernel
theorem dX4_inTime_20 : decode cX4_inTime 20 = .ok (.if_icmp .ge 49, 3) := by decide +kernel
theorem dX4_inTime_23 : decode cX4_inTime 23 = .ok (.aload_n 0, 1) := by decide +kernel
theorem dX4_inTime_24 : decode cX4_inTime 24 = .ok (.getfield 12, 3) := by decide +kernel
theorem dX4_inTime_27 : decode cX4_inTime 27 = .ok (.aload_n 1, 1) := by decide +kernel
theorem dX4_inTime_28 : decode cX4_inTime 28 = .ok (.aload_n 0, 1) := by decide +kernel
theorem dX4_inTime_29 : decode cX4_inTime 29 = .ok (.getfield 20, 3) := by decide +kernel
theorem dX4_inTime_32 : decode cX4_inTime 32 = .ok (.iload 5, 2) := by decide +kernel
theorem dX4_inTime_34 : decode cX4_inTime 34 = .ok (.aaload, 1) := by decide +kernel
theorem dX4_inTime_35 : decode cX4_inTime 35 = .ok (.iload_n 2, 1) := by decide +kernel
theorem dX4_inTime_36 : decode cX4_inTime 36 = .ok (.aload_n 0, 1) := by decide +kernel
theorem dX4_inTime_37 : decode cX4_inTime 37 = .ok (.getfield 38, 3) := by decide +kernel
theorem dX4_inTime_40 : decode cX4_inTime 40 = .ok (.iload 5, 2) := by decide +kernel
theorem dX4_inTime_42 : decode cX4_inTime 42 = .ok (.iadd, 1) := by decide +kernel
theorem dX4_inTime_43 : decode cX4_inTime 43 = .ok (.bipush 31, 2) := by decide +kernel
theorem dX4_inTime_45 : decode cX4_inTime 45 = .ok (.iand, 1) := by decide +kernel
theorem dX4_inTime_46 : decode cX4_inTime 46 = .ok (.iload_n 3, 1) := by decide +kernel
theorem dX4_inTime_47 : decode cX4_inTime 47 = .ok (.aload_n 0, 1) := by decide +kernel
theorem dX4_inTime_48 : decode cX4_inTime 48 = .ok (.getfield 23, 3) := by decide +kernel
theorem dX4_inTime_51 : decode cX4_inTime 51 = .ok (.iload 5, 2) := by decide +kernel
theorem dX4_inTime_53 : decode cX4_inTime 53 = .ok (.iaload, 1) := by decide +kernel
theorem dX4_inTime_54 : decode cX4_inTime 54 = .ok (.invokevirtual 77, 3) := by decide +kernel
theorem dX4_inTime_57 : decode cX4_inTime 57 = .ok (.ifCond .eq 6, 3) := by decide +kernel
theorem dX4_inTime_60 : decode cX4_inTime 60 = .ok (.iinc 4 1, 3) := by decide +kernel
theorem dX4_inTime_63 : decode cX4_inTime 63 = .ok (.iinc 5 1, 3) := by decide +kernel
theorem dX4_inTime_66 : decode cX4_inTime 66 = .ok (.goto (-60), 3) := by decide +kernel
theorem dX4_inTime_69 : decode cX4_inTime 69 = .ok (.iload 4, 2) := by decide +kernel
theorem dX4_inTime_71 : decode cX4_inTime 71 = .ok (.ireturn, 1) := by decide +kernel
theorem dX5_init_0 : decode cX5_init 0 = .ok (.aload_n 0, 1) := by decide +kernel
theorem dX5_init_1 : decode cX5_init 1 = .ok (.invokespecial 3, 3) := by decide +kernel
theorem dX5_init_4 : decode cX5_init 4 = .ok (.aload_n 0, 1) := by decide +kernel
theorem dX5_init_5 : decode cX5_init 5 = .ok (.new 9, 3) := by decide +kernel
theorem dX5_init_8 : decode cX5_init 8 = .ok (.dup, 1) := by decide +kernel
theorem dX5_init_9 : decode cX5_init 9 = .ok (.invokespecial 11, 3) := by decide +kernel
theorem dX5_init_12 : decode cX5_init 12 = .ok (.putfield 12, 3) := by decide +kernel
theorem dX5_init_15 : decode cX5_init 15 = .ok (.aload_n 0, 1) := by decide +kernel
theorem dX5_init_16 : decode cX5_init 16 = .ok (.bipush 50, 2) := by decide +kernel
theorem dX5_init_18 : decode cX5_init 18 = .ok (.newarray .int, 2) := by decide +kernel
theorem dX5_init_20 : decode cX5_init 20 = .ok (.putfield 18, 3) := by decide +kernel
theorem dX5_init_23 : decode cX5_init 23 = .ok (.return_, 1) := by decide +kernel
theorem dX5_reads_0 : decode cX5_reads 0 = .ok (.aload_n 0, 1) := by decide +kernel
theorem dX5_reads_1 : decode cX5_reads 1 = .ok (.iconst 0, 1) := by decide +kernel
theorem dX5_reads_2 : decode cX5_reads 2 = .ok (.iload_n 2, 1) := by decide +kernel
theorem dX5_reads_3 : decode cX5_reads 3 = .ok (.aload_n 1, 1) := by decide +kernel
theorem dX5_reads_4 : decode cX5_reads 4 = .ok (.arraylength, 1) := by decide +kernel
theorem dX5_reads_5 : decode cX5_reads 5 = .ok (.bipush 50, 2) := by decide +kernel
theorem dX5_reads_7 : decode cX5_reads 7 = .ok (.invokestatic 22, 3) := by decide +kernel
theorem dX5_reads_10 : decode cX5_reads 10 = .ok (.invokestatic 22, 3) := by decide +kernel
theorem dX5_reads_13 : decode cX5_reads 13 = .ok (.invokestatic 28, 3) := by decide +kernel
theorem dX5_reads_16 : decode cX5_reads 16 = .ok (.putfield 31, 3) := by decide +kernel
theorem dX5_reads_19 : decode cX5_reads 19 = .ok (.aload_n 1, 1) := by decide +kernel
theorem dX5_reads_20 : decode cX5_reads 20 = .ok (.iconst 0, 1) := by decide +kernel
theorem dX5_reads_21 : decode cX5_reads 21 = .ok (.aload_n 0, 1) := by decide +kernel
theorem dX5_reads_22 : decode cX5_reads 22 = .ok (.getfield 18, 3) := by decide +kernel
theorem dX5_reads_25 : decode cX5_reads 25 = .ok (.iconst 0, 1) := by decide +kernel
theorem dX5_reads_26 : decode cX5_reads 26 = .ok (.aload_n 0, 1) := by decide +kernel
theorem dX5_reads_27 : decode cX5_reads 27 = .ok (.getfield 31, 3) := by decide +kernel
theorem dX5_reads_30 : decode cX5_reads 30 = .ok (.invokestatic 35, 3) := by decide +kernel
theorem dX5_reads_33 : decode cX5_reads 33 = .ok (.aload_n 0, 1) := by decide +kernel
theorem dX5_reads_34 : decode cX5_reads 34 = .ok (.iconst 0, 1) := by decide +kernel
theorem dX5_reads_35 : decode cX5_reads 35 = .ok (.putfield 41, 3) := by decide +kernel
theorem dX5_reads_38 : decode cX5_reads 38 = .ok (.aload_n 0, 1) := by decide +kernel
theorem dX5_reads_39 : decode cX5_reads 39 = .ok (.iload_n 3, 1) := by decide +kernel
theorem dX5_reads_40 : decode cX5_reads 40 = .ok (.putfield 44, 3) := by decide +kernel
theorem dX5_reads_43 : decode cX5_reads 43 = .ok (.aload_n 0, 1) := by decide +kernel
theorem dX5_reads_44 : decode cX5_reads 44 = .ok (.getfield 12, 3) := by decide +kernel
theorem dX5_reads_47 : decode cX5_reads 47 = .ok (.iconst 0, 1) := by decide +kernel
theorem dX5_reads_48 : decode cX5_reads 48 = .ok (.putfield 47, 3) := by decide +kernel
theorem dX5_reads_51 : decode cX5_reads 51 = .ok (.aload_n 0, 1) := by decide +kernel
theorem dX5_reads_52 : decode cX5_reads 52 = .ok (.iconst 0, 1) := by decide +kernel
theorem dX5_reads_53 : decode cX5_reads 53 = .ok (.invokevirtual 48, 3) := by decide +kernel
theorem dX5_reads_56 : decode cX5_reads 56 = .ok (.ifCond .eq 18, 3) := by decide +kernel
theorem dX5_reads_59 : decode cX5_reads 59 = .ok (.aload_n 0, 1) := by decide +kernel
theorem dX5_reads_60 : decode cX5_reads 60 = .ok (.getfield 41, 3) := by decide +kernel
theorem dX5_reads_63 : decode cX5_reads 63 = .ok (.aload_n 0, 1) := by decide +kernel
theorem dX5_reads_64 : decode cX5_reads 64 = .ok (.getfield 31, 3) := by decide +kernel
theorem dX5_reads_67 : decode cX5_reads 67 = .ok (.if_icmp .ne 7, 3) := by decide +kernel
theorem dX5_reads_70 : decode cX5_reads 70 = .ok (.iconst 1, 1) := by decide +kernel
theorem dX5_reads_71 : decode cX5_reads 71 = .ok (.goto 4, 3) := by decide +kernel
theorem dX5_reads_74 : decode cX5_reads 74 = .ok (.iconst 0, 1) := by decide +kernel
theorem dX5_reads_75 : decode cX5_reads 75 = .ok (.ireturn, 1) := by decide +kernel
theorem dX5_sign_0 : decode cX5_sign 0 = .ok (.aload_n 0, 1) := by decide +kernel
theorem dX5_sign_1 : decode cX5_sign 1 = .ok (.getfield 41, 3) := by decide +kernel
theorem dX5_sign_4 : decode cX5_sign 4 = .ok (.ifCond .lt 35, 3) := by decide +kernel
theorem dX5_sign_7 : decode cX5_sign 7 = .ok (.aload_n 0, 1) := by decide +kernel
theorem dX5_sign_8 : decode cX5_sign 8 = .ok (.getfield 41, 3) := by decide +kernel
theorem dX5_sign_11 : decode cX5_sign 11 = .ok (.aload_n 0, 1) := by decide +kernel
theorem dX5_sign_12 : decode cX5_sign 12 = .ok (.getfield 31, 3) := by decide +kernel
theorem dX5_sign_15 : decode cX5_sign 15 = .ok (.if_icmp .ge 24, 3) := by decide +kernel
theorem dX5_sign_18 : decode cX5_sign 18 = .ok (.aload_n 0, 1) := by decide +kernel
theorem dX5_sign_19 : decode cX5_sign 19 = .ok (.getfield 41, 3) := by decide +kernel
theorem dX5_sign_22 : decode cX5_sign 22 = .ok (.bipush 50, 2) := by decide +kernel
theorem dX5_sign_24 : decode cX5_sign 24 = .ok (.if_icmp .ge 15, 3) := by decide +kernel
theorem dX5_sign_27 : decode cX5_sign 27 = .ok (.aload_n 0, 1) := by decide +kernel
theorem dX5_sign_28 : decode cX5_sign 28 = .ok (.getfield 18, 3) := by decide +kernel
theorem dX5_sign_31 : decode cX5_sign 31 = .ok (.aload_n 0, 1) := by decide +kernel
theorem dX5_sign_32 : decode cX5_sign 32 = .ok (.getfield 41, 3) := by decide +kernel
theorem dX5_sign_35 : decode cX5_sign 35 = .ok (.iaload, 1) := by decide +kernel
theorem dX5_sign_36 : decode cX5_sign 36 = .ok (.goto 4, 3) := by decide +kernel
theorem dX5_sign_39 : decode cX5_sign 39 = .ok (.iconst (-1), 1) := by decide +kernel
theorem dX5_sign_40 : decode cX5_sign 40 = .ok (.ireturn, 1) := by decide +kernel
theorem dX5_takes_0 : decode cX5_takes 0 = .ok (.aload_n 0, 1) := by decide +kernel
theorem dX5_takes_1 : decode cX5_takes 1 = .ok (.invokevirtual 52, 3) := by decide +kernel
theorem dX5_takes_4 : decode cX5_takes 4 = .ok (.iload_n 1, 1) := by decide +kernel
theorem dX5_takes_5 : decode cX5_takes 5 = .ok (.if_icmp .eq 5, 3) := by decide +kernel
theorem dX5_takes_8 : decode cX5_takes 8 = .ok (.iconst 0, 1) := by decide +kernel
theorem dX5_takes_9 : decode cX5_takes 9 = .ok (.ireturn, 1) := by decide +kernel
theorem dX5_takes_10 : decode cX5_takes 10 = .ok (.aload_n 0, 1) := by decide +kernel
theorem dX5_takes_11 : decode cX5_takes 11 = .ok (.dup, 1) := by decide +kernel
theorem dX5_takes_12 : decode cX5_takes 12 = .ok (.getfield 41, 3) := by decide +kernel
theorem dX5_takes_15 : decode cX5_takes 15 = .ok (.iconst 1, 1) := by decide +kernel
theorem dX5_takes_16 : decode cX5_takes 16 = .ok (.iadd, 1) := by decide +kernel
theorem dX5_takes_17 : decode cX5_takes 17 = .ok (.putfield 41, 3) := by decide +kernel
theorem dX5_takes_20 : decode cX5_takes 20 = .ok (.iconst 1, 1) := by decide +kernel
theorem dX5_takes_21 : decode cX5_takes 21 = .ok (.ireturn, 1) := by decide +kernel
theorem dX5_readT_0 : decode cX5_readT 0 = .ok (.aload_n 0, 1) := by decide +kernel
theorem dX5_readT_1 : decode cX5_readT 1 = .ok (.iload_n 1, 1) := by decide +kernel
theorem dX5_readT_2 : decode cX5_readT 2 = .ok (.invokevirtual 56, 3) := by decide +kernel
theorem dX5_readT_5 : decode cX5_readT 5 = .ok (.ifCond .ne 5, 3) := by decide +kernel
theorem dX5_readT_8 : decode cX5_readT 8 = .ok (.iconst 0, 1) := by decide +kernel
theorem dX5_readT_9 : decode cX5_readT 9 = .ok (.ireturn, 1) := by decide +kernel
theorem dX5_readT_10 : decode cX5_readT 10 = .ok (.iconst 0, 1) := by decide +kernel
theorem dX5_readT_11 : decode cX5_readT 11 = .ok (.istore_n 2, 1) := by decide +kernel
theorem dX5_readT_12 : decode cX5_readT 12 = .ok (.iload_n 2, 1) := by decide +kernel
theorem dX5_readT_13 : decode cX5_readT 13 = .ok (.bipush 50, 2) := by decide +kernel
theorem dX5_readT_15 : decode cX5_readT 15 = .ok (.if_icmp .ge 37, 3) := by decide +kernel
theorem dX5_readT_18 : decode cX5_readT 18 = .ok (.aload_n 0, 1) := by decide +kernel
theorem dX5_readT_19 : decode cX5_readT 19 = .ok (.bipush 124, 2) := by decide +kernel
theorem dX5_readT_21 : decode cX5_readT 21 = .ok (.invokevirtual 59, 3) := by decide +kernel
theorem dX5_readT_24 : decode cX5_readT 24 = .ok (.ifCond .eq 28, 3) := by decide +kernel
theorem dX5_readT_27 : decode cX5_readT 27 = .ok (.aload_n 0, 1) := by decide +kernel
theorem dX5_readT_28 : decode cX5_readT 28 = .ok (.iload_n 1, 1) := by decide +kernel
theorem dX5_readT_29 : decode cX5_readT 29 = .ok (.invokevirtual 56, 3) := by decide +kernel
theorem dX5_readT_32 : decode cX5_readT 32 = .ok (.ifCond .ne 5, 3) := by decide +kernel
theorem dX5_readT_35 : decode cX5_readT 35 = .ok (.iconst 0, 1) := by decide +kernel
theorem dX5_readT_36 : decode cX5_readT 36 = .ok (.ireturn, 1) := by decide +kernel
theorem dX5_readT_37 : decode cX5_readT 37 = .ok (.aload_n 0, 1) := by decide +kernel
theorem dX5_readT_38 : decode cX5_readT 38 = .ok (.getfield 12, 3) := by decide +kernel
theorem dX5_readT_41 : decode cX5_readT 41 = .ok (.bipush (-124), 2) := by decide +kernel
theorem dX5_readT_43 : decode cX5_readT 43 = .ok (.invokevirtual 62, 3) := by decide +kernel
theorem dX5_readT_46 : decode cX5_readT 46 = .ok (.iinc 2 1, 3) := by decide +kernel
theorem dX5_readT_49 : decode cX5_readT 49 = .ok (.goto (-37), 3) := by decide +kernel
theorem dX5_readT_52 : decode cX5_readT 52 = .ok (.iconst 1, 1) := by decide +kernel
theorem dX5_readT_53 : decode cX5_readT 53 = .ok (.ireturn, 1) := by decide +kernel
theorem dX5_readA_0 : decode cX5_readA 0 = .ok (.aload_n 0, 1) := by decide +kernel
theorem dX5_readA_1 : decode cX5_readA 1 = .ok (.iload_n 1, 1) := by decide +kernel
theorem dX5_readA_2 : decode cX5_readA 2 = .ok (.invokevirtual 66, 3) := by decide +kernel
theorem dX5_readA_5 : decode cX5_readA 5 = .ok (.ifCond .ne 5, 3) := by decide +kernel
theorem dX5_readA_8 : decode cX5_readA 8 = .ok (.iconst 0, 1) := by decide +kernel
theorem dX5_readA_9 : decode cX5_readA 9 = .ok (.ireturn, 1) := by decide +kernel
theorem dX5_readA_10 : decode cX5_readA 10 = .ok (.iconst 0, 1) := by decide +kernel
theorem dX5_readA_11 : decode cX5_readA 11 = .ok (.istore_n 2, 1) := by decide +kernel
theorem dX5_readA_12 : decode cX5_readA 12 = .ok (.iload_n 2, 1) := by decide +kernel
theorem dX5_readA_13 : decode cX5_readA 13 = .ok (.bipush 50, 2) := by decide +kernel
theorem dX5_readA_15 : decode cX5_readA 15 = .ok (.if_icmp .ge 37, 3) := by decide +kernel
theorem dX5_readA_18 : decode cX5_readA 18 = .ok (.aload_n 0, 1) := by decide +kernel
theorem dX5_readA_19 : decode cX5_readA 19 = .ok (.bipush 38, 2) := by decide +kernel
theorem dX5_readA_21 : decode cX5_readA 21 = .ok (.invokevirtual 59, 3) := by decide +kernel
theorem dX5_readA_24 : decode cX5_readA 24 = .ok (.ifCond .eq 28, 3) := by decide +kernel
theorem dX5_readA_27 : decode cX5_readA 27 = .ok (.aload_n 0, 1) := by decide +kernel
theorem dX5_readA_28 : decode cX5_readA 28 = .ok (.iload_n 1, 1) := by decide +kernel
theorem dX5_readA_29 : decode cX5_readA 29 = .ok (.invokevirtual 66, 3) := by decide +kernel
theorem dX5_readA_32 : decode cX5_readA 32 = .ok (.ifCond .ne 5, 3) := by decide +kernel
theorem dX5_readA_35 : decode cX5_readA 35 = .ok (.iconst 0, 1) := by decide +kernel
theorem dX5_readA_36 : decode cX5_readA 36 = .ok (.ireturn, 1) := by decide +kernel
theorem dX5_readA_37 : decode cX5_readA 37 = .ok (.aload_n 0, 1) := by decide +kernel
theorem dX5_readA_38 : decode cX5_readA 38 = .ok (.getfield 12, 3) := by decide +kernel
theorem dX5_readA_41 : decode cX5_readA 41 = .ok (.bipush (-38), 2) := by decide +kernel
theorem dX5_readA_43 : decode cX5_readA 43 = .ok (.invokevirtual 62, 3) := by decide +kernel
theorem dX5_readA_46 : decode cX5_readA 46 = .ok (.iinc 2 1, 3) := by decide +kernel
theorem dX5_readA_49 : decode cX5_readA 49 = .ok (.goto (-37), 3) := by decide +kernel
theorem dX5_readA_52 : decode cX5_readA 52 = .ok (.iconst 1, 1) := by decide +kernel
theorem dX5_readA_53 : decode cX5_readA 53 = .ok (.ireturn, 1) := by decide +kernel
theorem dX5_readB_0 : decode cX5_readB 0 = .ok (.aload_n 0, 1) := by decide +kernel
theorem dX5_readB_1 : decode cX5_readB 1 = .ok (.iload_n 1, 1) := by decide +kernel
theorem dX5_readB_2 : decode cX5_readB 2 = .ok (.invokevirtual 69, 3) := by decide +kernel
theorem dX5_readB_5 : decode cX5_readB 5 = .ok (.ifCond .ne 5, 3) := by decide +kernel
theorem dX5_readB_8 : decode cX5_readB 8 = .ok (.iconst 0, 1) := by decide +kernel
theorem dX5_readB_9 : decode cX5_readB 9 = .ok (.ireturn, 1) := by decide +kernel
theorem dX5_readB_10 : decode cX5_readB 10 = .ok (.aload_n 0, 1) := by decide +kernel
theorem dX5_readB_11 : decode cX5_readB 11 = .ok (.invokevirtual 52, 3) := by decide +kernel
theorem dX5_readB_14 : decode cX5_readB 14 = .ok (.istore_n 2, 1) := by decide +kernel
theorem dX5_readB_15 : decode cX5_readB 15 = .ok (.iload_n 2, 1) := by decide +kernel
theorem dX5_readB_16 : decode cX5_readB 16 = .ok (.bipush 60, 2) := by decide +kernel
theorem dX5_readB_18 : decode cX5_readB 18 = .ok (.if_icmp .eq 17, 3) := by decide +kernel
theorem dX5_readB_21 : decode cX5_readB 21 = .ok (.iload_n 2, 1) := by decide +kernel
theorem dX5_readB_22 : decode cX5_readB 22 = .ok (.bipush 61, 2) := by decide +kernel
theorem dX5_readB_24 : decode cX5_readB 24 = .ok (.if_icmp .eq 11, 3) := by decide +kernel
theorem dX5_readB_27 : decode cX5_readB 27 = .ok (.iload_n 2, 1) := by decide +kernel
theorem dX5_readB_28 : decode cX5_readB 28 = .ok (.bipush 62, 2) := by decide +kernel
theorem dX5_readB_30 : decode cX5_readB 30 = .ok (.if_icmp .eq 5, 3) := by decide +kernel
theorem dX5_readB_33 : decode cX5_readB 33 = .ok (.iconst 1, 1) := by decide +kernel
theorem dX5_readB_34 : decode cX5_readB 34 = .ok (.ireturn, 1) := by decide +kernel
theorem dX5_readB_35 : decode cX5_readB 35 = .ok (.aload_n 0, 1) := by decide +kernel
theorem dX5_readB_36 : decode cX5_readB 36 = .ok (.dup, 1) := by decide +kernel
theorem dX5_readB_37 : decode cX5_readB 37 = .ok (.getfield 41, 3) := by decide +kernel
theorem dX5_readB_40 : decode cX5_readB 40 = .ok (.iconst 1, 1) := by decide +kernel
theorem dX5_readB_41 : decode cX5_readB 41 = .ok (.iadd, 1) := by decide +kernel
theorem dX5_readB_42 : decode cX5_readB 42 = .ok (.putfield 41, 3) := by decide +kernel
theorem dX5_readB_45 : decode cX5_readB 45 = .ok (.aload_n 0, 1) := by decide +kernel
theorem dX5_readB_46 : decode cX5_readB 46 = .ok (.iload_n 1, 1) := by decide +kernel
theorem dX5_readB_47 : decode cX5_readB 47 = .ok (.invokevirtual 69, 3) := by decide +kernel
theorem dX5_readB_50 : decode cX5_readB 50 = .ok (.ifCond .ne 5, 3) := by decide +kernel
theorem dX5_readB_53 : decode cX5_readB 53 = .ok (.iconst 0, 1) := by decide +kernel
theorem dX5_readB_54 : decode cX5_readB 54 = .ok (.ireturn, 1) := by decide +kernel
theorem dX5_readB_55 : decode cX5_readB 55 = .ok (.aload_n 0, 1) := by decide +kernel
theorem dX5_readB_56 : decode cX5_readB 56 = .ok (.getfield 12, 3) := by decide +kernel
theorem dX5_readB_59 : decode cX5_readB 59 = .ok (.iload_n 2, 1) := by decide +kernel
theorem dX5_readB_60 : decode cX5_readB 60 = .ok (.ineg, 1) := by decide +kernel
theorem dX5_readB_61 : decode cX5_readB 61 = .ok (.invokevirtual 62, 3) := by decide +kernel
theorem dX5_readB_64 : decode cX5_readB 64 = .ok (.iconst 1, 1) := by decide +kernel
theorem dX5_readB_65 : decode cX5_readB 65 = .ok (.ireturn, 1) := by decide +kernel
theorem dX5_readS_0 : decode cX5_readS 0 = .ok (.aload_n 0, 1) := by decide +kernel
theorem dX5_readS_1 : decode cX5_readS 1 = .ok (.iload_n 1, 1) := by decide +kernel
theorem dX5_readS_2 : decode cX5_readS 2 = .ok (.invokevirtual 72, 3) := by decide +kernel
theorem dX5_readS_5 : decode cX5_readS 5 = .ok (.ifCond .ne 5, 3) := by decide +kernel
theorem dX5_readS_8 : decode cX5_readS 8 = .ok (.iconst 0, 1) := by decide +kernel
theorem dX5_readS_9 : decode cX5_readS 9 = .ok (.ireturn, 1) := by decide +kernel
theorem dX5_readS_10 : decode cX5_readS 10 = .ok (.iconst 0, 1) := by decide +kernel
theorem dX5_readS_11 : decode cX5_readS 11 = .ok (.istore_n 2, 1) := by decide +kernel
theorem dX5_readS_12 : decode cX5_readS 12 = .ok (.iload_n 2, 1) := by decide +kernel
theorem dX5_readS_13 : decode cX5_readS 13 = .ok (.bipush 50, 2) := by decide +kernel
theorem dX5_readS_15 : decode cX5_readS 15 = .ok (.if_icmp .ge 57, 3) := by decide +kernel
theorem dX5_readS_18 : decode cX5_readS 18 = .ok (.aload_n 0, 1) := by decide +kernel
theorem dX5_readS_19 : decode cX5_readS 19 = .ok (.invokevirtual 52, 3) := by decide +kernel
theorem dX5_readS_22 : decode cX5_readS 22 = .ok (.istore_n 3, 1) := by decide +kernel
theorem dX5_readS_23 : decode cX5_readS 23 = .ok (.iload_n 3, 1) := by decide +kernel
theorem dX5_readS_24 : decode cX5_readS 24 = .ok (.bipush 43, 2) := by decide +kernel
theorem dX5_readS_26 : decode cX5_readS 26 = .ok (.if_icmp .eq 11, 3) := by decide +kernel
theorem dX5_readS_29 : decode cX5_readS 29 = .ok (.iload_n 3, 1) := by decide +kernel
theorem dX5_readS_30 : decode cX5_readS 30 = .ok (.bipush 45, 2) := by decide +kernel
theorem dX5_readS_32 : decode cX5_readS 32 = .ok (.if_icmp .eq 5, 3) := by decide +kernel
theorem dX5_readS_35 : decode cX5_readS 35 = .ok (.iconst 1, 1) := by decide +kernel
theorem dX5_readS_36 : decode cX5_readS 36 = .ok (.ireturn, 1) := by decide +kernel
theorem dX5_readS_37 : decode cX5_readS 37 = .ok (.aload_n 0, 1) := by decide +kernel
theorem dX5_readS_38 : decode cX5_readS 38 = .ok (.dup, 1) := by decide +kernel
theorem dX5_readS_39 : decode cX5_readS 39 = .ok (.getfield 41, 3) := by decide +kernel
theorem dX5_readS_42 : decode cX5_readS 42 = .ok (.iconst 1, 1) := by decide +kernel
theorem dX5_readS_43 : decode cX5_readS 43 = .ok (.iadd, 1) := by decide +kernel
theorem dX5_readS_44 : decode cX5_readS 44 = .ok (.putfield 41, 3) := by decide +kernel
theorem dX5_readS_47 : decode cX5_readS 47 = .ok (.aload_n 0, 1) := by decide +kernel
theorem dX5_readS_48 : decode cX5_readS 48 = .ok (.iload_n 1, 1) := by decide +kernel
theorem dX5_readS_49 : decode cX5_readS 49 = .ok (.invokevirtual 72, 3) := by decide +kernel
theorem dX5_readS_52 : decode cX5_readS 52 = .ok (.ifCond .ne 5, 3) := by decide +kernel
theorem dX5_readS_55 : decode cX5_readS 55 = .ok (.iconst 0, 1) := by decide +kernel
theorem dX5_readS_56 : decode cX5_readS 56 = .ok (.ireturn, 1) := by decide +kernel
theorem dX5_readS_57 : decode cX5_readS 57 = .ok (.aload_n 0, 1) := by decide +kernel
theorem dX5_readS_58 : decode cX5_readS 58 = .ok (.getfield 12, 3) := by decide +kernel
theorem dX5_readS_61 : decode cX5_readS 61 = .ok (.iload_n 3, 1) := by decide +kernel
theorem dX5_readS_62 : decode cX5_readS 62 = .ok (.ineg, 1) := by decide +kernel
theorem dX5_readS_63 : decode cX5_readS 63 = .ok (.invokevirtual 62, 3) := by decide +kernel
theorem dX5_readS_66 : decode cX5_readS 66 = .ok (.iinc 2 1, 3) := by decide +kernel
theorem dX5_readS_69 : decode cX5_readS 69 = .ok (.goto (-57), 3) := by decide +kernel
theorem dX5_readS_72 : decode cX5_readS 72 = .ok (.iconst 1, 1) := by decide +kernel
theorem dX5_readS_73 : decode cX5_readS 73 = .ok (.ireturn, 1) := by decide +kernel
theorem dX5_readP_0 : decode cX5_readP 0 = .ok (.aload_n 0, 1) := by decide +kernel
theorem dX5_readP_1 : decode cX5_readP 1 = .ok (.iload_n 1, 1) := by decide +kernel
theorem dX5_readP_2 : decode cX5_readP 2 = .ok (.invokevirtual 75, 3) := by decide +kernel
theorem dX5_readP_5 : decode cX5_readP 5 = .ok (.ifCond .ne 5, 3) := by decide +kernel
theorem dX5_readP_8 : decode cX5_readP 8 = .ok (.iconst 0, 1) := by decide +kernel
theorem dX5_readP_9 : decode cX5_readP 9 = .ok (.ireturn, 1) := by decide +kernel
theorem dX5_readP_10 : decode cX5_readP 10 = .ok (.iconst 0, 1) := by decide +kernel
theorem dX5_readP_11 : decode cX5_readP 11 = .ok (.istore_n 2, 1) := by decide +kernel
theorem dX5_readP_12 : decode cX5_readP 12 = .ok (.iload_n 2, 1) := by decide +kernel
theorem dX5_readP_13 : decode cX5_readP 13 = .ok (.bipush 50, 2) := by decide +kernel
theorem dX5_readP_15 : decode cX5_readP 15 = .ok (.if_icmp .ge 63, 3) := by decide +kernel
theorem dX5_readP_18 : decode cX5_readP 18 = .ok (.aload_n 0, 1) := by decide +kernel
theorem dX5_readP_19 : decode cX5_readP 19 = .ok (.invokevirtual 52, 3) := by decide +kernel
theorem dX5_readP_22 : decode cX5_readP 22 = .ok (.istore_n 3, 1) := by decide +kernel
theorem dX5_readP_23 : decode cX5_readP 23 = .ok (.iload_n 3, 1) := by decide +kernel
theorem dX5_readP_24 : decode cX5_readP 24 = .ok (.bipush 42, 2) := by decide +kernel
theorem dX5_readP_26 : decode cX5_readP 26 = .ok (.if_icmp .eq 17, 3) := by decide +kernel
theorem dX5_readP_29 : decode cX5_readP 29 = .ok (.iload_n 3, 1) := by decide +kernel
theorem dX5_readP_30 : decode cX5_readP 30 = .ok (.bipush 47, 2) := by decide +kernel
theorem dX5_readP_32 : decode cX5_readP 32 = .ok (.if_icmp .eq 11, 3) := by decide +kernel
theorem dX5_readP_35 : decode cX5_readP 35 = .ok (.iload_n 3, 1) := by decide +kernel
theorem dX5_readP_36 : decode cX5_readP 36 = .ok (.bipush 37, 2) := by decide +kernel
theorem dX5_readP_38 : decode cX5_readP 38 = .ok (.if_icmp .eq 5, 3) := by decide +kernel
theorem dX5_readP_41 : decode cX5_readP 41 = .ok (.iconst 1, 1) := by decide +kernel
theorem dX5_readP_42 : decode cX5_readP 42 = .ok (.ireturn, 1) := by decide +kernel
theorem dX5_readP_43 : decode cX5_readP 43 = .ok (.aload_n 0, 1) := by decide +kernel
theorem dX5_readP_44 : decode cX5_readP 44 = .ok (.dup, 1) := by decide +kernel
theorem dX5_readP_45 : decode cX5_readP 45 = .ok (.getfield 41, 3) := by decide +kernel
theorem dX5_readP_48 : decode cX5_readP 48 = .ok (.iconst 1, 1) := by decide +kernel
theorem dX5_readP_49 : decode cX5_readP 49 = .ok (.iadd, 1) := by decide +kernel
theorem dX5_readP_50 : decode cX5_readP 50 = .ok (.putfield 41, 3) := by decide +kernel
theorem dX5_readP_53 : decode cX5_readP 53 = .ok (.aload_n 0, 1) := by decide +kernel
theorem dX5_readP_54 : decode cX5_readP 54 = .ok (.iload_n 1, 1) := by decide +kernel
theorem dX5_readP_55 : decode cX5_readP 55 = .ok (.invokevirtual 75, 3) := by decide +kernel
theorem dX5_readP_58 : decode cX5_readP 58 = .ok (.ifCond .ne 5, 3) := by decide +kernel
theorem dX5_readP_61 : decode cX5_readP 61 = .ok (.iconst 0, 1) := by decide +kernel
theorem dX5_readP_62 : decode cX5_readP 62 = .ok (.ireturn, 1) := by decide +kernel
theorem dX5_readP_63 : decode cX5_readP 63 = .ok (.aload_n 0, 1) := by decide +kernel
theorem dX5_readP_64 : decode cX5_readP 64 = .ok (.getfield 12, 3) := by decide +kernel
theorem dX5_readP_67 : decode cX5_readP 67 = .ok (.iload_n 3, 1) := by decide +kernel
theorem dX5_readP_68 : decode cX5_readP 68 = .ok (.ineg, 1) := by decide +kernel
theorem dX5_readP_69 : decode cX5_readP 69 = .ok (.invokevirtual 62, 3) := by decide +kernel
theorem dX5_readP_72 : decode cX5_readP 72 = .ok (.iinc 2 1, 3) := by decide +kernel
theorem dX5_readP_75 : decode cX5_readP 75 = .ok (.goto (-63), 3) := by decide +kernel
theorem dX5_readP_78 : decode cX5_readP 78 = .ok (.iconst 1, 1) := by decide +kernel
theorem dX5_readP_79 : decode cX5_readP 79 = .ok (.ireturn, 1) := by decide +kernel
theorem dX5_readQ_0 : decode cX5_readQ 0 = .ok (.aload_n 0, 1) := by decide +kernel
theorem dX5_readQ_1 : decode cX5_readQ 1 = .ok (.invokevirtual 52, 3) := by decide +kernel
theorem dX5_readQ_4 : decode cX5_readQ 4 = .ok (.invokestatic 78, 3) := by decide +kernel
theorem dX5_readQ_7 : decode cX5_readQ 7 = .ok (.ifCond .eq 9, 3) := by decide +kernel
theorem dX5_readQ_10 : decode cX5_readQ 10 = .ok (.aload_n 0, 1) := by decide +kernel
theorem dX5_readQ_11 : decode cX5_readQ 11 = .ok (.invokevirtual 81, 3) := by decide +kernel
theorem dX5_readQ_14 : decode cX5_readQ 14 = .ok (.iconst 1, 1) := by decide +kernel
theorem dX5_readQ_15 : decode cX5_readQ 15 = .ok (.ireturn, 1) := by decide +kernel
theorem dX5_readQ_16 : decode cX5_readQ 16 = .ok (.aload_n 0, 1) := by decide +kernel
theorem dX5_readQ_17 : decode cX5_readQ 17 = .ok (.invokevirtual 84, 3) := by decide +kernel
theorem dX5_readQ_20 : decode cX5_readQ 20 = .ok (.ifCond .eq 5, 3) := by decide +kernel
theorem dX5_readQ_23 : decode cX5_readQ 23 = .ok (.iconst 1, 1) := by decide +kernel
theorem dX5_readQ_24 : decode cX5_readQ 24 = .ok (.ireturn, 1) := by decide +kernel
theorem dX5_readQ_25 : decode cX5_readQ 25 = .ok (.iload_n 1, 1) := by decide +kernel
theorem dX5_readQ_26 : decode cX5_readQ 26 = .ok (.iconst 5, 1) := by decide +kernel
theorem dX5_readQ_27 : decode cX5_readQ 27 = .ok (.if_icmp .lt 5, 3) := by decide +kernel
theorem dX5_readQ_30 : decode cX5_readQ 30 = .ok (.iconst 0, 1) := by decide +kernel
theorem dX5_readQ_31 : decode cX5_readQ 31 = .ok (.ireturn, 1) := by decide +kernel
theorem dX5_readQ_32 : decode cX5_readQ 32 = .ok (.aload_n 0, 1) := by decide +kernel
theorem dX5_readQ_33 : decode cX5_readQ 33 = .ok (.bipush 33, 2) := by decide +kernel
theorem dX5_readQ_35 : decode cX5_readQ 35 = .ok (.invokevirtual 59, 3) := by decide +kernel
theorem dX5_readQ_38 : decode cX5_readQ 38 = .ok (.ifCond .eq 26, 3) := by decide +kernel
theorem dX5_readQ_41 : decode cX5_readQ 41 = .ok (.aload_n 0, 1) := by decide +kernel
theorem dX5_readQ_42 : decode cX5_readQ 42 = .ok (.iload_n 1, 1) := by decide +kernel
theorem dX5_readQ_43 : decode cX5_readQ 43 = .ok (.iconst 1, 1) := by decide +kernel
theorem dX5_readQ_44 : decode cX5_readQ 44 = .ok (.iadd, 1) := by decide +kernel
theorem dX5_readQ_45 : decode cX5_readQ 45 = .ok (.invokevirtual 75, 3) := by decide +kernel
theorem dX5_readQ_48 : decode cX5_readQ 48 = .ok (.ifCond .ne 5, 3) := by decide +kernel
theorem dX5_readQ_51 : decode cX5_readQ 51 = .ok (.iconst 0, 1) := by decide +kernel
theorem dX5_readQ_52 : decode cX5_readQ 52 = .ok (.ireturn, 1) := by decide +kernel
theorem dX5_readQ_53 : decode cX5_readQ 53 = .ok (.aload_n 0, 1) := by decide +kernel
theorem dX5_readQ_54 : decode cX5_readQ 54 = .ok (.getfield 12, 3) := by decide +kernel
theorem dX5_readQ_57 : decode cX5_readQ 57 = .ok (.bipush (-33), 2) := by decide +kernel
theorem dX5_readQ_59 : decode cX5_readQ 59 = .ok (.invokevirtual 62, 3) := by decide +kernel
theorem dX5_readQ_62 : decode cX5_readQ 62 = .ok (.iconst 1, 1) := by decide +kernel
theorem dX5_readQ_63 : decode cX5_readQ 63 = .ok (.ireturn, 1) := by decide +kernel
theorem dX5_readQ_64 : decode cX5_readQ 64 = .ok (.aload_n 0, 1) := by decide +kernel
theorem dX5_readQ_65 : decode cX5_readQ 65 = .ok (.bipush 40, 2) := by decide +kernel
theorem dX5_readQ_67 : decode cX5_readQ 67 = .ok (.invokevirtual 59, 3) := by decide +kernel
theorem dX5_readQ_70 : decode cX5_readQ 70 = .ok (.ifCond .eq 26, 3) := by decide +kernel
theorem dX5_readQ_73 : decode cX5_readQ 73 = .ok (.aload_n 0, 1) := by decide +kernel
theorem dX5_readQ_74 : decode cX5_readQ 74 = .ok (.iload_n 1, 1) := by decide +kernel
theorem dX5_readQ_75 : decode cX5_readQ 75 = .ok (.iconst 1, 1) := by decide +kernel
theorem dX5_readQ_76 : decode cX5_readQ 76 = .ok (.iadd, 1) := by decide +kernel
theorem dX5_readQ_77 : decode cX5_readQ 77 = .ok (.invokevirtual 48, 3) := by decide +kernel
theorem dX5_readQ_80 : decode cX5_readQ 80 = .ok (.ifCond .eq 16, 3) := by decide +kernel
theorem dX5_readQ_83 : decode cX5_readQ 83 = .ok (.aload_n 0, 1) := by decide +kernel
theorem dX5_readQ_84 : decode cX5_readQ 84 = .ok (.bipush 41, 2) := by decide +kernel
theorem dX5_readQ_86 : decode cX5_readQ 86 = .ok (.invokevirtual 59, 3) := by decide +kernel
theorem dX5_readQ_89 : decode cX5_readQ 89 = .ok (.ifCond .eq 7, 3) := by decide +kernel
theorem dX5_readQ_92 : decode cX5_readQ 92 = .ok (.iconst 1, 1) := by decide +kernel
theorem dX5_readQ_93 : decode cX5_readQ 93 = .ok (.goto 4, 3) := by decide +kernel
theorem dX5_readQ_96 : decode cX5_readQ 96 = .ok (.iconst 0, 1) := by decide +kernel
theorem dX5_readQ_97 : decode cX5_readQ 97 = .ok (.ireturn, 1) := by decide +kernel
theorem dX5_readNumber_0 : decode cX5_readNumber 0 = .ok (.iconst 0, 1) := by decide +kernel
theorem dX5_readNumber_1 : decode cX5_readNumber 1 = .ok (.istore_n 1, 1) := by decide +kernel
theorem dX5_readNumber_2 : decode cX5_readNumber 2 = .ok (.iconst 0, 1) := by decide +kernel
theorem dX5_readNumber_3 : decode cX5_readNumber 3 = .ok (.istore_n 2, 1) := by decide +kernel
theorem dX5_readNumber_4 : decode cX5_readNumber 4 = .ok (.iload_n 2, 1) := by decide +kernel
theorem dX5_readNumber_5 : decode cX5_readNumber 5 = .ok (.iconst 4, 1) := by decide +kernel
theorem dX5_readNumber_6 : decode cX5_readNumber 6 = .ok (.if_icmp .ge 42, 3) := by decide +kernel
theorem dX5_readNumber_9 : decode cX5_readNumber 9 = .ok (.aload_n 0, 1) := by decide +kernel
theorem dX5_readNumber_10 : decode cX5_readNumber 10 = .ok (.invokevirtual 52, 3) := by decide +kernel
theorem dX5_readNumber_13 : decode cX5_readNumber 13 = .ok (.invokestatic 78, 3) := by decide +kernel
theorem dX5_readNumber_16 : decode cX5_readNumber 16 = .ok (.ifCond .eq 32, 3) := by decide +kernel
theorem dX5_readNumber_19 : decode cX5_readNumber 19 = .ok (.iload_n 1, 1) := by decide +kernel
theorem dX5_readNumber_20 : decode cX5_readNumber 20 = .ok (.bipush 10, 2) := by decide +kernel
theorem dX5_readNumber_22 : decode cX5_readNumber 22 = .ok (.imul, 1) := by decide +kernel
theorem dX5_readNumber_23 : decode cX5_readNumber 23 = .ok (.aload_n 0, 1) := by decide +kernel
theorem dX5_readNumber_24 : decode cX5_readNumber 24 = .ok (.invokevirtual 52, 3) := by decide +kernel
theorem dX5_readNumber_27 : decode cX5_readNumber 27 = .ok (.iadd, 1) := by decide +kernel
theorem dX5_readNumber_28 : decode cX5_readNumber 28 = .ok (.bipush 48, 2) := by decide +kernel
theorem dX5_readNumber_30 : decode cX5_readNumber 30 = .ok (.isub, 1) := by decide +kernel
theorem dX5_readNumber_31 : decode cX5_readNumber 31 = .ok (.istore_n 1, 1) := by decide +kernel
theorem dX5_readNumber_32 : decode cX5_readNumber 32 = .ok (.aload_n 0, 1) := by decide +kernel
theorem dX5_readNumber_33 : decode cX5_readNumber 33 = .ok (.dup, 1) := by decide +kernel
theorem dX5_readNumber_34 : decode cX5_readNumber 34 = .ok (.getfield 41, 3) := by decide +kernel
theorem dX5_readNumber_37 : decode cX5_readNumber 37 = .ok (.iconst 1, 1) := by decide +kernel
theorem dX5_readNumber_38 : decode cX5_readNumber 38 = .ok (.iadd, 1) := by decide +kernel
theorem dX5_readNumber_39 : decode cX5_readNumber 39 = .ok (.putfield 41, 3) := by decide +kernel
theorem dX5_readNumber_42 : decode cX5_readNumber 42 = .ok (.iinc 2 1, 3) := by decide +kernel
theorem dX5_readNumber_45 : decode cX5_readNumber 45 = .ok (.goto (-41), 3) := by decide +kernel
theorem dX5_readNumber_48 : decode cX5_readNumber 48 = .ok (.aload_n 0, 1) := by decide +kernel
theorem dX5_readNumber_49 : decode cX5_readNumber 49 = .ok (.getfield 12, 3) := by decide +kernel
theorem dX5_readNumber_52 : decode cX5_readNumber 52 = .ok (.iload_n 1, 1) := by decide +kernel
theorem dX5_readNumber_53 : decode cX5_readNumber 53 = .ok (.invokevirtual 62, 3) := by decide +kernel
theorem dX5_readNumber_56 : decode cX5_readNumber 56 = .ok (.return_, 1) := by decide +kernel
theorem dX5_readName_0 : decode cX5_readName 0 = .ok (.iconst 0, 1) := by decide +kernel
theorem dX5_readName_1 : decode cX5_readName 1 = .ok (.istore_n 1, 1) := by decide +kernel
theorem dX5_readName_2 : decode cX5_readName 2 = .ok (.iload_n 1, 1) := by decide +kernel
theorem dX5_readName_3 : decode cX5_readName 3 = .ok (.iconst 3, 1) := by decide +kernel
theorem dX5_readName_4 : decode cX5_readName 4 = .ok (.if_icmp .ge 57, 3) := by decide +kernel
theorem dX5_readName_7 : decode cX5_readName 7 = .ok (.aload_n 0, 1) := by decide +kernel
theorem dX5_readName_8 : decode cX5_readName 8 = .ok (.getfield 44, 3) := by decide +kernel
theorem dX5_readName_11 : decode cX5_readName 11 = .ok (.iconst 3, 1) := by decide +kernel
theorem dX5_readName_12 : decode cX5_readName 12 = .ok (.imul, 1) := by decide +kernel
theorem dX5_readName_13 : decode cX5_readName 13 = .ok (.iload_n 1, 1) := by decide +kernel
theorem dX5_readName_14 : decode cX5_readName 14 = .ok (.iadd, 1) := by decide +kernel
theorem dX5_readName_15 : decode cX5_readName 15 = .ok (.istore_n 2, 1) := by decide +kernel
theorem dX5_readName_16 : decode cX5_readName 16 = .ok (.iload_n 2, 1) := by decide +kernel
theorem dX5_readName_17 : decode cX5_readName 17 = .ok (.ifCond .lt 38, 3) := by decide +kernel
theorem dX5_readName_20 : decode cX5_readName 20 = .ok (.iload_n 2, 1) := by decide +kernel
theorem dX5_readName_21 : decode cX5_readName 21 = .ok (.getstatic 88, 3) := by decide +kernel
theorem dX5_readName_24 : decode cX5_readName 24 = .ok (.arraylength, 1) := by decide +kernel
theorem dX5_readName_25 : decode cX5_readName 25 = .ok (.if_icmp .ge 30, 3) := by decide +kernel
theorem dX5_readName_28 : decode cX5_readName 28 = .ok (.aload_n 0, 1) := by decide +kernel
theorem dX5_readName_29 : decode cX5_readName 29 = .ok (.getstatic 88, 3) := by decide +kernel
theorem dX5_readName_32 : decode cX5_readName 32 = .ok (.iload_n 2, 1) := by decide +kernel
theorem dX5_readName_33 : decode cX5_readName 33 = .ok (.caload, 1) := by decide +kernel
theorem dX5_readName_34 : decode cX5_readName 34 = .ok (.invokevirtual 59, 3) := by decide +kernel
theorem dX5_readName_37 : decode cX5_readName 37 = .ok (.ifCond .ne 6, 3) := by decide +kernel
theorem dX5_readName_40 : decode cX5_readName 40 = .ok (.goto 15, 3) := by decide +kernel
theorem dX5_readName_43 : decode cX5_readName 43 = .ok (.aload_n 0, 1) := by decide +kernel
theorem dX5_readName_44 : decode cX5_readName 44 = .ok (.getfield 12, 3) := by decide +kernel
theorem dX5_readName_47 : decode cX5_readName 47 = .ok (.iconst (-1), 1) := by decide +kernel
theorem dX5_readName_48 : decode cX5_readName 48 = .ok (.iload_n 1, 1) := by decide +kernel
theorem dX5_readName_49 : decode cX5_readName 49 = .ok (.isub, 1) := by decide +kernel
theorem dX5_readName_50 : decode cX5_readName 50 = .ok (.invokevirtual 62, 3) := by decide +kernel
theorem dX5_readName_53 : decode cX5_readName 53 = .ok (.iconst 1, 1) := by decide +kernel
theorem dX5_readName_54 : decode cX5_readName 54 = .ok (.ireturn, 1) := by decide +kernel
theorem dX5_readName_55 : decode cX5_readName 55 = .ok (.iinc 1 1, 3) := by decide +kernel
theorem dX5_readName_58 : decode cX5_readName 58 = .ok (.goto (-56), 3) := by decide +kernel
theorem dX5_readName_61 : decode cX5_readName 61 = .ok (.iconst 0, 1) := by decide +kernel
theorem dX5_readName_62 : decode cX5_readName 62 = .ok (.ireturn, 1) := by decide +kernel
theorem dX5_isDigit_0 : decode cX5_isDigit 0 = .ok (.iload_n 0, 1) := by decide +kernel
theorem dX5_isDigit_1 : decode cX5_isDigit 1 = .ok (.bipush 48, 2) := by decide +kernel
theorem dX5_isDigit_3 : decode cX5_isDigit 3 = .ok (.if_icmp .lt 13, 3) := by decide +kernel
theorem dX5_isDigit_6 : decode cX5_isDigit 6 = .ok (.iload_n 0, 1) := by decide +kernel
theorem dX5_isDigit_7 : decode cX5_isDigit 7 = .ok (.bipush 57, 2) := by decide +kernel
theorem dX5_isDigit_9 : decode cX5_isDigit 9 = .ok (.if_icmp .gt 7, 3) := by decide +kernel
theorem dX5_isDigit_12 : decode cX5_isDigit 12 = .ok (.iconst 1, 1) := by decide +kernel
theorem dX5_isDigit_13 : decode cX5_isDigit 13 = .ok (.goto 4, 3) := by decide +kernel
theorem dX5_isDigit_16 : decode cX5_isDigit 16 = .ok (.iconst 0, 1) := by decide +kernel
theorem dX5_isDigit_17 : decode cX5_isDigit 17 = .ok (.ireturn, 1) := by decide +kernel
theorem dX6_init_0 : decode cX6_init 0 = .ok (.aload_n 0, 1) := by decide +kernel
theorem dX6_init_1 : decode cX6_init 1 = .ok (.invokespecial 3, 3) := by decide +kernel
theorem dX6_init_4 : decode cX6_init 4 = .ok (.aload_n 0, 1) := by decide +kernel
theorem dX6_init_5 : decode cX6_init 5 = .ok (.iconst 1, 1) := by decide +kernel
theorem dX6_init_6 : decode cX6_init 6 = .ok (.putfield 9, 3) := by decide +kernel
theorem dX6_init_9 : decode cX6_init 9 = .ok (.aload_n 0, 1) := by decide +kernel
theorem dX6_init_10 : decode cX6_init 10 = .ok (.new 15, 3) := by decide +kernel
theorem dX6_init_13 : decode cX6_init 13 = .ok (.dup, 1) := by decide +kernel
theorem dX6_init_14 : decode cX6_init 14 = .ok (.invokespecial 17, 3) := by decide +kernel
theorem dX6_init_17 : decode cX6_init 17 = .ok (.putfield 18, 3) := by decide +kernel
theorem dX6_init_20 : decode cX6_init 20 = .ok (.aload_n 0, 1) := by decide +kernel
theorem dX6_init_21 : decode cX6_init 21 = .ok (.bipush 6, 2) := by decide +kernel
theorem dX6_init_23 : decode cX6_init 23 = .ok (.newarray .int, 2) := by decide +kernel
theorem dX6_init_25 : decode cX6_init 25 = .ok (.putfield 22, 3) := by decide +kernel
theorem dX6_init_28 : decode cX6_init 28 = .ok (.aload_n 0, 1) := by decide +kernel
theorem dX6_init_29 : decode cX6_init 29 = .ok (.bipush 6, 2) := by decide +kernel
theorem dX6_init_31 : decode cX6_init 31 = .ok (.newarray .int, 2) := by decide +kernel
theorem dX6_init_33 : decode cX6_init 33 = .ok (.putfield 26, 3) := by decide +kernel
theorem dX6_init_36 : decode cX6_init 36 = .ok (.aload_n 0, 1) := by decide +kernel
theorem dX6_init_37 : decode cX6_init 37 = .ok (.bipush 6, 2) := by decide +kernel
theorem dX6_init_39 : decode cX6_init 39 = .ok (.newarray .int, 2) := by decide +kernel
theorem dX6_init_41 : decode cX6_init 41 = .ok (.putfield 29, 3) := by decide +kernel
theorem dX6_init_44 : decode cX6_init 44 = .ok (.return_, 1) := by decide +kernel
theorem dX6_copy_0 : decode cX6_copy 0 = .ok (.aload_n 0, 1) := by decide +kernel
theorem dX6_copy_1 : decode cX6_copy 1 = .ok (.aload_n 1, 1) := by decide +kernel
theorem dX6_copy_2 : decode cX6_copy 2 = .ok (.getfield 32, 3) := by decide +kernel
theorem dX6_copy_5 : decode cX6_copy 5 = .ok (.putfield 32, 3) := by decide +kernel
theorem dX6_copy_8 : decode cX6_copy 8 = .ok (.aload_n 0, 1) := by decide +kernel
theorem dX6_copy_9 : decode cX6_copy 9 = .ok (.aload_n 1, 1) := by decide +kernel
theorem dX6_copy_10 : decode cX6_copy 10 = .ok (.getfield 35, 3) := by decide +kernel
theorem dX6_copy_13 : decode cX6_copy 13 = .ok (.putfield 35, 3) := by decide +kernel
theorem dX6_copy_16 : decode cX6_copy 16 = .ok (.aload_n 0, 1) := by decide +kernel
theorem dX6_copy_17 : decode cX6_copy 17 = .ok (.aload_n 1, 1) := by decide +kernel
theorem dX6_copy_18 : decode cX6_copy 18 = .ok (.getfield 9, 3) := by decide +kernel
theorem dX6_copy_21 : decode cX6_copy 21 = .ok (.putfield 9, 3) := by decide +kernel
theorem dX6_copy_24 : decode cX6_copy 24 = .ok (.aload_n 0, 1) := by decide +kernel
theorem dX6_copy_25 : decode cX6_copy 25 = .ok (.getfield 18, 3) := by decide +kernel
theorem dX6_copy_28 : decode cX6_copy 28 = .ok (.aload_n 1, 1) := by decide +kernel
theorem dX6_copy_29 : decode cX6_copy 29 = .ok (.getfield 18, 3) := by decide +kernel
theorem dX6_copy_32 : decode cX6_copy 32 = .ok (.invokevirtual 38, 3) := by decide +kernel
theorem dX6_copy_35 : decode cX6_copy 35 = .ok (.aload_n 0, 1) := by decide +kernel
theorem dX6_copy_36 : decode cX6_copy 36 = .ok (.aload_n 1, 1) := by decide +kernel
theorem dX6_copy_37 : decode cX6_copy 37 = .ok (.getfield 42, 3) := by decide +kernel
theorem dX6_copy_40 : decode cX6_copy 40 = .ok (.putfield 42, 3) := by decide +kernel
theorem dX6_copy_43 : decode cX6_copy 43 = .ok (.aload_n 1, 1) := by decide +kernel
theorem dX6_copy_44 : decode cX6_copy 44 = .ok (.getfield 22, 3) := by decide +kernel
theorem dX6_copy_47 : decode cX6_copy 47 = .ok (.iconst 0, 1) := by decide +kernel
theorem dX6_copy_48 : decode cX6_copy 48 = .ok (.aload_n 0, 1) := by decide +kernel
theorem dX6_copy_49 : decode cX6_copy 49 = .ok (.getfield 22, 3) := by decide +kernel
theorem dX6_copy_52 : decode cX6_copy 52 = .ok (.iconst 0, 1) := by decide +kernel
theorem dX6_copy_53 : decode cX6_copy 53 = .ok (.bipush 6, 2) := by decide +kernel
theorem dX6_copy_55 : decode cX6_copy 55 = .ok (.invokestatic 45, 3) := by decide +kernel
theorem dX6_copy_58 : decode cX6_copy 58 = .ok (.aload_n 1, 1) := by decide +kernel
theorem dX6_copy_59 : decode cX6_copy 59 = .ok (.getfield 26, 3) := by decide +kernel
theorem dX6_copy_62 : decode cX6_copy 62 = .ok (.iconst 0, 1) := by decide +kernel
theorem dX6_copy_63 : decode cX6_copy 63 = .ok (.aload_n 0, 1) := by decide +kernel
theorem dX6_copy_64 : decode cX6_copy 64 = .ok (.getfield 26, 3) := by decide +kernel
theorem dX6_copy_67 : decode cX6_copy 67 = .ok (.iconst 0, 1) := by decide +kernel
theorem dX6_copy_68 : decode cX6_copy 68 = .ok (.bipush 6, 2) := by decide +kernel
theorem dX6_copy_70 : decode cX6_copy 70 = .ok (.invokestatic 45, 3) := by decide +kernel
theorem dX6_copy_73 : decode cX6_copy 73 = .ok (.aload_n 1, 1) := by decide +kernel
theorem dX6_copy_74 : decode cX6_copy 74 = .ok (.getfield 29, 3) := by decide +kernel
theorem dX6_copy_77 : decode cX6_copy 77 = .ok (.iconst 0, 1) := by decide +kernel
theorem dX6_copy_78 : decode cX6_copy 78 = .ok (.aload_n 0, 1) := by decide +kernel
theorem dX6_copy_79 : decode cX6_copy 79 = .ok (.getfield 29, 3) := by decide +kernel
theorem dX6_copy_82 : decode cX6_copy 82 = .ok (.iconst 0, 1) := by decide +kernel
theorem dX6_copy_83 : decode cX6_copy 83 = .ok (.bipush 6, 2) := by decide +kernel
theorem dX6_copy_85 : decode cX6_copy 85 = .ok (.invokestatic 45, 3) := by decide +kernel
theorem dX6_copy_88 : decode cX6_copy 88 = .ok (.return_, 1) := by decide +kernel
theorem dX6_pieceBeat_0 : decode cX6_pieceBeat 0 = .ok (.aload_n 0, 1) := by decide +kernel
theorem dX6_pieceBeat_1 : decode cX6_pieceBeat 1 = .ok (.getfield 32, 3) := by decide +kernel
theorem dX6_pieceBeat_4 : decode cX6_pieceBeat 4 = .ok (.bipush 31, 2) := by decide +kernel
theorem dX6_pieceBeat_6 : decode cX6_pieceBeat 6 = .ok (.iand, 1) := by decide +kernel
theorem dX6_pieceBeat_7 : decode cX6_pieceBeat 7 = .ok (.ireturn, 1) := by decide +kernel
theorem dX6_seats_0 : decode cX6_seats 0 = .ok (.iload_n 1, 1) := by decide +kernel
theorem dX6_seats_1 : decode cX6_seats 1 = .ok (.ifCond .lt 21, 3) := by decide +kernel
theorem dX6_seats_4 : decode cX6_seats 4 = .ok (.iload_n 1, 1) := by decide +kernel
theorem dX6_seats_5 : decode cX6_seats 5 = .ok (.aload_n 0, 1) := by decide +kernel
theorem dX6_seats_6 : decode cX6_seats 6 = .ok (.getfield 42, 3) := by decide +kernel
theorem dX6_seats_9 : decode cX6_seats 9 = .ok (.if_icmp .ge 13, 3) := by decide +kernel
theorem dX6_seats_12 : decode cX6_seats 12 = .ok (.iload_n 1, 1) := by decide +kernel
theorem dX6_seats_13 : decode cX6_seats 13 = .ok (.bipush 6, 2) := by decide +kernel
theorem dX6_seats_15 : decode cX6_seats 15 = .ok (.if_icmp .ge 7, 3) := by decide +kernel
theorem dX6_seats_18 : decode cX6_seats 18 = .ok (.iconst 1, 1) := by decide +kernel
theorem dX6_seats_19 : decode cX6_seats 19 = .ok (.goto 4, 3) := by decide +kernel
theorem dX6_seats_22 : decode cX6_seats 22 = .ok (.iconst 0, 1) := by decide +kernel
theorem dX6_seats_23 : decode cX6_seats 23 = .ok (.ireturn, 1) := by decide +kernel
theorem dX6_seat_0 : decode cX6_seat 0 = .ok (.aload_n 0, 1) := by decide +kernel
theorem dX6_seat_1 : decode cX6_seat 1 = .ok (.getfield 42, 3) := by decide +kernel
theorem dX6_seat_4 : decode cX6_seat 4 = .ok (.istore_n 2, 1) := by decide +kernel
theorem dX6_seat_5 : decode cX6_seat 5 = .ok (.iload_n 2, 1) := by decide +kernel
theorem dX6_seat_6 : decode cX6_seat 6 = .ok (.ifCond .lt 9, 3) := by decide +kernel
theorem dX6_seat_9 : decode cX6_seat 9 = .ok (.iload_n 2, 1) := by decide +kernel
theorem dX6_seat_10 : decode cX6_seat 10 = .ok (.bipush 6, 2) := by decide +kernel
theorem dX6_seat_12 : decode cX6_seat 12 = .ok (.if_icmp .lt 5, 3) := by decide +kernel
theorem dX6_seat_15 : decode cX6_seat 15 = .ok (.iload_n 2, 1) := by decide +kernel
theorem dX6_seat_16 : decode cX6_seat 16 = .ok (.ireturn, 1) := by decide +kernel
theorem dX6_seat_17 : decode cX6_seat 17 = .ok (.aload_n 0, 1) := by decide +kernel
theorem dX6_seat_18 : decode cX6_seat 18 = .ok (.getfield 22, 3) := by decide +kernel
theorem dX6_seat_21 : decode cX6_seat 21 = .ok (.iload_n 2, 1) := by decide +kernel
theorem dX6_seat_22 : decode cX6_seat 22 = .ok (.iload_n 1, 1) := by decide +kernel
theorem dX6_seat_23 : decode cX6_seat 23 = .ok (.iastore, 1) := by decide +kernel
theorem dX6_seat_24 : decode cX6_seat 24 = .ok (.aload_n 0, 1) := by decide +kernel
theorem dX6_seat_25 : decode cX6_seat 25 = .ok (.getfield 26, 3) := by decide +kernel
theorem dX6_seat_28 : decode cX6_seat 28 = .ok (.iload_n 2, 1) := by decide +kernel
theorem dX6_seat_29 : decode cX6_seat 29 = .ok (.iconst 0, 1) := by decide +kernel
theorem dX6_seat_30 : decode cX6_seat 30 = .ok (.iastore, 1) := by decide +kernel
theorem dX6_seat_31 : decode cX6_seat 31 = .ok (.aload_n 0, 1) := by decide +kernel
theorem dX6_seat_32 : decode cX6_seat 32 = .ok (.getfield 29, 3) := by decide +kernel
theorem dX6_seat_35 : decode cX6_seat 35 = .ok (.iload_n 2, 1) := by decide +kernel
theorem dX6_seat_36 : decode cX6_seat 36 = .ok (.bipush 50, 2) := by decide +kernel
theorem dX6_seat_38 : decode cX6_seat 38 = .ok (.iastore, 1) := by decide +kernel
theorem dX6_seat_39 : decode cX6_seat 39 = .ok (.aload_n 0, 1) := by decide +kernel
theorem dX6_seat_40 : decode cX6_seat 40 = .ok (.dup, 1) := by decide +kernel
theorem dX6_seat_41 : decode cX6_seat 41 = .ok (.getfield 42, 3) := by decide +kernel
theorem dX6_seat_44 : decode cX6_seat 44 = .ok (.iconst 1, 1) := by decide +kernel
theorem dX6_seat_45 : decode cX6_seat 45 = .ok (.iadd, 1) := by decide +kernel
theorem dX6_seat_46 : decode cX6_seat 46 = .ok (.putfield 42, 3) := by decide +kernel
theorem dX6_seat_49 : decode cX6_seat 49 = .ok (.iload_n 2, 1) := by decide +kernel
theorem dX6_seat_50 : decode cX6_seat 50 = .ok (.ireturn, 1) := by decide +kernel
theorem dX6_allCoins_0 : decode cX6_allCoins 0 = .ok (.iconst 0, 1) := by decide +kernel
theorem dX6_allCoins_1 : decode cX6_allCoins 1 = .ok (.istore_n 1, 1) := by decide +kernel
theorem dX6_allCoins_2 : decode cX6_allCoins 2 = .ok (.iconst 0, 1) := by decide +kernel
theorem dX6_allCoins_3 : decode cX6_allCoins 3 = .ok (.istore_n 2, 1) := by decide +kernel
theorem dX6_allCoins_4 : decode cX6_allCoins 4 = .ok (.iload_n 2, 1) := by decide +kernel
theorem dX6_allCoins_5 : decode cX6_allCoins 5 = .ok (.aload_n 0, 1) := by decide +kernel
theorem dX6_allCoins_6 : decode cX6_allCoins 6 = .ok (.getfield 42, 3) := by decide +kernel
theorem dX6_allCoins_9 : decode cX6_allCoins 9 = .ok (.if_icmp .ge 24, 3) := by decide +kernel
theorem dX6_allCoins_12 : decode cX6_allCoins 12 = .ok (.iload_n 2, 1) := by decide +kernel
theorem dX6_allCoins_13 : decode cX6_allCoins 13 = .ok (.bipush 6, 2) := by decide +kernel
theorem dX6_allCoins_15 : decode cX6_allCoins 15 = .ok (.if_icmp .ge 18, 3) := by decide +kernel
theorem dX6_allCoins_18 : decode cX6_allCoins 18 = .ok (.iload_n 1, 1) := by decide +kernel
theorem dX6_allCoins_19 : decode cX6_allCoins 19 = .ok (.aload_n 0, 1) := by decide +kernel
theorem dX6_allCoins_20 : decode cX6_allCoins 20 = .ok (.getfield 29, 3) := by decide +kernel
theorem dX6_allCoins_23 : decode cX6_allCoins 23 = .ok (.iload_n 2, 1) := by decide +kernel
theorem dX6_allCoins_24 : decode cX6_allCoins 24 = .ok (.iaload, 1) := by decide +kernel
theorem dX6_allCoins_25 : decode cX6_allCoins 25 = .ok (.iadd, 1) := by decide +kernel
theorem dX6_allCoins_26 : decode cX6_allCoins 26 = .ok (.istore_n 1, 1) := by decide +kernel
theorem dX6_allCoins_27 : decode cX6_allCoins 27 = .ok (.iinc 2 1, 3) := by decide +kernel
theorem dX6_allCoins_30 : decode cX6_allCoins 30 = .ok (.goto (-26), 3) := by decide +kernel
theorem dX6_allCoins_33 : decode cX6_allCoins 33 = .ok (.iload_n 1, 1) := by decide +kernel
theorem dX6_allCoins_34 : decode cX6_allCoins 34 = .ok (.ireturn, 1) := by decide +kernel
theorem dX6_tellOf_0 : decode cX6_tellOf 0 = .ok (.aload_n 0, 1) := by decide +kernel
theorem dX6_tellOf_1 : decode cX6_tellOf 1 = .ok (.iload_n 2, 1) := by decide +kernel
theorem dX6_tellOf_2 : decode cX6_tellOf 2 = .ok (.invokevirtual 51, 3) := by decide +kernel
theorem dX6_tellOf_5 : decode cX6_tellOf 5 = .ok (.ifCond .ne 5, 3) := by decide +kernel
theorem dX6_tellOf_8 : decode cX6_tellOf 8 = .ok (.iconst 0, 1) := by decide +kernel
theorem dX6_tellOf_9 : decode cX6_tellOf 9 = .ok (.ireturn, 1) := by decide +kernel
theorem dX6_tellOf_10 : decode cX6_tellOf 10 = .ok (.iload_n 3, 1) := by decide +kernel
theorem dX6_tellOf_11 : decode cX6_tellOf 11 = .ok (.ifCond .ne 10, 3) := by decide +kernel
theorem dX6_tellOf_14 : decode cX6_tellOf 14 = .ok (.aload_n 0, 1) := by decide +kernel
theorem dX6_tellOf_15 : decode cX6_tellOf 15 = .ok (.getfield 22, 3) := by decide +kernel
theorem dX6_tellOf_18 : decode cX6_tellOf 18 = .ok (.iload_n 2, 1) := by decide +kernel
theorem dX6_tellOf_19 : decode cX6_tellOf 19 = .ok (.iaload, 1) := by decide +kernel
theorem dX6_tellOf_20 : decode cX6_tellOf 20 = .ok (.ireturn, 1) := by decide +kernel
theorem dX6_tellOf_21 : decode cX6_tellOf 21 = .ok (.iload_n 3, 1) := by decide +kernel
theorem dX6_tellOf_22 : decode cX6_tellOf 22 = .ok (.iconst 1, 1) := by decide +kernel
theorem dX6_tellOf_23 : decode cX6_tellOf 23 = .ok (.if_icmp .ne 10, 3) := by decide +kernel
theorem dX6_tellOf_26 : decode cX6_tellOf 26 = .ok (.aload_n 0, 1) := by decide +kernel
theorem dX6_tellOf_27 : decode cX6_tellOf 27 = .ok (.getfield 26, 3) := by decide +kernel
theorem dX6_tellOf_30 : decode cX6_tellOf 30 = .ok (.iload_n 2, 1) := by decide +kernel
theorem dX6_tellOf_31 : decode cX6_tellOf 31 = .ok (.iaload, 1) := by decide +kernel
theorem dX6_tellOf_32 : decode cX6_tellOf 32 = .ok (.ireturn, 1) := by decide +kernel
theorem dX6_tellOf_33 : decode cX6_tellOf 33 = .ok (.iload_n 3, 1) := by decide +kernel
theorem dX6_tellOf_34 : decode cX6_tellOf 34 = .ok (.iconst 2, 1) := by decide +kernel
theorem dX6_tellOf_35 : decode cX6_tellOf 35 = .ok (.if_icmp .ne 10, 3) := by decide +kernel
theorem dX6_tellOf_38 : decode cX6_tellOf 38 = .ok (.aload_n 0, 1) := by decide +kernel
theorem dX6_tellOf_39 : decode cX6_tellOf 39 = .ok (.getfield 29, 3) := by decide +kernel
theorem dX6_tellOf_42 : decode cX6_tellOf 42 = .ok (.iload_n 2, 1) := by decide +kernel
theorem dX6_tellOf_43 : decode cX6_tellOf 43 = .ok (.iaload, 1) := by decide +kernel
theorem dX6_tellOf_44 : decode cX6_tellOf 44 = .ok (.ireturn, 1) := by decide +kernel
theorem dX6_tellOf_45 : decode cX6_tellOf 45 = .ok (.aload_n 0, 1) := by decide +kernel
theorem dX6_tellOf_46 : decode cX6_tellOf 46 = .ok (.invokevirtual 55, 3) := by decide +kernel
theorem dX6_tellOf_49 : decode cX6_tellOf 49 = .ok (.istore 4, 2) := by decide +kernel
theorem dX6_tellOf_51 : decode cX6_tellOf 51 = .ok (.aload_n 0, 1) := by decide +kernel
theorem dX6_tellOf_52 : decode cX6_tellOf 52 = .ok (.getfield 18, 3) := by decide +kernel
theorem dX6_tellOf_55 : decode cX6_tellOf 55 = .ok (.aload_n 1, 1) := by decide +kernel
theorem dX6_tellOf_56 : decode cX6_tellOf 56 = .ok (.aload_n 0, 1) := by decide +kernel
theorem dX6_tellOf_57 : decode cX6_tellOf 57 = .ok (.getfield 18, 3) := by decide +kernel
theorem dX6_tellOf_60 : decode cX6_tellOf 60 = .ok (.getfield 59, 3) := by decide +kernel
theorem dX6_tellOf_63 : decode cX6_tellOf 63 = .ok (.aload_n 0, 1) := by decide +kernel
theorem dX6_tellOf_64 : decode cX6_tellOf 64 = .ok (.getfield 22, 3) := by decide +kernel
theorem dX6_tellOf_67 : decode cX6_tellOf 67 = .ok (.iload_n 2, 1) := by decide +kernel
theorem dX6_tellOf_68 : decode cX6_tellOf 68 = .ok (.iaload, 1) := by decide +kernel
theorem dX6_tellOf_69 : decode cX6_tellOf 69 = .ok (.iload 4, 2) := by decide +kernel
theorem dX6_tellOf_71 : decode cX6_tellOf 71 = .ok (.aload_n 1, 1) := by decide +kernel
theorem dX6_tellOf_72 : decode cX6_tellOf 72 = .ok (.getfield 62, 3) := by decide +kernel
theorem dX6_tellOf_75 : decode cX6_tellOf 75 = .ok (.aload_n 0, 1) := by decide +kernel
theorem dX6_tellOf_76 : decode cX6_tellOf 76 = .ok (.getfield 18, 3) := by decide +kernel
theorem dX6_tellOf_79 : decode cX6_tellOf 79 = .ok (.iload 4, 2) := by decide +kernel
theorem dX6_tellOf_81 : decode cX6_tellOf 81 = .ok (.invokevirtual 67, 3) := by decide +kernel
theorem dX6_tellOf_84 : decode cX6_tellOf 84 = .ok (.invokevirtual 71, 3) := by decide +kernel
theorem dX6_tellOf_87 : decode cX6_tellOf 87 = .ok (.ifCond .eq 7, 3) := by decide +kernel
theorem dX6_tellOf_90 : decode cX6_tellOf 90 = .ok (.iconst 1, 1) := by decide +kernel
theorem dX6_tellOf_91 : decode cX6_tellOf 91 = .ok (.goto 4, 3) := by decide +kernel
theorem dX6_tellOf_94 : decode cX6_tellOf 94 = .ok (.iconst 0, 1) := by decide +kernel
theorem dX6_tellOf_95 : decode cX6_tellOf 95 = .ok (.ireturn, 1) := by decide +kernel
theorem dX6_goBy_0 : decode cX6_goBy 0 = .ok (.aload_n 0, 1) := by decide +kernel
theorem dX6_goBy_1 : decode cX6_goBy 1 = .ok (.invokevirtual 55, 3) := by decide +kernel
theorem dX6_goBy_4 : decode cX6_goBy 4 = .ok (.istore_n 3, 1) := by decide +kernel
theorem dX6_goBy_5 : decode cX6_goBy 5 = .ok (.aload_n 0, 1) := by decide +kernel
theorem dX6_goBy_6 : decode cX6_goBy 6 = .ok (.getfield 18, 3) := by decide +kernel
theorem dX6_goBy_9 : decode cX6_goBy 9 = .ok (.iload_n 3, 1) := by decide +kernel
theorem dX6_goBy_10 : decode cX6_goBy 10 = .ok (.invokevirtual 67, 3) := by decide +kernel
theorem dX6_goBy_13 : decode cX6_goBy 13 = .ok (.istore 4, 2) := by decide +kernel
theorem dX6_goBy_15 : decode cX6_goBy 15 = .ok (.iload_n 2, 1) := by decide +kernel
theorem dX6_goBy_16 : decode cX6_goBy 16 = .ok (.ifCond .eq 11, 3) := by decide +kernel
theorem dX6_goBy_19 : decode cX6_goBy 19 = .ok (.aload_n 0, 1) := by decide +kernel
theorem dX6_goBy_20 : decode cX6_goBy 20 = .ok (.iload 4, 2) := by decide +kernel
theorem dX6_goBy_22 : decode cX6_goBy 22 = .ok (.invokevirtual 75, 3) := by decide +kernel
theorem dX6_goBy_25 : decode cX6_goBy 25 = .ok (.istore 4, 2) := by decide +kernel
theorem dX6_goBy_27 : decode cX6_goBy 27 = .ok (.iconst 0, 1) := by decide +kernel
theorem dX6_goBy_28 : decode cX6_goBy 28 = .ok (.istore 5, 2) := by decide +kernel
theorem dX6_goBy_30 : decode cX6_goBy 30 = .ok (.iload 5, 2) := by decide +kernel
theorem dX6_goBy_32 : decode cX6_goBy 32 = .ok (.aload_n 0, 1) := by decide +kernel
theorem dX6_goBy_33 : decode cX6_goBy 33 = .ok (.getfield 42, 3) := by decide +kernel
theorem dX6_goBy_36 : decode cX6_goBy 36 = .ok (.if_icmp .ge 139, 3) := by decide +kernel
theorem dX6_goBy_39 : decode cX6_goBy 39 = .ok (.iload 5, 2) := by decide +kernel
theorem dX6_goBy_41 : decode cX6_goBy 41 = .ok (.bipush 6, 2) := by decide +kernel
theorem dX6_goBy_43 : decode cX6_goBy 43 = .ok (.if_icmp .ge 132, 3) := by decide +kernel
theorem dX6_goBy_46 : decode cX6_goBy 46 = .ok (.aload_n 0, 1) := by decide +kernel
theorem dX6_goBy_47 : decode cX6_goBy 47 = .ok (.getfield 18, 3) := by decide +kernel
theorem dX6_goBy_50 : decode cX6_goBy 50 = .ok (.aload_n 1, 1) := by decide +kernel
theorem dX6_goBy_51 : decode cX6_goBy 51 = .ok (.aload_n 0, 1) := by decide +kernel
theorem dX6_goBy_52 : decode cX6_goBy 52 = .ok (.getfield 18, 3) := by decide +kernel
theorem dX6_goBy_55 : decode cX6_goBy 55 = .ok (.getfield 59, 3) := by decide +kernel
theorem dX6_goBy_58 : decode cX6_goBy 58 = .ok (.aload_n 0, 1) := by decide +kernel
theorem dX6_goBy_59 : decode cX6_goBy 59 = .ok (.getfield 22, 3) := by decide +kernel
theorem dX6_goBy_62 : decode cX6_goBy 62 = .ok (.iload 5, 2) := by decide +kernel
theorem dX6_goBy_64 : decode cX6_goBy 64 = .ok (.iaload, 1) := by decide +kernel
theorem dX6_goBy_65 : decode cX6_goBy 65 = .ok (.iload_n 3, 1) := by decide +kernel
theorem dX6_goBy_66 : decode cX6_goBy 66 = .ok (.aload_n 1, 1) := by decide +kernel
theorem dX6_goBy_67 : decode cX6_goBy 67 = .ok (.getfield 62, 3) := by decide +kernel
theorem dX6_goBy_70 : decode cX6_goBy 70 = .ok (.iload 4, 2) := by decide +kernel
theorem dX6_goBy_72 : decode cX6_goBy 72 = .ok (.invokevirtual 71, 3) := by decide +kernel
theorem dX6_goBy_75 : decode cX6_goBy 75 = .ok (.istore 6, 2) := by decide +kernel
theorem dX6_goBy_77 : decode cX6_goBy 77 = .ok (.iload 6, 2) := by decide +kernel
theorem dX6_goBy_79 : decode cX6_goBy 79 = .ok (.ifCond .eq 25, 3) := by decide +kernel
theorem dX6_goBy_82 : decode cX6_goBy 82 = .ok (.aload_n 0, 1) := by decide +kernel
theorem dX6_goBy_83 : decode cX6_goBy 83 = .ok (.getfield 26, 3) := by decide +kernel
theorem dX6_goBy_86 : decode cX6_goBy 86 = .ok (.iload 5, 2) := by decide +kernel
theorem dX6_goBy_88 : decode cX6_goBy 88 = .ok (.sipush 9999, 3) := by decide +kernel
theorem dX6_goBy_91 : decode cX6_goBy 91 = .ok (.aload_n 0, 1) := by decide +kernel
theorem dX6_goBy_92 : decode cX6_goBy 92 = .ok (.getfield 26, 3) := by decide +kernel
theorem dX6_goBy_95 : decode cX6_goBy 95 = .ok (.iload 5, 2) := by decide +kernel
theorem dX6_goBy_97 : decode cX6_goBy 97 = .ok (.iaload, 1) := by decide +kernel
theorem dX6_goBy_98 : decode cX6_goBy 98 = .ok (.iconst 1, 1) := by decide +kernel
theorem dX6_goBy_99 : decode cX6_goBy 99 = .ok (.iadd, 1) := by decide +kernel
theorem dX6_goBy_100 : decode cX6_goBy 100 = .ok (.invokestatic 78, 3) := by decide +kernel
theorem dX6_goBy_103 : decode cX6_goBy 103 = .ok (.iastore, 1) := by decide +kernel
theorem dX6_goBy_104 : decode cX6_goBy 104 = .ok (.aload_n 1, 1) := by decide +kernel
theorem dX6_goBy_105 : decode cX6_goBy 105 = .ok (.iconst 1, 1) := by decide +kernel
theorem dX6_goBy_106 : decode cX6_goBy 106 = .ok (.iload 4, 2) := by decide +kernel
theorem dX6_goBy_108 : decode cX6_goBy 108 = .ok (.invokestatic 84, 3) := by decide +kernel
theorem dX6_goBy_111 : decode cX6_goBy 111 = .ok (.iload 6, 2) := by decide +kernel
theorem dX6_goBy_113 : decode cX6_goBy 113 = .ok (.ifCond .eq 7, 3) := by decide +kernel
theorem dX6_goBy_116 : decode cX6_goBy 116 = .ok (.iconst 1, 1) := by decide +kernel
theorem dX6_goBy_117 : decode cX6_goBy 117 = .ok (.goto 4, 3) := by decide +kernel
theorem dX6_goBy_120 : decode cX6_goBy 120 = .ok (.iconst 0, 1) := by decide +kernel
theorem dX6_goBy_121 : decode cX6_goBy 121 = .ok (.iload_n 3, 1) := by decide +kernel
theorem dX6_goBy_122 : decode cX6_goBy 122 = .ok (.invokevirtual 89, 3) := by decide +kernel
theorem dX6_goBy_125 : decode cX6_goBy 125 = .ok (.istore 7, 2) := by decide +kernel
theorem dX6_goBy_127 : decode cX6_goBy 127 = .ok (.iload 7, 2) := by decide +kernel
theorem dX6_goBy_129 : decode cX6_goBy 129 = .ok (.aload_n 0, 1) := by decide +kernel
theorem dX6_goBy_130 : decode cX6_goBy 130 = .ok (.getfield 29, 3) := by decide +kernel
theorem dX6_goBy_133 : decode cX6_goBy 133 = .ok (.iload 5, 2) := by decide +kernel
theorem dX6_goBy_135 : decode cX6_goBy 135 = .ok (.iaload, 1) := by decide +kernel
theorem dX6_goBy_136 : decode cX6_goBy 136 = .ok (.invokestatic 78, 3) := by decide +kernel
theorem dX6_goBy_139 : decode cX6_goBy 139 = .ok (.istore 8, 2) := by decide +kernel
theorem dX6_goBy_141 : decode cX6_goBy 141 = .ok (.aload_n 0, 1) := by decide +kernel
theorem dX6_goBy_142 : decode cX6_goBy 142 = .ok (.getfield 29, 3) := by decide +kernel
theorem dX6_goBy_145 : decode cX6_goBy 145 = .ok (.iload 5, 2) := by decide +kernel
theorem dX6_goBy_147 : decode cX6_goBy 147 = .ok (.dup2, 1) := by decide +kernel
theorem dX6_goBy_148 : decode cX6_goBy 148 = .ok (.iaload, 1) := by decide +kernel
theorem dX6_goBy_149 : decode cX6_goBy 149 = .ok (.iload 8, 2) := by decide +kernel
theorem dX6_goBy_151 : decode cX6_goBy 151 = .ok (.isub, 1) := by decide +kernel
theorem dX6_goBy_152 : decode cX6_goBy 152 = .ok (.iastore, 1) := by decide +kernel
theorem dX6_goBy_153 : decode cX6_goBy 153 = .ok (.aload_n 0, 1) := by decide +kernel
theorem dX6_goBy_154 : decode cX6_goBy 154 = .ok (.ldc 93, 2) := by decide +kernel
theorem dX6_goBy_156 : decode cX6_goBy 156 = .ok (.aload_n 0, 1) := by decide +kernel
theorem dX6_goBy_157 : decode cX6_goBy 157 = .ok (.getfield 35, 3) := by decide +kernel
theorem dX6_goBy_160 : decode cX6_goBy 160 = .ok (.iload 8, 2) := by decide +kernel
theorem dX6_goBy_162 : decode cX6_goBy 162 = .ok (.iadd, 1) := by decide +kernel
theorem dX6_goBy_163 : decode cX6_goBy 163 = .ok (.invokestatic 78, 3) := by decide +kernel
theorem dX6_goBy_166 : decode cX6_goBy 166 = .ok (.putfield 35, 3) := by decide +kernel
theorem dX6_goBy_169 : decode cX6_goBy 169 = .ok (.iinc 5 1, 3) := by decide +kernel
theorem dX6_goBy_172 : decode cX6_goBy 172 = .ok (.goto (-142), 3) := by decide +kernel
theorem dX6_goBy_175 : decode cX6_goBy 175 = .ok (.aload_n 1, 1) := by decide +kernel
theorem dX6_goBy_176 : decode cX6_goBy 176 = .ok (.iload_n 3, 1) := by decide +kernel
theorem dX6_goBy_177 : decode cX6_goBy 177 = .ok (.invokevirtual 94, 3) := by decide +kernel
theorem dX6_goBy_180 : decode cX6_goBy 180 = .ok (.istore 5, 2) := by decide +kernel
theorem dX6_goBy_182 : decode cX6_goBy 182 = .ok (.iconst 0, 1) := by decide +kernel
theorem dX6_goBy_183 : decode cX6_goBy 183 = .ok (.istore 6, 2) := by decide +kernel
theorem dX6_goBy_185 : decode cX6_goBy 185 = .ok (.iload 6, 2) := by decide +kernel
theorem dX6_goBy_187 : decode cX6_goBy 187 = .ok (.aload_n 0, 1) := by decide +kernel
theorem dX6_goBy_188 : decode cX6_goBy 188 = .ok (.getfield 18, 3) := by decide +kernel
theorem dX6_goBy_191 : decode cX6_goBy 191 = .ok (.getfield 97, 3) := by decide +kernel
theorem dX6_goBy_194 : decode cX6_goBy 194 = .ok (.if_icmp .ge 48, 3) := by decide +kernel
theorem dX6_goBy_197 : decode cX6_goBy 197 = .ok (.iload 6, 2) := by decide +kernel
theorem dX6_goBy_199 : decode cX6_goBy 199 = .ok (.bipush 9, 2) := by decide +kernel
theorem dX6_goBy_201 : decode cX6_goBy 201 = .ok (.if_icmp .ge 41, 3) := by decide +kernel
theorem dX6_goBy_204 : decode cX6_goBy 204 = .ok (.aload_n 0, 1) := by decide +kernel
theorem dX6_goBy_205 : decode cX6_goBy 205 = .ok (.getfield 18, 3) := by decide +kernel
theorem dX6_goBy_208 : decode cX6_goBy 208 = .ok (.getfield 59, 3) := by decide +kernel
theorem dX6_goBy_211 : decode cX6_goBy 211 = .ok (.iload 6, 2) := by decide +kernel
theorem dX6_goBy_213 : decode cX6_goBy 213 = .ok (.aload_n 0, 1) := by decide +kernel
theorem dX6_goBy_214 : decode cX6_goBy 214 = .ok (.getfield 18, 3) := by decide +kernel
theorem dX6_goBy_217 : decode cX6_goBy 217 = .ok (.iload 6, 2) := by decide +kernel
theorem dX6_goBy_219 : decode cX6_goBy 219 = .ok (.aload_n 0, 1) := by decide +kernel
theorem dX6_goBy_220 : decode cX6_goBy 220 = .ok (.getfield 18, 3) := by decide +kernel
theorem dX6_goBy_223 : decode cX6_goBy 223 = .ok (.getfield 59, 3) := by decide +kernel
theorem dX6_goBy_226 : decode cX6_goBy 226 = .ok (.iload 6, 2) := by decide +kernel
theorem dX6_goBy_228 : decode cX6_goBy 228 = .ok (.iaload, 1) := by decide +kernel
theorem dX6_goBy_229 : decode cX6_goBy 229 = .ok (.iload_n 3, 1) := by decide +kernel
theorem dX6_goBy_230 : decode cX6_goBy 230 = .ok (.iload 5, 2) := by decide +kernel
theorem dX6_goBy_232 : decode cX6_goBy 232 = .ok (.invokevirtual 100, 3) := by decide +kernel
theorem dX6_goBy_235 : decode cX6_goBy 235 = .ok (.iastore, 1) := by decide +kernel
theorem dX6_goBy_236 : decode cX6_goBy 236 = .ok (.iinc 6 1, 3) := by decide +kernel
theorem dX6_goBy_239 : decode cX6_goBy 239 = .ok (.goto (-54), 3) := by decide +kernel
theorem dX6_goBy_242 : decode cX6_goBy 242 = .ok (.aload_n 0, 1) := by decide +kernel
theorem dX6_goBy_243 : decode cX6_goBy 243 = .ok (.dup, 1) := by decide +kernel
theorem dX6_goBy_244 : decode cX6_goBy 244 = .ok (.getfield 32, 3) := by decide +kernel
theorem dX6_goBy_247 : decode cX6_goBy 247 = .ok (.iconst 1, 1) := by decide +kernel
theorem dX6_goBy_248 : decode cX6_goBy 248 = .ok (.iadd, 1) := by decide +kernel
theorem dX6_goBy_249 : decode cX6_goBy 249 = .ok (.putfield 32, 3) := by decide +kernel
theorem dX6_goBy_252 : decode cX6_goBy 252 = .ok (.return_, 1) := by decide +kernel
theorem dX6_leftByFog_0 : decode cX6_leftByFog 0 = .ok (.iload_n 1, 1) := by decide +kernel
theorem dX6_leftByFog_1 : decode cX6_leftByFog 1 = .ok (.istore_n 2, 1) := by decide +kernel
theorem dX6_leftByFog_2 : decode cX6_leftByFog 2 = .ok (.iconst 0, 1) := by decide +kernel
theorem dX6_leftByFog_3 : decode cX6_leftByFog 3 = .ok (.istore_n 3, 1) := by decide +kernel
theorem dX6_leftByFog_4 : decode cX6_leftByFog 4 = .ok (.iload_n 3, 1) := by decide +kernel
theorem dX6_leftByFog_5 : decode cX6_leftByFog 5 = .ok (.bipush 9, 2) := by decide +kernel
theorem dX6_leftByFog_7 : decode cX6_leftByFog 7 = .ok (.if_icmp .ge 56, 3) := by decide +kernel
theorem dX6_leftByFog_10 : decode cX6_leftByFog 10 = .ok (.iload_n 1, 1) := by decide +kernel
theorem dX6_leftByFog_11 : decode cX6_leftByFog 11 = .ok (.iload_n 3, 1) := by decide +kernel
theorem dX6_leftByFog_12 : decode cX6_leftByFog 12 = .ok (.iushr, 1) := by decide +kernel
theorem dX6_leftByFog_13 : decode cX6_leftByFog 13 = .ok (.iconst 1, 1) := by decide +kernel
theorem dX6_leftByFog_14 : decode cX6_leftByFog 14 = .ok (.iand, 1) := by decide +kernel
theorem dX6_leftByFog_15 : decode cX6_leftByFog 15 = .ok (.ifCond .ne 6, 3) := by decide +kernel
theorem dX6_leftByFog_18 : decode cX6_leftByFog 18 = .ok (.goto 39, 3) := by decide +kernel
theorem dX6_leftByFog_21 : decode cX6_leftByFog 21 = .ok (.aload_n 0, 1) := by decide +kernel
theorem dX6_leftByFog_22 : decode cX6_leftByFog 22 = .ok (.aload_n 0, 1) := by decide +kernel
theorem dX6_leftByFog_23 : decode cX6_leftByFog 23 = .ok (.getfield 9, 3) := by decide +kernel
theorem dX6_leftByFog_26 : decode cX6_leftByFog 26 = .ok (.ldc 103, 2) := by decide +kernel
theorem dX6_leftByFog_28 : decode cX6_leftByFog 28 = .ok (.imul, 1) := by decide +kernel
theorem dX6_leftByFog_29 : decode cX6_leftByFog 29 = .ok (.sipush 12345, 3) := by decide +kernel
theorem dX6_leftByFog_32 : decode cX6_leftByFog 32 = .ok (.iadd, 1) := by decide +kernel
theorem dX6_leftByFog_33 : decode cX6_leftByFog 33 = .ok (.putfield 9, 3) := by decide +kernel
theorem dX6_leftByFog_36 : decode cX6_leftByFog 36 = .ok (.aload_n 0, 1) := by decide +kernel
theorem dX6_leftByFog_37 : decode cX6_leftByFog 37 = .ok (.getfield 9, 3) := by decide +kernel
theorem dX6_leftByFog_40 : decode cX6_leftByFog 40 = .ok (.bipush 8, 2) := by decide +kernel
theorem dX6_leftByFog_42 : decode cX6_leftByFog 42 = .ok (.iushr, 1) := by decide +kernel
theorem dX6_leftByFog_43 : decode cX6_leftByFog 43 = .ok (.bipush 6, 2) := by decide +kernel
theorem dX6_leftByFog_45 : decode cX6_leftByFog 45 = .ok (.irem, 1) := by decide +kernel
theorem dX6_leftByFog_46 : decode cX6_leftByFog 46 = .ok (.ifCond .ne 11, 3) := by decide +kernel
theorem dX6_leftByFog_49 : decode cX6_leftByFog 49 = .ok (.iload_n 2, 1) := by decide +kernel
theorem dX6_leftByFog_50 : decode cX6_leftByFog 50 = .ok (.iconst 1, 1) := by decide +kernel
theorem dX6_leftByFog_51 : decode cX6_leftByFog 51 = .ok (.iload_n 3, 1) := by decide +kernel
theorem dX6_leftByFog_52 : decode cX6_leftByFog 52 = .ok (.ishl, 1) := by decide +kernel
theorem dX6_leftByFog_53 : decode cX6_leftByFog 53 = .ok (.iconst (-1), 1) := by decide +kernel
theorem dX6_leftByFog_54 : decode cX6_leftByFog 54 = .ok (.ixor, 1) := by decide +kernel
theorem dX6_leftByFog_55 : decode cX6_leftByFog 55 = .ok (.iand, 1) := by decide +kernel
theorem dX6_leftByFog_56 : decode cX6_leftByFog 56 = .ok (.istore_n 2, 1) := by decide +kernel
theorem dX6_leftByFog_57 : decode cX6_leftByFog 57 = .ok (.iinc 3 1, 3) := by decide +kernel
theorem dX6_leftByFog_60 : decode cX6_leftByFog 60 = .ok (.goto (-56), 3) := by decide +kernel
theorem dX6_leftByFog_63 : decode cX6_leftByFog 63 = .ok (.iload_n 2, 1) := by decide +kernel
theorem dX6_leftByFog_64 : decode cX6_leftByFog 64 = .ok (.ireturn, 1) := by decide +kernel
theorem dX7_init_0 : decode cX7_init 0 = .ok (.aload_n 0, 1) := by decide +kernel
theorem dX7_init_1 : decode cX7_init 1 = .ok (.invokespecial 3, 3) := by decide +kernel
theorem dX7_init_4 : decode cX7_init 4 = .ok (.aload_n 0, 1) := by decide +kernel
theorem dX7_init_5 : decode cX7_init 5 = .ok (.bipush 40, 2) := by decide +kernel
theorem dX7_init_7 : decode cX7_init 7 = .ok (.newarray .int, 2) := by decide +kernel
theorem dX7_init_9 : decode cX7_init 9 = .ok (.putfield 9, 3) := by decide +kernel
theorem dX7_init_12 : decode cX7_init 12 = .ok (.return_, 1) := by decide +kernel
theorem dX7_isMissing_0 : decode cX7_isMissing 0 = .ok (.aload_n 0, 1) := by decide +kernel
theorem dX7_isMissing_1 : decode cX7_isMissing 1 = .ok (.getfield 15, 3) := by decide +kernel
theorem dX7_isMissing_4 : decode cX7_isMissing 4 = .ok (.ifCond .ne 7, 3) := by decide +kernel
theorem dX7_isMissing_7 : decode cX7_isMissing 7 = .ok (.iconst 1, 1) := by decide +kernel
theorem dX7_isMissing_8 : decode cX7_isMissing 8 = .ok (.goto 4, 3) := by decide +kernel
theorem dX7_isMissing_11 : decode cX7_isMissing 11 = .ok (.iconst 0, 1) := by decide +kernel
theorem dX7_isMissing_12 : decode cX7_isMissing 12 = .ok (.ireturn, 1) := by decide +kernel
theorem dX7_holds_0 : decode cX7_holds 0 = .ok (.iload_n 1, 1) := by decide +kernel
theorem dX7_holds_1 : decode cX7_holds 1 = .ok (.ifCond .lt 21, 3) := by decide +kernel
theorem dX7_holds_4 : decode cX7_holds 4 = .ok (.iload_n 1, 1) := by decide +kernel
theorem dX7_holds_5 : decode cX7_holds 5 = .ok (.aload_n 0, 1) := by decide +kernel
theorem dX7_holds_6 : decode cX7_holds 6 = .ok (.getfield 19, 3) := by decide +kernel
theorem dX7_holds_9 : decode cX7_holds 9 = .ok (.if_icmp .ge 13, 3) := by decide +kernel
theorem dX7_holds_12 : decode cX7_holds 12 = .ok (.iload_n 1, 1) := by decide +kernel
theorem dX7_holds_13 : decode cX7_holds 13 = .ok (.bipush 40, 2) := by decide +kernel
theorem dX7_holds_15 : decode cX7_holds 15 = .ok (.if_icmp .ge 7, 3) := by decide +kernel
theorem dX7_holds_18 : decode cX7_holds 18 = .ok (.iconst 1, 1) := by decide +kernel
theorem dX7_holds_19 : decode cX7_holds 19 = .ok (.goto 4, 3) := by decide +kernel
theorem dX7_holds_22 : decode cX7_holds 22 = .ok (.iconst 0, 1) := by decide +kernel
theorem dX7_holds_23 : decode cX7_holds 23 = .ok (.ireturn, 1) := by decide +kernel
theorem dX7_holdsFrom_0 : decode cX7_holdsFrom 0 = .ok (.iload_n 1, 1) := by decide +kernel
theorem dX7_holdsFrom_1 : decode cX7_holdsFrom 1 = .ok (.ifCond .lt 30, 3) := by decide +kernel
theorem dX7_holdsFrom_4 : decode cX7_holdsFrom 4 = .ok (.iload_n 2, 1) := by decide +kernel
theorem dX7_holdsFrom_5 : decode cX7_holdsFrom 5 = .ok (.ifCond .lt 26, 3) := by decide +kernel
theorem dX7_holdsFrom_8 : decode cX7_holdsFrom 8 = .ok (.iload_n 1, 1) := by decide +kernel
theorem dX7_holdsFrom_9 : decode cX7_holdsFrom 9 = .ok (.aload_n 0, 1) := by decide +kernel
theorem dX7_holdsFrom_10 : decode cX7_holdsFrom 10 = .ok (.getfield 19, 3) := by decide +kernel
theorem dX7_holdsFrom_13 : decode cX7_holdsFrom 13 = .ok (.iload_n 2, 1) := by decide +kernel
theorem dX7_holdsFrom_14 : decode cX7_holdsFrom 14 = .ok (.isub, 1) := by decide +kernel
theorem dX7_holdsFrom_15 : decode cX7_holdsFrom 15 = .ok (.if_icmp .gt 16, 3) := by decide +kernel
theorem dX7_holdsFrom_18 : decode cX7_holdsFrom 18 = .ok (.aload_n 0, 1) := by decide +kernel
theorem dX7_holdsFrom_19 : decode cX7_holdsFrom 19 = .ok (.getfield 19, 3) := by decide +kernel
theorem dX7_holdsFrom_22 : decode cX7_holdsFrom 22 = .ok (.bipush 40, 2) := by decide +kernel
theorem dX7_holdsFrom_24 : decode cX7_holdsFrom 24 = .ok (.if_icmp .gt 7, 3) := by decide +kernel
theorem dX7_holdsFrom_27 : decode cX7_holdsFrom 27 = .ok (.iconst 1, 1) := by decide +kernel
theorem dX7_holdsFrom_28 : decode cX7_holdsFrom 28 = .ok (.goto 4, 3) := by decide +kernel
theorem dX7_holdsFrom_31 : decode cX7_holdsFrom 31 = .ok (.iconst 0, 1) := by decide +kernel
theorem dX7_holdsFrom_32 : decode cX7_holdsFrom 32 = .ok (.ireturn, 1) := by decide +kernel
theorem dX7_lay_0 : decode cX7_lay 0 = .ok (.aload_n 0, 1) := by decide +kernel
theorem dX7_lay_1 : decode cX7_lay 1 = .ok (.iload_n 1, 1) := by decide +kernel
theorem dX7_lay_2 : decode cX7_lay 2 = .ok (.putfield 15, 3) := by decide +kernel
theorem dX7_lay_5 : decode cX7_lay 5 = .ok (.aload_n 0, 1) := by decide +kernel
theorem dX7_lay_6 : decode cX7_lay 6 = .ok (.iload_n 2, 1) := by decide +kernel
theorem dX7_lay_7 : decode cX7_lay 7 = .ok (.putfield 19, 3) := by decide +kernel
theorem dX7_lay_10 : decode cX7_lay 10 = .ok (.aload_n 0, 1) := by decide +kernel
theorem dX7_lay_11 : decode cX7_lay 11 = .ok (.getfield 9, 3) := by decide +kernel
theorem dX7_lay_14 : decode cX7_lay 14 = .ok (.iconst 0, 1) := by decide +kernel
theorem dX7_lay_15 : decode cX7_lay 15 = .ok (.invokestatic 22, 3) := by decide +kernel
theorem dX7_lay_18 : decode cX7_lay 18 = .ok (.return_, 1) := by decide +kernel
theorem dX7_write_0 : decode cX7_write 0 = .ok (.aload_n 0, 1) := by decide +kernel
theorem dX7_write_1 : decode cX7_write 1 = .ok (.iload_n 1, 1) := by decide +kernel
theorem dX7_write_2 : decode cX7_write 2 = .ok (.invokevirtual 28, 3) := by decide +kernel
theorem dX7_write_5 : decode cX7_write 5 = .ok (.ifCond .ne 4, 3) := by decide +kernel
theorem dX7_write_8 : decode cX7_write 8 = .ok (.return_, 1) := by decide +kernel
theorem dX7_write_9 : decode cX7_write 9 = .ok (.aload_n 0, 1) := by decide +kernel
theorem dX7_write_10 : decode cX7_write 10 = .ok (.getfield 9, 3) := by decide +kernel
theorem dX7_write_13 : decode cX7_write 13 = .ok (.iload_n 1, 1) := by decide +kernel
theorem dX7_write_14 : decode cX7_write 14 = .ok (.aload_n 0, 1) := by decide +kernel
theorem dX7_write_15 : decode cX7_write 15 = .ok (.getfield 15, 3) := by decide +kernel
theorem dX7_write_18 : decode cX7_write 18 = .ok (.bipush 8, 2) := by decide +kernel
theorem dX7_write_20 : decode cX7_write 20 = .ok (.if_icmp .ne 11, 3) := by decide +kernel
theorem dX7_write_23 : decode cX7_write 23 = .ok (.iload_n 2, 1) := by decide +kernel
theorem dX7_write_24 : decode cX7_write 24 = .ok (.sipush 255, 3) := by decide +kernel
theorem dX7_write_27 : decode cX7_write 27 = .ok (.iand, 1) := by decide +kernel
theorem dX7_write_28 : decode cX7_write 28 = .ok (.goto 20, 3) := by decide +kernel
theorem dX7_write_31 : decode cX7_write 31 = .ok (.aload_n 0, 1) := by decide +kernel
theorem dX7_write_32 : decode cX7_write 32 = .ok (.getfield 15, 3) := by decide +kernel
theorem dX7_write_35 : decode cX7_write 35 = .ok (.bipush 16, 2) := by decide +kernel
theorem dX7_write_37 : decode cX7_write 37 = .ok (.if_icmp .ne 10, 3) := by decide +kernel
theorem dX7_write_40 : decode cX7_write 40 = .ok (.iload_n 2, 1) := by decide +kernel
theorem dX7_write_41 : decode cX7_write 41 = .ok (.ldc 32, 2) := by decide +kernel
theorem dX7_write_43 : decode cX7_write 43 = .ok (.iand, 1) := by decide +kernel
theorem dX7_write_44 : decode cX7_write 44 = .ok (.goto 4, 3) := by decide +kernel
theorem dX7_write_47 : decode cX7_write 47 = .ok (.iload_n 2, 1) := by decide +kernel
theorem dX7_write_48 : decode cX7_write 48 = .ok (.iastore, 1) := by decide +kernel
theorem dX7_write_49 : decode cX7_write 49 = .ok (.return_, 1) := by decide +kernel
theorem dX7_readPart_0 : decode cX7_readPart 0 = .ok (.iconst 0, 1) := by decide +kernel
theorem dX7_readPart_1 : decode cX7_readPart 1 = .ok (.istore_n 1, 1) := by decide +kernel
theorem dX7_readPart_2 : decode cX7_readPart 2 = .ok (.iconst 0, 1) := by decide +kernel
theorem dX7_readPart_3 : decode cX7_readPart 3 = .ok (.istore_n 2, 1) := by decide +kernel
theorem dX7_readPart_4 : decode cX7_readPart 4 = .ok (.iload_n 2, 1) := by decide +kernel
theorem dX7_readPart_5 : decode cX7_readPart 5 = .ok (.aload_n 0, 1) := by decide +kernel
theorem dX7_readPart_6 : decode cX7_readPart 6 = .ok (.getfield 19, 3) := by decide +kernel
theorem dX7_readPart_9 : decode cX7_readPart 9 = .ok (.if_icmp .ge 43, 3) := by decide +kernel
theorem dX7_readPart_12 : decode cX7_readPart 12 = .ok (.iload_n 2, 1) := by decide +kernel
theorem dX7_readPart_13 : decode cX7_readPart 13 = .ok (.bipush 40, 2) := by decide +kernel
theorem dX7_readPart_15 : decode cX7_readPart 15 = .ok (.if_icmp .ge 37, 3) := by decide +kernel
theorem dX7_readPart_18 : decode cX7_readPart 18 = .ok (.aload_n 0, 1) := by decide +kernel
theorem dX7_readPart_19 : decode cX7_readPart 19 = .ok (.getfield 9, 3) := by decide +kernel
theorem dX7_readPart_22 : decode cX7_readPart 22 = .ok (.iload_n 2, 1) := by decide +kernel
theorem dX7_readPart_23 : decode cX7_readPart 23 = .ok (.iaload, 1) := by decide +kernel
theorem dX7_readPart_24 : decode cX7_readPart 24 = .ok (.iconst 0, 1) := by decide +kernel
theorem dX7_readPart_25 : decode cX7_readPart 25 = .ok (.bipush 31, 2) := by decide +kernel
theorem dX7_readPart_27 : decode cX7_readPart 27 = .ok (.invokestatic 33, 3) := by decide +kernel
theorem dX7_readPart_30 : decode cX7_readPart 30 = .ok (.ifCond .ne 5, 3) := by decide +kernel
theorem dX7_readPart_33 : decode cX7_readPart 33 = .ok (.iload_n 1, 1) := by decide +kernel
theorem dX7_readPart_34 : decode cX7_readPart 34 = .ok (.ireturn, 1) := by decide +kernel
theorem dX7_readPart_35 : decode cX7_readPart 35 = .ok (.iload_n 1, 1) := by decide +kernel
theorem dX7_readPart_36 : decode cX7_readPart 36 = .ok (.iconst 1, 1) := by decide +kernel
theorem dX7_readPart_37 : decode cX7_readPart 37 = .ok (.aload_n 0, 1) := by decide +kernel
theorem dX7_readPart_38 : decode cX7_readPart 38 = .ok (.getfield 9, 3) := by decide +kernel
theorem dX7_readPart_41 : decode cX7_readPart 41 = .ok (.iload_n 2, 1) := by decide +kernel
theorem dX7_readPart_42 : decode cX7_readPart 42 = .ok (.iaload, 1) := by decide +kernel
theorem dX7_readPart_43 : decode cX7_readPart 43 = .ok (.ishl, 1) := by decide +kernel
theorem dX7_readPart_44 : decode cX7_readPart 44 = .ok (.ior, 1) := by decide +kernel
theorem dX7_readPart_45 : decode cX7_readPart 45 = .ok (.istore_n 1, 1) := by decide +kernel
theorem dX7_readPart_46 : decode cX7_readPart 46 = .ok (.iinc 2 1, 3) := by decide +kernel
theorem dX7_readPart_49 : decode cX7_readPart 49 = .ok (.goto (-45), 3) := by decide +kernel
theorem dX7_readPart_52 : decode cX7_readPart 52 = .ok (.iload_n 1, 1) := by decide +kernel
theorem dX7_readPart_53 : decode cX7_readPart 53 = .ok (.ireturn, 1) := by decide +kernel
theorem dX8_init_0 : decode cX8_init 0 = .ok (.aload_n 0, 1) := by decide +kernel
theorem dX8_init_1 : decode cX8_init 1 = .ok (.invokespecial 3, 3) := by decide +kernel
theorem dX8_init_4 : decode cX8_init 4 = .ok (.aload_n 0, 1) := by decide +kernel
theorem dX8_init_5 : decode cX8_init 5 = .ok (.bipush 40, 2) := by decide +kernel
theorem dX8_init_7 : decode cX8_init 7 = .ok (.newarray .int, 2) := by decide +kernel
theorem dX8_init_9 : decode cX8_init 9 = .ok (.putfield 9, 3) := by decide +kernel
theorem dX8_init_12 : decode cX8_init 12 = .ok (.return_, 1) := by decide +kernel
theorem dX8_raise_0 : decode cX8_raise 0 = .ok (.aload_n 0, 1) := by decide +kernel
theorem dX8_raise_1 : decode cX8_raise 1 = .ok (.iload_n 1, 1) := by decide +kernel
theorem dX8_raise_2 : decode cX8_raise 2 = .ok (.putfield 15, 3) := by decide +kernel
theorem dX8_raise_5 : decode cX8_raise 5 = .ok (.aload_n 0, 1) := by decide +kernel
theorem dX8_raise_6 : decode cX8_raise 6 = .ok (.iload_n 2, 1) := by decide +kernel
theorem dX8_raise_7 : decode cX8_raise 7 = .ok (.putfield 19, 3) := by decide +kernel
theorem dX8_raise_10 : decode cX8_raise 10 = .ok (.aload_n 0, 1) := by decide +kernel
theorem dX8_raise_11 : decode cX8_raise 11 = .ok (.iload_n 3, 1) := by decide +kernel
theorem dX8_raise_12 : decode cX8_raise 12 = .ok (.putfield 22, 3) := by decide +kernel
theorem dX8_raise_15 : decode cX8_raise 15 = .ok (.aload_n 0, 1) := by decide +kernel
theorem dX8_raise_16 : decode cX8_raise 16 = .ok (.iconst 0, 1) := by decide +kernel
theorem dX8_raise_17 : decode cX8_raise 17 = .ok (.putfield 25, 3) := by decide +kernel
theorem dX8_raise_20 : decode cX8_raise 20 = .ok (.aload_n 0, 1) := by decide +kernel
theorem dX8_raise_21 : decode cX8_raise 21 = .ok (.iload 4, 2) := by decide +kernel
theorem dX8_raise_23 : decode cX8_raise 23 = .ok (.iload 5, 2) := by decide +kernel
theorem dX8_raise_25 : decode cX8_raise 25 = .ok (.iconst 0, 1) := by decide +kernel
theorem dX8_raise_26 : decode cX8_raise 26 = .ok (.invokevirtual 28, 3) := by decide +kernel
theorem dX8_raise_29 : decode cX8_raise 29 = .ok (.ireturn, 1) := by decide +kernel
theorem dX8_own_0 : decode cX8_own 0 = .ok (.aload_n 0, 1) := by decide +kernel
theorem dX8_own_1 : decode cX8_own 1 = .ok (.aload_n 0, 1) := by decide +kernel
theorem dX8_own_2 : decode cX8_own 2 = .ok (.getfield 19, 3) := by decide +kernel
theorem dX8_own_5 : decode cX8_own 5 = .ok (.iload_n 1, 1) := by decide +kernel
theorem dX8_own_6 : decode cX8_own 6 = .ok (.iload_n 2, 1) := by decide +kernel
theorem dX8_own_7 : decode cX8_own 7 = .ok (.iload_n 3, 1) := by decide +kernel
theorem dX8_own_8 : decode cX8_own 8 = .ok (.invokevirtual 32, 3) := by decide +kernel
theorem dX8_own_11 : decode cX8_own 11 = .ok (.ireturn, 1) := by decide +kernel
theorem dX8_from_0 : decode cX8_from 0 = .ok (.iload_n 1, 1) := by decide +kernel
theorem dX8_from_1 : decode cX8_from 1 = .ok (.iload_n 2, 1) := by decide +kernel
theorem dX8_from_2 : decode cX8_from 2 = .ok (.invokestatic 36, 3) := by decide +kernel
theorem dX8_from_5 : decode cX8_from 5 = .ok (.istore 5, 2) := by decide +kernel
theorem dX8_from_7 : decode cX8_from 7 = .ok (.iload 5, 2) := by decide +kernel
theorem dX8_from_9 : decode cX8_from 9 = .ok (.ifCond .eq 10, 3) := by decide +kernel
theorem dX8_from_12 : decode cX8_from 12 = .ok (.iload 4, 2) := by decide +kernel
theorem dX8_from_14 : decode cX8_from 14 = .ok (.bipush 40, 2) := by decide +kernel
theorem dX8_from_16 : decode cX8_from 16 = .ok (.if_icmp .lt 5, 3) := by decide +kernel
theorem dX8_from_19 : decode cX8_from 19 = .ok (.iconst 0, 1) := by decide +kernel
theorem dX8_from_20 : decode cX8_from 20 = .ok (.ireturn, 1) := by decide +kernel
theorem dX8_from_21 : decode cX8_from 21 = .ok (.aload_n 0, 1) := by decide +kernel
theorem dX8_from_22 : decode cX8_from 22 = .ok (.iload 5, 2) := by decide +kernel
theorem dX8_from_24 : decode cX8_from 24 = .ok (.invokevirtual 40, 3) := by decide +kernel
theorem dX8_from_27 : decode cX8_from 27 = .ok (.iload 5, 2) := by decide +kernel
theorem dX8_from_29 : decode cX8_from 29 = .ok (.bipush 10, 2) := by decide +kernel
theorem dX8_from_31 : decode cX8_from 31 = .ok (.idiv, 1) := by decide +kernel
theorem dX8_from_32 : decode cX8_from 32 = .ok (.iconst 1, 1) := by decide +kernel
theorem dX8_from_33 : decode cX8_from 33 = .ok (.isub, 1) := by decide +kernel
theorem dX8_from_34 : decode cX8_from 34 = .ok (.invokestatic 44, 3) := by decide +kernel
theorem dX8_from_37 : decode cX8_from 37 = .ok (.istore 6, 2) := by decide +kernel
theorem dX8_from_39 : decode cX8_from 39 = .ok (.iload 4, 2) := by decide +kernel
theorem dX8_from_41 : decode cX8_from 41 = .ok (.iconst 1, 1) := by decide +kernel
theorem dX8_from_42 : decode cX8_from 42 = .ok (.iadd, 1) := by decide +kernel
theorem dX8_from_43 : decode cX8_from 43 = .ok (.istore 7, 2) := by decide +kernel
theorem dX8_from_45 : decode cX8_from 45 = .ok (.iload 5, 2) := by decide +kernel
theorem dX8_from_47 : decode cX8_from 47 = .ok (.lookupswitch 254 #[(10, 97), (11, 104), (12, 115), (13, 122), (20, 140), (30, 160), (40, 173), (50, 185), (60, 198), (70, 218), (71, 234)], 97) := by decide +kernel
theorem dX8_from_144 : decode cX8_from 144 = .ok (.iload_n 3, 1) := by decide +kernel
theorem dX8_from_145 : decode cX8_from 145 = .ok (.aload_n 0, 1) := by decide +kernel
theorem dX8_from_146 : decode cX8_from 146 = .ok (.getfield 15, 3) := by decide +kernel
theorem dX8_from_149 : decode cX8_from 149 = .ok (.iadd, 1) := by decide +kernel
theorem dX8_from_150 : decode cX8_from 150 = .ok (.ireturn, 1) := by decide +kernel
theorem dX8_from_151 : decode cX8_from 151 = .ok (.aload_n 0, 1) := by decide +kernel
theorem dX8_from_152 : decode cX8_from 152 = .ok (.iconst 0, 1) := by decide +kernel
theorem dX8_from_153 : decode cX8_from 153 = .ok (.iload_n 3, 1) := by decide +kernel
theorem dX8_from_154 : decode cX8_from 154 = .ok (.iload 7, 2) := by decide +kernel
theorem dX8_from_156 : decode cX8_from 156 = .ok (.invokevirtual 28, 3) := by decide +kernel
theorem dX8_from_159 : decode cX8_from 159 = .ok (.iconst 2, 1) := by decide +kernel
theorem dX8_from_160 : decode cX8_from 160 = .ok (.imul, 1) := by decide +kernel
theorem dX8_from_161 : decode cX8_from 161 = .ok (.ireturn, 1) := by decide +kernel
theorem dX8_from_162 : decode cX8_from 162 = .ok (.iload_n 3, 1) := by decide +kernel
theorem dX8_from_163 : decode cX8_from 163 = .ok (.aload_n 0, 1) := by decide +kernel
theorem dX8_from_164 : decode cX8_from 164 = .ok (.getfield 22, 3) := by decide +kernel
theorem dX8_from_167 : decode cX8_from 167 = .ok (.isub, 1) := by decide +kernel
theorem dX8_from_168 : decode cX8_from 168 = .ok (.ireturn, 1) := by decide +kernel
theorem dX8_from_169 : decode cX8_from 169 = .ok (.aload_n 0, 1) := by decide +kernel
theorem dX8_from_170 : decode cX8_from 170 = .ok (.iconst 1, 1) := by decide +kernel
theorem dX8_from_171 : decode cX8_from 171 = .ok (.iload_n 3, 1) := by decide +kernel
theorem dX8_from_172 : decode cX8_from 172 = .ok (.iload 7, 2) := by decide +kernel
theorem dX8_from_174 : decode cX8_from 174 = .ok (.invokevirtual 28, 3) := by decide +kernel
theorem dX8_from_177 : decode cX8_from 177 = .ok (.aload_n 0, 1) := by decide +kernel
theorem dX8_from_178 : decode cX8_from 178 = .ok (.iconst 2, 1) := by decide +kernel
theorem dX8_from_179 : decode cX8_from 179 = .ok (.iload_n 3, 1) := by decide +kernel
theorem dX8_from_180 : decode cX8_from 180 = .ok (.iload 7, 2) := by decide +kernel
theorem dX8_from_182 : decode cX8_from 182 = .ok (.invokevirtual 28, 3) := by decide +kernel
theorem dX8_from_185 : decode cX8_from 185 = .ok (.ixor, 1) := by decide +kernel
theorem dX8_from_186 : decode cX8_from 186 = .ok (.ireturn, 1) := by decide +kernel
theorem dX8_from_187 : decode cX8_from 187 = .ok (.aload_n 0, 1) := by decide +kernel
theorem dX8_from_188 : decode cX8_from 188 = .ok (.iload 6, 2) := by decide +kernel
theorem dX8_from_190 : decode cX8_from 190 = .ok (.iconst 1, 1) := by decide +kernel
theorem dX8_from_191 : decode cX8_from 191 = .ok (.iload_n 3, 1) := by decide +kernel
theorem dX8_from_192 : decode cX8_from 192 = .ok (.iload 7, 2) := by decide +kernel
theorem dX8_from_194 : decode cX8_from 194 = .ok (.invokevirtual 32, 3) := by decide +kernel
theorem dX8_from_197 : decode cX8_from 197 = .ok (.aload_n 0, 1) := by decide +kernel
theorem dX8_from_198 : decode cX8_from 198 = .ok (.iconst 2, 1) := by decide +kernel
theorem dX8_from_199 : decode cX8_from 199 = .ok (.iconst 1, 1) := by decide +kernel
theorem dX8_from_200 : decode cX8_from 200 = .ok (.iload 7, 2) := by decide +kernel
theorem dX8_from_202 : decode cX8_from 202 = .ok (.invokevirtual 28, 3) := by decide +kernel
theorem dX8_from_205 : decode cX8_from 205 = .ok (.isub, 1) := by decide +kernel
theorem dX8_from_206 : decode cX8_from 206 = .ok (.ireturn, 1) := by decide +kernel
theorem dX8_from_207 : decode cX8_from 207 = .ok (.aload_n 0, 1) := by decide +kernel
theorem dX8_from_208 : decode cX8_from 208 = .ok (.iload 6, 2) := by decide +kernel
theorem dX8_from_210 : decode cX8_from 210 = .ok (.iconst 0, 1) := by decide +kernel
theorem dX8_from_211 : decode cX8_from 211 = .ok (.iload_n 3, 1) := by decide +kernel
theorem dX8_from_212 : decode cX8_from 212 = .ok (.iload 7, 2) := by decide +kernel
theorem dX8_from_214 : decode cX8_from 214 = .ok (.invokevirtual 32, 3) := by decide +kernel
theorem dX8_from_217 : decode cX8_from 217 = .ok (.iconst 3, 1) := by decide +kernel
theorem dX8_from_218 : decode cX8_from 218 = .ok (.imul, 1) := by decide +kernel
theorem dX8_from_219 : decode cX8_from 219 = .ok (.ireturn, 1) := by decide +kernel
theorem dX8_from_220 : decode cX8_from 220 = .ok (.aload_n 0, 1) := by decide +kernel
theorem dX8_from_221 : decode cX8_from 221 = .ok (.iload 6, 2) := by decide +kernel
theorem dX8_from_223 : decode cX8_from 223 = .ok (.iconst 2, 1) := by decide +kernel
theorem dX8_from_224 : decode cX8_from 224 = .ok (.iload_n 3, 1) := by decide +kernel
theorem dX8_from_225 : decode cX8_from 225 = .ok (.iload 7, 2) := by decide +kernel
theorem dX8_from_227 : decode cX8_from 227 = .ok (.invokevirtual 32, 3) := by decide +kernel
theorem dX8_from_230 : decode cX8_from 230 = .ok (.ineg, 1) := by decide +kernel
theorem dX8_from_231 : decode cX8_from 231 = .ok (.ireturn, 1) := by decide +kernel
theorem dX8_from_232 : decode cX8_from 232 = .ok (.aload_n 0, 1) := by decide +kernel
theorem dX8_from_233 : decode cX8_from 233 = .ok (.iload 6, 2) := by decide +kernel
theorem dX8_from_235 : decode cX8_from 235 = .ok (.iconst 1, 1) := by decide +kernel
theorem dX8_from_236 : decode cX8_from 236 = .ok (.iload_n 3, 1) := by decide +kernel
theorem dX8_from_237 : decode cX8_from 237 = .ok (.iconst 1, 1) := by decide +kernel
theorem dX8_from_238 : decode cX8_from 238 = .ok (.iadd, 1) := by decide +kernel
theorem dX8_from_239 : decode cX8_from 239 = .ok (.iload 7, 2) := by decide +kernel
theorem dX8_from_241 : decode cX8_from 241 = .ok (.invokevirtual 32, 3) := by decide +kernel
theorem dX8_from_244 : decode cX8_from 244 = .ok (.ireturn, 1) := by decide +kernel
theorem dX8_from_245 : decode cX8_from 245 = .ok (.aload_n 0, 1) := by decide +kernel
theorem dX8_from_246 : decode cX8_from 246 = .ok (.iload 6, 2) := by decide +kernel
theorem dX8_from_248 : decode cX8_from 248 = .ok (.iconst 3, 1) := by decide +kernel
theorem dX8_from_249 : decode cX8_from 249 = .ok (.iload_n 3, 1) := by decide +kernel
theorem dX8_from_250 : decode cX8_from 250 = .ok (.iload 7, 2) := by decide +kernel
theorem dX8_from_252 : decode cX8_from 252 = .ok (.invokevirtual 32, 3) := by decide +kernel
theorem dX8_from_255 : decode cX8_from 255 = .ok (.aload_n 0, 1) := by decide +kernel
theorem dX8_from_256 : decode cX8_from 256 = .ok (.iconst 0, 1) := by decide +kernel
theorem dX8_from_257 : decode cX8_from 257 = .ok (.iconst 2, 1) := by decide +kernel
theorem dX8_from_258 : decode cX8_from 258 = .ok (.iload 7, 2) := by decide +kernel
theorem dX8_from_260 : decode cX8_from 260 = .ok (.invokevirtual 28, 3) := by decide +kernel
theorem dX8_from_263 : decode cX8_from 263 = .ok (.isub, 1) := by decide +kernel
theorem dX8_from_264 : decode cX8_from 264 = .ok (.ireturn, 1) := by decide +kernel
theorem dX8_from_265 : decode cX8_from 265 = .ok (.aload_n 0, 1) := by decide +kernel
theorem dX8_from_266 : decode cX8_from 266 = .ok (.iload 6, 2) := by decide +kernel
theorem dX8_from_268 : decode cX8_from 268 = .ok (.iconst 2, 1) := by decide +kernel
theorem dX8_from_269 : decode cX8_from 269 = .ok (.iload_n 3, 1) := by decide +kernel
theorem dX8_from_270 : decode cX8_from 270 = .ok (.iload 7, 2) := by decide +kernel
theorem dX8_from_272 : decode cX8_from 272 = .ok (.invokevirtual 32, 3) := by decide +kernel
theorem dX8_from_275 : decode cX8_from 275 = .ok (.aload_n 0, 1) := by decide +kernel
theorem dX8_from_276 : decode cX8_from 276 = .ok (.getfield 15, 3) := by decide +kernel
theorem dX8_from_279 : decode cX8_from 279 = .ok (.ixor, 1) := by decide +kernel
theorem dX8_from_280 : decode cX8_from 280 = .ok (.ireturn, 1) := by decide +kernel
theorem dX8_from_281 : decode cX8_from 281 = .ok (.aload_n 0, 1) := by decide +kernel
theorem dX8_from_282 : decode cX8_from 282 = .ok (.iconst 1, 1) := by decide +kernel
theorem dX8_from_283 : decode cX8_from 283 = .ok (.iload_n 3, 1) := by decide +kernel
theorem dX8_from_284 : decode cX8_from 284 = .ok (.iload 7, 2) := by decide +kernel
theorem dX8_from_286 : decode cX8_from 286 = .ok (.invokevirtual 28, 3) := by decide +kernel
theorem dX8_from_289 : decode cX8_from 289 = .ok (.aload_n 0, 1) := by decide +kernel
theorem dX8_from_290 : decode cX8_from 290 = .ok (.iload 6, 2) := by decide +kernel
theorem dX8_from_292 : decode cX8_from 292 = .ok (.iconst 3, 1) := by decide +kernel
theorem dX8_from_293 : decode cX8_from 293 = .ok (.iload_n 3, 1) := by decide +kernel
theorem dX8_from_294 : decode cX8_from 294 = .ok (.iload 7, 2) := by decide +kernel
theorem dX8_from_296 : decode cX8_from 296 = .ok (.invokevirtual 32, 3) := by decide +kernel
theorem dX8_from_299 : decode cX8_from 299 = .ok (.isub, 1) := by decide +kernel
theorem dX8_from_300 : decode cX8_from 300 = .ok (.ireturn, 1) := by decide +kernel
theorem dX8_from_301 : decode cX8_from 301 = .ok (.iconst 0, 1) := by decide +kernel
theorem dX8_from_302 : decode cX8_from 302 = .ok (.ireturn, 1) := by decide +kernel
theorem dX8_bodyFrom_0 : decode cX8_bodyFrom 0 = .ok (.iload_n 0, 1) := by decide +kernel
theorem dX8_bodyFrom_1 : decode cX8_bodyFrom 1 = .ok (.istore_n 2, 1) := by decide +kernel
theorem dX8_bodyFrom_2 : decode cX8_bodyFrom 2 = .ok (.iconst 0, 1) := by decide +kernel
theorem dX8_bodyFrom_3 : decode cX8_bodyFrom 3 = .ok (.istore_n 3, 1) := by decide +kernel
theorem dX8_bodyFrom_4 : decode cX8_bodyFrom 4 = .ok (.iload_n 3, 1) := by decide +kernel
theorem dX8_bodyFrom_5 : decode cX8_bodyFrom 5 = .ok (.getstatic 48, 3) := by decide +kernel
theorem dX8_bodyFrom_8 : decode cX8_bodyFrom 8 = .ok (.arraylength, 1) := by decide +kernel
theorem dX8_bodyFrom_9 : decode cX8_bodyFrom 9 = .ok (.if_icmp .ge 55, 3) := by decide +kernel
theorem dX8_bodyFrom_12 : decode cX8_bodyFrom 12 = .ok (.iload_n 2, 1) := by decide +kernel
theorem dX8_bodyFrom_13 : decode cX8_bodyFrom 13 = .ok (.ifCond .lt 51, 3) := by decide +kernel
theorem dX8_bodyFrom_16 : decode cX8_bodyFrom 16 = .ok (.iload_n 2, 1) := by decide +kernel
theorem dX8_bodyFrom_17 : decode cX8_bodyFrom 17 = .ok (.iconst 4, 1) := by decide +kernel
theorem dX8_bodyFrom_18 : decode cX8_bodyFrom 18 = .ok (.imul, 1) := by decide +kernel
theorem dX8_bodyFrom_19 : decode cX8_bodyFrom 19 = .ok (.iload_n 1, 1) := by decide +kernel
theorem dX8_bodyFrom_20 : decode cX8_bodyFrom 20 = .ok (.iadd, 1) := by decide +kernel
theorem dX8_bodyFrom_21 : decode cX8_bodyFrom 21 = .ok (.istore 4, 2) := by decide +kernel
theorem dX8_bodyFrom_23 : decode cX8_bodyFrom 23 = .ok (.iload 4, 2) := by decide +kernel
theorem dX8_bodyFrom_25 : decode cX8_bodyFrom 25 = .ok (.ifCond .lt 28, 3) := by decide +kernel
theorem dX8_bodyFrom_28 : decode cX8_bodyFrom 28 = .ok (.iload 4, 2) := by decide +kernel
theorem dX8_bodyFrom_30 : decode cX8_bodyFrom 30 = .ok (.getstatic 51, 3) := by decide +kernel
theorem dX8_bodyFrom_33 : decode cX8_bodyFrom 33 = .ok (.arraylength, 1) := by decide +kernel
theorem dX8_bodyFrom_34 : decode cX8_bodyFrom 34 = .ok (.if_icmp .ge 19, 3) := by decide +kernel
theorem dX8_bodyFrom_37 : decode cX8_bodyFrom 37 = .ok (.getstatic 51, 3) := by decide +kernel
theorem dX8_bodyFrom_40 : decode cX8_bodyFrom 40 = .ok (.iload 4, 2) := by decide +kernel
theorem dX8_bodyFrom_42 : decode cX8_bodyFrom 42 = .ok (.iaload, 1) := by decide +kernel
theorem dX8_bodyFrom_43 : decode cX8_bodyFrom 43 = .ok (.ifCond .eq 10, 3) := by decide +kernel
theorem dX8_bodyFrom_46 : decode cX8_bodyFrom 46 = .ok (.getstatic 51, 3) := by decide +kernel
theorem dX8_bodyFrom_49 : decode cX8_bodyFrom 49 = .ok (.iload 4, 2) := by decide +kernel
theorem dX8_bodyFrom_51 : decode cX8_bodyFrom 51 = .ok (.iaload, 1) := by decide +kernel
theorem dX8_bodyFrom_52 : decode cX8_bodyFrom 52 = .ok (.ireturn, 1) := by decide +kernel
theorem dX8_bodyFrom_53 : decode cX8_bodyFrom 53 = .ok (.iload_n 2, 1) := by decide +kernel
theorem dX8_bodyFrom_54 : decode cX8_bodyFrom 54 = .ok (.invokestatic 44, 3) := by decide +kernel
theorem dX8_bodyFrom_57 : decode cX8_bodyFrom 57 = .ok (.istore_n 2, 1) := by decide +kernel
theorem dX8_bodyFrom_58 : decode cX8_bodyFrom 58 = .ok (.iinc 3 1, 3) := by decide +kernel
theorem dX8_bodyFrom_61 : decode cX8_bodyFrom 61 = .ok (.goto (-57), 3) := by decide +kernel
theorem dX8_bodyFrom_64 : decode cX8_bodyFrom 64 = .ok (.iconst 0, 1) := by decide +kernel
theorem dX8_bodyFrom_65 : decode cX8_bodyFrom 65 = .ok (.ireturn, 1) := by decide +kernel
theorem dX8_begin_0 : decode cX8_begin 0 = .ok (.aload_n 0, 1) := by decide +kernel
theorem dX8_begin_1 : decode cX8_begin 1 = .ok (.getfield 25, 3) := by decide +kernel
theorem dX8_begin_4 : decode cX8_begin 4 = .ok (.ifCond .lt 12, 3) := by decide +kernel
theorem dX8_begin_7 : decode cX8_begin 7 = .ok (.aload_n 0, 1) := by decide +kernel
theorem dX8_begin_8 : decode cX8_begin 8 = .ok (.getfield 25, 3) := by decide +kernel
theorem dX8_begin_11 : decode cX8_begin 11 = .ok (.bipush 40, 2) := by decide +kernel
theorem dX8_begin_13 : decode cX8_begin 13 = .ok (.if_icmp .lt 4, 3) := by decide +kernel
theorem dX8_begin_16 : decode cX8_begin 16 = .ok (.return_, 1) := by decide +kernel
theorem dX8_begin_17 : decode cX8_begin 17 = .ok (.aload_n 0, 1) := by decide +kernel
theorem dX8_begin_18 : decode cX8_begin 18 = .ok (.getfield 9, 3) := by decide +kernel
theorem dX8_begin_21 : decode cX8_begin 21 = .ok (.aload_n 0, 1) := by decide +kernel
theorem dX8_begin_22 : decode cX8_begin 22 = .ok (.getfield 25, 3) := by decide +kernel
theorem dX8_begin_25 : decode cX8_begin 25 = .ok (.iload_n 1, 1) := by decide +kernel
theorem dX8_begin_26 : decode cX8_begin 26 = .ok (.iastore, 1) := by decide +kernel
theorem dX8_begin_27 : decode cX8_begin 27 = .ok (.aload_n 0, 1) := by decide +kernel
theorem dX8_begin_28 : decode cX8_begin 28 = .ok (.dup, 1) := by decide +kernel
theorem dX8_begin_29 : decode cX8_begin 29 = .ok (.getfield 25, 3) := by decide +kernel
theorem dX8_begin_32 : decode cX8_begin 32 = .ok (.iconst 1, 1) := by decide +kernel
theorem dX8_begin_33 : decode cX8_begin 33 = .ok (.iadd, 1) := by decide +kernel
theorem dX8_begin_34 : decode cX8_begin 34 = .ok (.putfield 25, 3) := by decide +kernel
theorem dX8_begin_37 : decode cX8_begin 37 = .ok (.return_, 1) := by decide +kernel
theorem dX9_init_0 : decode cX9_init 0 = .ok (.aload_n 0, 1) := by decide +kernel
theorem dX9_init_1 : decode cX9_init 1 = .ok (.invokespecial 1, 3) := by decide +kernel
theorem dX9_init_4 : decode cX9_init 4 = .ok (.aload_n 0, 1) := by decide +kernel
theorem dX9_init_5 : decode cX9_init 5 = .ok (.new 7, 3) := by decide +kernel
theorem dX9_init_8 : decode cX9_init 8 = .ok (.dup, 1) := by decide +kernel
theorem dX9_init_9 : decode cX9_init 9 = .ok (.invokespecial 9, 3) := by decide +kernel
theorem dX9_init_12 : decode cX9_init 12 = .ok (.putfield 10, 3) := by decide +kernel
theorem dX9_init_15 : decode cX9_init 15 = .ok (.aload_n 0, 1) := by decide +kernel
theorem dX9_init_16 : decode cX9_init 16 = .ok (.new 16, 3) := by decide +kernel
theorem dX9_init_19 : decode cX9_init 19 = .ok (.dup, 1) := by decide +kernel
theorem dX9_init_20 : decode cX9_init 20 = .ok (.invokespecial 18, 3) := by decide +kernel
theorem dX9_init_23 : decode cX9_init 23 = .ok (.putfield 19, 3) := by decide +kernel
theorem dX9_init_26 : decode cX9_init 26 = .ok (.aload_n 0, 1) := by decide +kernel
theorem dX9_init_27 : decode cX9_init 27 = .ok (.new 23, 3) := by decide +kernel
theorem dX9_init_30 : decode cX9_init 30 = .ok (.dup, 1) := by decide +kernel
theorem dX9_init_31 : decode cX9_init 31 = .ok (.invokespecial 25, 3) := by decide +kernel
theorem dX9_init_34 : decode cX9_init 34 = .ok (.putfield 26, 3) := by decide +kernel
theorem dX9_init_37 : decode cX9_init 37 = .ok (.aload_n 0, 1) := by decide +kernel
theorem dX9_init_38 : decode cX9_init 38 = .ok (.new 7, 3) := by decide +kernel
theorem dX9_init_41 : decode cX9_init 41 = .ok (.dup, 1) := by decide +kernel
theorem dX9_init_42 : decode cX9_init 42 = .ok (.invokespecial 9, 3) := by decide +kernel
theorem dX9_init_45 : decode cX9_init 45 = .ok (.putfield 30, 3) := by decide +kernel
theorem dX9_init_48 : decode cX9_init 48 = .ok (.aload_n 0, 1) := by decide +kernel
theorem dX9_init_49 : decode cX9_init 49 = .ok (.new 16, 3) := by decide +kernel
theorem dX9_init_52 : decode cX9_init 52 = .ok (.dup, 1) := by decide +kernel
theorem dX9_init_53 : decode cX9_init 53 = .ok (.invokespecial 18, 3) := by decide +kernel
theorem dX9_init_56 : decode cX9_init 56 = .ok (.putfield 33, 3) := by decide +kernel
theorem dX9_init_59 : decode cX9_init 59 = .ok (.aload_n 0, 1) := by decide +kernel
theorem dX9_init_60 : decode cX9_init 60 = .ok (.new 23, 3) := by decide +kernel
theorem dX9_init_63 : decode cX9_init 63 = .ok (.dup, 1) := by decide +kernel
theorem dX9_init_64 : decode cX9_init 64 = .ok (.invokespecial 25, 3) := by decide +kernel
theorem dX9_init_67 : decode cX9_init 67 = .ok (.putfield 36, 3) := by decide +kernel
theorem dX9_init_70 : decode cX9_init 70 = .ok (.aload_n 0, 1) := by decide +kernel
theorem dX9_init_71 : decode cX9_init 71 = .ok (.iconst 4, 1) := by decide +kernel
theorem dX9_init_72 : decode cX9_init 72 = .ok (.anewarray 39, 3) := by decide +kernel
theorem dX9_init_75 : decode cX9_init 75 = .ok (.dup, 1) := by decide +kernel
theorem dX9_init_76 : decode cX9_init 76 = .ok (.iconst 0, 1) := by decide +kernel
theorem dX9_init_77 : decode cX9_init 77 = .ok (.new 39, 3) := by decide +kernel
theorem dX9_init_80 : decode cX9_init 80 = .ok (.dup, 1) := by decide +kernel
theorem dX9_init_81 : decode cX9_init 81 = .ok (.invokespecial 41, 3) := by decide +kernel
theorem dX9_init_84 : decode cX9_init 84 = .ok (.aastore, 1) := by decide +kernel
theorem dX9_init_85 : decode cX9_init 85 = .ok (.dup, 1) := by decide +kernel
theorem dX9_init_86 : decode cX9_init 86 = .ok (.iconst 1, 1) := by decide +kernel
theorem dX9_init_87 : decode cX9_init 87 = .ok (.new 39, 3) := by decide +kernel
theorem dX9_init_90 : decode cX9_init 90 = .ok (.dup, 1) := by decide +kernel
theorem dX9_init_91 : decode cX9_init 91 = .ok (.invokespecial 41, 3) := by decide +kernel
theorem dX9_init_94 : decode cX9_init 94 = .ok (.aastore, 1) := by decide +kernel
theorem dX9_init_95 : decode cX9_init 95 = .ok (.dup, 1) := by decide +kernel
theorem dX9_init_96 : decode cX9_init 96 = .ok (.iconst 2, 1) := by decide +kernel
theorem dX9_init_97 : decode cX9_init 97 = .ok (.new 39, 3) := by decide +kernel
theorem dX9_init_100 : decode cX9_init 100 = .ok (.dup, 1) := by decide +kernel
theorem dX9_init_101 : decode cX9_init 101 = .ok (.invokespecial 41, 3) := by decide +kernel
theorem dX9_init_104 : decode cX9_init 104 = .ok (.aastore, 1) := by decide +kernel
theorem dX9_init_105 : decode cX9_init 105 = .ok (.dup, 1) := by decide +kernel
theorem dX9_init_106 : decode cX9_init 106 = .ok (.iconst 3, 1) := by decide +kernel
theorem dX9_init_107 : decode cX9_init 107 = .ok (.new 39, 3) := by decide +kernel
theorem dX9_init_110 : decode cX9_init 110 = .ok (.dup, 1) := by decide +kernel
theorem dX9_init_111 : decode cX9_init 111 = .ok (.invokespecial 41, 3) := by decide +kernel
theorem dX9_init_114 : decode cX9_init 114 = .ok (.aastore, 1) := by decide +kernel
theorem dX9_init_115 : decode cX9_init 115 = .ok (.putfield 42, 3) := by decide +kernel
theorem dX9_init_118 : decode cX9_init 118 = .ok (.aload_n 0, 1) := by decide +kernel
theorem dX9_init_119 : decode cX9_init 119 = .ok (.new 46, 3) := by decide +kernel
theorem dX9_init_122 : decode cX9_init 122 = .ok (.dup, 1) := by decide +kernel
theorem dX9_init_123 : decode cX9_init 123 = .ok (.invokespecial 48, 3) := by decide +kernel
theorem dX9_init_126 : decode cX9_init 126 = .ok (.putfield 49, 3) := by decide +kernel
theorem dX9_init_129 : decode cX9_init 129 = .ok (.aload_n 0, 1) := by decide +kernel
theorem dX9_init_130 : decode cX9_init 130 = .ok (.bipush 6, 2) := by decide +kernel
theorem dX9_init_132 : decode cX9_init 132 = .ok (.newarray .int, 2) := by decide +kernel
theorem dX9_init_134 : decode cX9_init 134 = .ok (.putfield 53, 3) := by decide +kernel
theorem dX9_init_137 : decode cX9_init 137 = .ok (.aload_n 0, 1) := by decide +kernel
theorem dX9_init_138 : decode cX9_init 138 = .ok (.new 57, 3) := by decide +kernel
theorem dX9_init_141 : decode cX9_init 141 = .ok (.dup, 1) := by decide +kernel
theorem dX9_init_142 : decode cX9_init 142 = .ok (.invokespecial 59, 3) := by decide +kernel
theorem dX9_init_145 : decode cX9_init 145 = .ok (.putfield 60, 3) := by decide +kernel
theorem dX9_init_148 : decode cX9_init 148 = .ok (.aload_n 0, 1) := by decide +kernel
theorem dX9_init_149 : decode cX9_init 149 = .ok (.new 16, 3) := by decide +kernel
theorem dX9_init_152 : decode cX9_init 152 = .ok (.dup, 1) := by decide +kernel
theorem dX9_init_153 : decode cX9_init 153 = .ok (.invokespecial 18, 3) := by decide +kernel
theorem dX9_init_156 : decode cX9_init 156 = .ok (.putfield 64, 3) := by decide +kernel
theorem dX9_init_159 : decode cX9_init 159 = .ok (.aload_n 0, 1) := by decide +kernel
theorem dX9_init_160 : decode cX9_init 160 = .ok (.new 67, 3) := by decide +kernel
theorem dX9_init_163 : decode cX9_init 163 = .ok (.dup, 1) := by decide +kernel
theorem dX9_init_164 : decode cX9_init 164 = .ok (.invokespecial 69, 3) := by decide +kernel
theorem dX9_init_167 : decode cX9_init 167 = .ok (.putfield 70, 3) := by decide +kernel
theorem dX9_init_170 : decode cX9_init 170 = .ok (.aload_n 0, 1) := by decide +kernel
theorem dX9_init_171 : decode cX9_init 171 = .ok (.bipush 64, 2) := by decide +kernel
theorem dX9_init_173 : decode cX9_init 173 = .ok (.newarray .int, 2) := by decide +kernel
theorem dX9_init_175 : decode cX9_init 175 = .ok (.putfield 74, 3) := by decide +kernel
theorem dX9_init_178 : decode cX9_init 178 = .ok (.return_, 1) := by decide +kernel
theorem dX9_tide_0 : decode cX9_tide 0 = .ok (.iload_n 1, 1) := by decide +kernel
theorem dX9_tide_1 : decode cX9_tide 1 = .ok (.ifCond .lt 17, 3) := by decide +kernel
theorem dX9_tide_4 : decode cX9_tide 4 = .ok (.iload_n 1, 1) := by decide +kernel
theorem dX9_tide_5 : decode cX9_tide 5 = .ok (.iconst 4, 1) := by decide +kernel
theorem dX9_tide_6 : decode cX9_tide 6 = .ok (.if_icmp .ge 12, 3) := by decide +kernel
theorem dX9_tide_9 : decode cX9_tide 9 = .ok (.iload_n 2, 1) := by decide +kernel
theorem dX9_tide_10 : decode cX9_tide 10 = .ok (.iconst 0, 1) := by decide +kernel
theorem dX9_tide_11 : decode cX9_tide 11 = .ok (.iconst 4, 1) := by decide +kernel
theorem dX9_tide_12 : decode cX9_tide 12 = .ok (.invokestatic 77, 3) := by decide +kernel
theorem dX9_tide_15 : decode cX9_tide 15 = .ok (.ifCond .ne 9, 3) := by decide +kernel
theorem dX9_tide_18 : decode cX9_tide 18 = .ok (.aload_n 0, 1) := by decide +kernel
theorem dX9_tide_19 : decode cX9_tide 19 = .ok (.iconst 1, 1) := by decide +kernel
theorem dX9_tide_20 : decode cX9_tide 20 = .ok (.invokevirtual 81, 3) := by decide +kernel
theorem dX9_tide_23 : decode cX9_tide 23 = .ok (.ireturn, 1) := by decide +kernel
theorem dX9_tide_24 : decode cX9_tide 24 = .ok (.aload_n 0, 1) := by decide +kernel
theorem dX9_tide_25 : decode cX9_tide 25 = .ok (.getfield 10, 3) := by decide +kernel
theorem dX9_tide_28 : decode cX9_tide 28 = .ok (.getfield 85, 3) := by decide +kernel
theorem dX9_tide_31 : decode cX9_tide 31 = .ok (.iload_n 1, 1) := by decide +kernel
theorem dX9_tide_32 : decode cX9_tide 32 = .ok (.iaload, 1) := by decide +kernel
theorem dX9_tide_33 : decode cX9_tide 33 = .ok (.istore_n 3, 1) := by decide +kernel
theorem dX9_tide_34 : decode cX9_tide 34 = .ok (.aload_n 0, 1) := by decide +kernel
theorem dX9_tide_35 : decode cX9_tide 35 = .ok (.getfield 10, 3) := by decide +kernel
theorem dX9_tide_38 : decode cX9_tide 38 = .ok (.getfield 85, 3) := by decide +kernel
theorem dX9_tide_41 : decode cX9_tide 41 = .ok (.iload_n 1, 1) := by decide +kernel
theorem dX9_tide_42 : decode cX9_tide 42 = .ok (.iload_n 2, 1) := by decide +kernel
theorem dX9_tide_43 : decode cX9_tide 43 = .ok (.iastore, 1) := by decide +kernel
theorem dX9_tide_44 : decode cX9_tide 44 = .ok (.iload_n 3, 1) := by decide +kernel
theorem dX9_tide_45 : decode cX9_tide 45 = .ok (.ireturn, 1) := by decide +kernel
theorem dX9_speed_0 : decode cX9_speed 0 = .ok (.iload_n 1, 1) := by decide +kernel
theorem dX9_speed_1 : decode cX9_speed 1 = .ok (.iconst 1, 1) := by decide +kernel
theorem dX9_speed_2 : decode cX9_speed 2 = .ok (.bipush 9, 2) := by decide +kernel
theorem dX9_speed_4 : decode cX9_speed 4 = .ok (.invokestatic 77, 3) := by decide +kernel
theorem dX9_speed_7 : decode cX9_speed 7 = .ok (.ifCond .ne 9, 3) := by decide +kernel
theorem dX9_speed_10 : decode cX9_speed 10 = .ok (.aload_n 0, 1) := by decide +kernel
theorem dX9_speed_11 : decode cX9_speed 11 = .ok (.iconst 1, 1) := by decide +kernel
theorem dX9_speed_12 : decode cX9_speed 12 = .ok (.invokevirtual 81, 3) := by decide +kernel
theorem dX9_speed_15 : decode cX9_speed 15 = .ok (.ireturn, 1) := by decide +kernel
theorem dX9_speed_16 : decode cX9_speed 16 = .ok (.aload_n 0, 1) := by decide +kernel
theorem dX9_speed_17 : decode cX9_speed 17 = .ok (.getfield 10, 3) := by decide +kernel
theorem dX9_speed_20 : decode cX9_speed 20 = .ok (.getfield 88, 3) := by decide +kernel
theorem dX9_speed_23 : decode cX9_speed 23 = .ok (.istore_n 2, 1) := by decide +kernel
theorem dX9_speed_24 : decode cX9_speed 24 = .ok (.aload_n 0, 1) := by decide +kernel
theorem dX9_speed_25 : decode cX9_speed 25 = .ok (.getfield 10, 3) := by decide +kernel
theorem dX9_speed_28 : decode cX9_speed 28 = .ok (.iload_n 1, 1) := by decide +kernel
theorem dX9_speed_29 : decode cX9_speed 29 = .ok (.putfield 88, 3) := by decide +kernel
theorem dX9_speed_32 : decode cX9_speed 32 = .ok (.iload_n 2, 1) := by decide +kernel
theorem dX9_speed_33 : decode cX9_speed 33 = .ok (.ireturn, 1) := by decide +kernel
theorem dX9_boat_0 : decode cX9_boat 0 = .ok (.iload_n 1, 1) := by decide +kernel
theorem dX9_boat_1 : decode cX9_boat 1 = .ok (.invokestatic 92, 3) := by decide +kernel
theorem dX9_boat_4 : decode cX9_boat 4 = .ok (.ifCond .eq 10, 3) := by decide +kernel
theorem dX9_boat_7 : decode cX9_boat 7 = .ok (.iload_n 2, 1) := by decide +kernel
theorem dX9_boat_8 : decode cX9_boat 8 = .ok (.invokestatic 96, 3) := by decide +kernel
theorem dX9_boat_11 : decode cX9_boat 11 = .ok (.ifCond .ne 9, 3) := by decide +kernel
theorem dX9_boat_14 : decode cX9_boat 14 = .ok (.aload_n 0, 1) := by decide +kernel
theorem dX9_boat_15 : decode cX9_boat 15 = .ok (.iconst 1, 1) := by decide +kernel
theorem dX9_boat_16 : decode cX9_boat 16 = .ok (.invokevirtual 81, 3) := by decide +kernel
theorem dX9_boat_19 : decode cX9_boat 19 = .ok (.ireturn, 1) := by decide +kernel
theorem dX9_boat_20 : decode cX9_boat 20 = .ok (.aload_n 0, 1) := by decide +kernel
theorem dX9_boat_21 : decode cX9_boat 21 = .ok (.getfield 19, 3) := by decide +kernel
theorem dX9_boat_24 : decode cX9_boat 24 = .ok (.getfield 99, 3) := by decide +kernel
theorem dX9_boat_27 : decode cX9_boat 27 = .ok (.getfield 103, 3) := by decide +kernel
theorem dX9_boat_30 : decode cX9_boat 30 = .ok (.bipush 9, 2) := by decide +kernel
theorem dX9_boat_32 : decode cX9_boat 32 = .ok (.if_icmp .lt 9, 3) := by decide +kernel
theorem dX9_boat_35 : decode cX9_boat 35 = .ok (.aload_n 0, 1) := by decide +kernel
theorem dX9_boat_36 : decode cX9_boat 36 = .ok (.iconst 4, 1) := by decide +kernel
theorem dX9_boat_37 : decode cX9_boat 37 = .ok (.invokevirtual 81, 3) := by decide +kernel
theorem dX9_boat_40 : decode cX9_boat 40 = .ok (.ireturn, 1) := by decide +kernel
theorem dX9_boat_41 : decode cX9_boat 41 = .ok (.aload_n 0, 1) := by decide +kernel
theorem dX9_boat_42 : decode cX9_boat 42 = .ok (.getfield 19, 3) := by decide +kernel
theorem dX9_boat_45 : decode cX9_boat 45 = .ok (.getfield 99, 3) := by decide +kernel
theorem dX9_boat_48 : decode cX9_boat 48 = .ok (.iload_n 1, 1) := by decide +kernel
theorem dX9_boat_49 : decode cX9_boat 49 = .ok (.iload_n 2, 1) := by decide +kernel
theorem dX9_boat_50 : decode cX9_boat 50 = .ok (.invokevirtual 108, 3) := by decide +kernel
theorem dX9_boat_53 : decode cX9_boat 53 = .ok (.ireturn, 1) := by decide +kernel
theorem dX9_ofBoat_0 : decode cX9_ofBoat 0 = .ok (.aload_n 0, 1) := by decide +kernel
theorem dX9_ofBoat_1 : decode cX9_ofBoat 1 = .ok (.getfield 19, 3) := by decide +kernel
theorem dX9_ofBoat_4 : decode cX9_ofBoat 4 = .ok (.getfield 99, 3) := by decide +kernel
theorem dX9_ofBoat_7 : decode cX9_ofBoat 7 = .ok (.astore_n 3, 1) := by decide +kernel
theorem dX9_ofBoat_8 : decode cX9_ofBoat 8 = .ok (.aload_n 3, 1) := by decide +kernel
theorem dX9_ofBoat_9 : decode cX9_ofBoat 9 = .ok (.iload_n 1, 1) := by decide +kernel
theorem dX9_ofBoat_10 : decode cX9_ofBoat 10 = .ok (.invokevirtual 112, 3) := by decide +kernel
theorem dX9_ofBoat_13 : decode cX9_ofBoat 13 = .ok (.ifCond .eq 12, 3) := by decide +kernel
theorem dX9_ofBoat_16 : decode cX9_ofBoat 16 = .ok (.iload_n 2, 1) := by decide +kernel
theorem dX9_ofBoat_17 : decode cX9_ofBoat 17 = .ok (.iconst 0, 1) := by decide +kernel
theorem dX9_ofBoat_18 : decode cX9_ofBoat 18 = .ok (.iconst 4, 1) := by decide +kernel
theorem dX9_ofBoat_19 : decode cX9_ofBoat 19 = .ok (.invokestatic 77, 3) := by decide +kernel
theorem dX9_ofBoat_22 : decode cX9_ofBoat 22 = .ok (.ifCond .ne 9, 3) := by decide +kernel
theorem dX9_ofBoat_25 : decode cX9_ofBoat 25 = .ok (.aload_n 0, 1) := by decide +kernel
theorem dX9_ofBoat_26 : decode cX9_ofBoat 26 = .ok (.iconst 1, 1) := by decide +kernel
theorem dX9_ofBoat_27 : decode cX9_ofBoat 27 = .ok (.invokevirtual 81, 3) := by decide +kernel
theorem dX9_ofBoat_30 : decode cX9_ofBoat 30 = .ok (.ireturn, 1) := by decide +kernel
theorem dX9_ofBoat_31 : decode cX9_ofBoat 31 = .ok (.iload_n 2, 1) := by decide +kernel
theorem dX9_ofBoat_32 : decode cX9_ofBoat 32 = .ok (.tableswitch 60 0 3 #[32, 39, 46, 53], 32) := by decide +kernel
theorem dX9_ofBoat_64 : decode cX9_ofBoat 64 = .ok (.aload_n 3, 1) := by decide +kernel
theorem dX9_ofBoat_65 : decode cX9_ofBoat 65 = .ok (.getfield 115, 3) := by decide +kernel
theorem dX9_ofBoat_68 : decode cX9_ofBoat 68 = .ok (.iload_n 1, 1) := by decide +kernel
theorem dX9_ofBoat_69 : decode cX9_ofBoat 69 = .ok (.iaload, 1) := by decide +kernel
theorem dX9_ofBoat_70 : decode cX9_ofBoat 70 = .ok (.ireturn, 1) := by decide +kernel
theorem dX9_ofBoat_71 : decode cX9_ofBoat 71 = .ok (.aload_n 3, 1) := by decide +kernel
theorem dX9_ofBoat_72 : decode cX9_ofBoat 72 = .ok (.getfield 118, 3) := by decide +kernel
theorem dX9_ofBoat_75 : decode cX9_ofBoat 75 = .ok (.iload_n 1, 1) := by decide +kernel
theorem dX9_ofBoat_76 : decode cX9_ofBoat 76 = .ok (.iaload, 1) := by decide +kernel
theorem dX9_ofBoat_77 : decode cX9_ofBoat 77 = .ok (.ireturn, 1) := by decide +kernel
theorem dX9_ofBoat_78 : decode cX9_ofBoat 78 = .ok (.aload_n 3, 1) := by decide +kernel
theorem dX9_ofBoat_79 : decode cX9_ofBoat 79 = .ok (.getfield 121, 3) := by decide +kernel
theorem dX9_ofBoat_82 : decode cX9_ofBoat 82 = .ok (.iload_n 1, 1) := by decide +kernel
theorem dX9_ofBoat_83 : decode cX9_ofBoat 83 = .ok (.iaload, 1) := by decide +kernel
theorem dX9_ofBoat_84 : decode cX9_ofBoat 84 = .ok (.ireturn, 1) := by decide +kernel
theorem dX9_ofBoat_85 : decode cX9_ofBoat 85 = .ok (.aload_n 3, 1) := by decide +kernel
theorem dX9_ofBoat_86 : decode cX9_ofBoat 86 = .ok (.getfield 124, 3) := by decide +kernel
theorem dX9_ofBoat_89 : decode cX9_ofBoat 89 = .ok (.iload_n 1, 1) := by decide +kernel
theorem dX9_ofBoat_90 : decode cX9_ofBoat 90 = .ok (.iaload, 1) := by decide +kernel
theorem dX9_ofBoat_91 : decode cX9_ofBoat 91 = .ok (.ireturn, 1) := by decide +kernel
theorem dX9_ofBoat_92 : decode cX9_ofBoat 92 = .ok (.aload_n 3, 1) := by decide +kernel
theorem dX9_ofBoat_93 : decode cX9_ofBoat 93 = .ok (.iload_n 1, 1) := by decide +kernel
theorem dX9_ofBoat_94 : decode cX9_ofBoat 94 = .ok (.aload_n 0, 1) := by decide +kernel
theorem dX9_ofBoat_95 : decode cX9_ofBoat 95 = .ok (.getfield 19, 3) := by decide +kernel
theorem dX9_ofBoat_98 : decode cX9_ofBoat 98 = .ok (.invokevirtual 127, 3) := by decide +kernel
theorem dX9_ofBoat_101 : decode cX9_ofBoat 101 = .ok (.invokevirtual 131, 3) := by decide +kernel
theorem dX9_ofBoat_104 : decode cX9_ofBoat 104 = .ok (.ifCond .eq 7, 3) := by decide +kernel
theorem dX9_ofBoat_107 : decode cX9_ofBoat 107 = .ok (.iconst 1, 1) := by decide +kernel
theorem dX9_ofBoat_108 : decode cX9_ofBoat 108 = .ok (.goto 4, 3) := by decide +kernel
theorem dX9_ofBoat_111 : decode cX9_ofBoat 111 = .ok (.iconst 0, 1) := by decide +kernel
theorem dX9_ofBoat_112 : decode cX9_ofBoat 112 = .ok (.ireturn, 1) := by decide +kernel
theorem dX9_change_0 : decode cX9_change 0 = .ok (.aload_n 0, 1) := by decide +kernel
theorem dX9_change_1 : decode cX9_change 1 = .ok (.getfield 19, 3) := by decide +kernel
theorem dX9_change_4 : decode cX9_change 4 = .ok (.getfield 99, 3) := by decide +kernel
theorem dX9_change_7 : decode cX9_change 7 = .ok (.astore 4, 2) := by decide +kernel
theorem dX9_change_9 : decode cX9_change 9 = .ok (.aload 4, 2) := by decide +kernel
theorem dX9_change_11 : decode cX9_change 11 = .ok (.iload_n 1, 1) := by decide +kernel
theorem dX9_change_12 : decode cX9_change 12 = .ok (.invokevirtual 112, 3) := by decide +kernel
theorem dX9_change_15 : decode cX9_change 15 = .ok (.ifCond .ne 9, 3) := by decide +kernel
theorem dX9_change_18 : decode cX9_change 18 = .ok (.aload_n 0, 1) := by decide +kernel
theorem dX9_change_19 : decode cX9_change 19 = .ok (.iconst 1, 1) := by decide +kernel
theorem dX9_change_20 : decode cX9_change 20 = .ok (.invokevirtual 81, 3) := by decide +kernel
theorem dX9_change_23 : decode cX9_change 23 = .ok (.ireturn, 1) := by decide +kernel
theorem dX9_change_24 : decode cX9_change 24 = .ok (.iload_n 2, 1) := by decide +kernel
theorem dX9_change_25 : decode cX9_change 25 = .ok (.iconst 2, 1) := by decide +kernel
theorem dX9_change_26 : decode cX9_change 26 = .ok (.if_icmp .ne 30, 3) := by decide +kernel
theorem dX9_change_29 : decode cX9_change 29 = .ok (.iload_n 3, 1) := by decide +kernel
theorem dX9_change_30 : decode cX9_change 30 = .ok (.invokestatic 96, 3) := by decide +kernel
theorem dX9_change_33 : decode cX9_change 33 = .ok (.ifCond .eq 23, 3) := by decide +kernel
theorem dX9_change_36 : decode cX9_change 36 = .ok (.aload 4, 2) := by decide +kernel
theorem dX9_change_38 : decode cX9_change 38 = .ok (.getfield 121, 3) := by decide +kernel
theorem dX9_change_41 : decode cX9_change 41 = .ok (.iload_n 1, 1) := by decide +kernel
theorem dX9_change_42 : decode cX9_change 42 = .ok (.iaload, 1) := by decide +kernel
theorem dX9_change_43 : decode cX9_change 43 = .ok (.istore 5, 2) := by decide +kernel
theorem dX9_change_45 : decode cX9_change 45 = .ok (.aload 4, 2) := by decide +kernel
theorem dX9_change_47 : decode cX9_change 47 = .ok (.getfield 121, 3) := by decide +kernel
theorem dX9_change_50 : decode cX9_change 50 = .ok (.iload_n 1, 1) := by decide +kernel
theorem dX9_change_51 : decode cX9_change 51 = .ok (.iload_n 3, 1) := by decide +kernel
theorem dX9_change_52 : decode cX9_change 52 = .ok (.iastore, 1) := by decide +kernel
theorem dX9_change_53 : decode cX9_change 53 = .ok (.iload 5, 2) := by decide +kernel
theorem dX9_change_55 : decode cX9_change 55 = .ok (.ireturn, 1) := by decide +kernel
theorem dX9_change_56 : decode cX9_change 56 = .ok (.iload_n 2, 1) := by decide +kernel
theorem dX9_change_57 : decode cX9_change 57 = .ok (.iconst 3, 1) := by decide +kernel
theorem dX9_change_58 : decode cX9_change 58 = .ok (.if_icmp .ne 23, 3) := by decide +kernel
theorem dX9_change_61 : decode cX9_change 61 = .ok (.aload 4, 2) := by decide +kernel
theorem dX9_change_63 : decode cX9_change 63 = .ok (.getfield 124, 3) := by decide +kernel
theorem dX9_change_66 : decode cX9_change 66 = .ok (.iload_n 1, 1) := by decide +kernel
theorem dX9_change_67 : decode cX9_change 67 = .ok (.iaload, 1) := by decide +kernel
theorem dX9_change_68 : decode cX9_change 68 = .ok (.istore 5, 2) := by decide +kernel
theorem dX9_change_70 : decode cX9_change 70 = .ok (.aload 4, 2) := by decide +kernel
theorem dX9_change_72 : decode cX9_change 72 = .ok (.getfield 124, 3) := by decide +kernel
theorem dX9_change_75 : decode cX9_change 75 = .ok (.iload_n 1, 1) := by decide +kernel
theorem dX9_change_76 : decode cX9_change 76 = .ok (.iload_n 3, 1) := by decide +kernel
theorem dX9_change_77 : decode cX9_change 77 = .ok (.iastore, 1) := by decide +kernel
theorem dX9_change_78 : decode cX9_change 78 = .ok (.iload 5, 2) := by decide +kernel
theorem dX9_change_80 : decode cX9_change 80 = .ok (.ireturn, 1) := by decide +kernel
theorem dX9_change_81 : decode cX9_change 81 = .ok (.aload_n 0, 1) := by decide +kernel
theorem dX9_change_82 : decode cX9_change 82 = .ok (.iconst 1, 1) := by decide +kernel
theorem dX9_change_83 : decode cX9_change 83 = .ok (.invokevirtual 81, 3) := by decide +kernel
theorem dX9_change_86 : decode cX9_change 86 = .ok (.ireturn, 1) := by decide +kernel
theorem dX9_become_0 : decode cX9_become 0 = .ok (.aload_n 0, 1) := by decide +kernel
theorem dX9_become_1 : decode cX9_become 1 = .ok (.getfield 19, 3) := by decide +kernel
theorem dX9_become_4 : decode cX9_become 4 = .ok (.getfield 99, 3) := by decide +kernel
theorem dX9_become_7 : decode cX9_become 7 = .ok (.astore_n 3, 1) := by decide +kernel
theorem dX9_become_8 : decode cX9_become 8 = .ok (.aload_n 3, 1) := by decide +kernel
theorem dX9_become_9 : decode cX9_become 9 = .ok (.iload_n 1, 1) := by decide +kernel
theorem dX9_become_10 : decode cX9_become 10 = .ok (.invokevirtual 112, 3) := by decide +kernel
theorem dX9_become_13 : decode cX9_become 13 = .ok (.ifCond .eq 10, 3) := by decide +kernel
theorem dX9_become_16 : decode cX9_become 16 = .ok (.iload_n 2, 1) := by decide +kernel
theorem dX9_become_17 : decode cX9_become 17 = .ok (.invokestatic 92, 3) := by decide +kernel
theorem dX9_become_20 : decode cX9_become 20 = .ok (.ifCond .ne 9, 3) := by decide +kernel
theorem dX9_become_23 : decode cX9_become 23 = .ok (.aload_n 0, 1) := by decide +kernel
theorem dX9_become_24 : decode cX9_become 24 = .ok (.iconst 1, 1) := by decide +kernel
theorem dX9_become_25 : decode cX9_become 25 = .ok (.invokevirtual 81, 3) := by decide +kernel
theorem dX9_become_28 : decode cX9_become 28 = .ok (.ireturn, 1) := by decide +kernel
theorem dX9_become_29 : decode cX9_become 29 = .ok (.aload_n 3, 1) := by decide +kernel
theorem dX9_become_30 : decode cX9_become 30 = .ok (.getfield 115, 3) := by decide +kernel
theorem dX9_become_33 : decode cX9_become 33 = .ok (.iload_n 1, 1) := by decide +kernel
theorem dX9_become_34 : decode cX9_become 34 = .ok (.iaload, 1) := by decide +kernel
theorem dX9_become_35 : decode cX9_become 35 = .ok (.istore 4, 2) := by decide +kernel
theorem dX9_become_37 : decode cX9_become 37 = .ok (.aload_n 3, 1) := by decide +kernel
theorem dX9_become_38 : decode cX9_become 38 = .ok (.getfield 115, 3) := by decide +kernel
theorem dX9_become_41 : decode cX9_become 41 = .ok (.iload_n 1, 1) := by decide +kernel
theorem dX9_become_42 : decode cX9_become 42 = .ok (.iload_n 2, 1) := by decide +kernel
theorem dX9_become_43 : decode cX9_become 43 = .ok (.bipush 10, 2) := by decide +kernel
theorem dX9_become_45 : decode cX9_become 45 = .ok (.idiv, 1) := by decide +kernel
theorem dX9_become_46 : decode cX9_become 46 = .ok (.iastore, 1) := by decide +kernel
theorem dX9_become_47 : decode cX9_become 47 = .ok (.aload_n 3, 1) := by decide +kernel
theorem dX9_become_48 : decode cX9_become 48 = .ok (.getfield 118, 3) := by decide +kernel
theorem dX9_become_51 : decode cX9_become 51 = .ok (.iload_n 1, 1) := by decide +kernel
theorem dX9_become_52 : decode cX9_become 52 = .ok (.iload_n 2, 1) := by decide +kernel
theorem dX9_become_53 : decode cX9_become 53 = .ok (.bipush 10, 2) := by decide +kernel
theorem dX9_become_55 : decode cX9_become 55 = .ok (.irem, 1) := by decide +kernel
theorem dX9_become_56 : decode cX9_become 56 = .ok (.iastore, 1) := by decide +kernel
theorem dX9_become_57 : decode cX9_become 57 = .ok (.iload 4, 2) := by decide +kernel
theorem dX9_become_59 : decode cX9_become 59 = .ok (.ireturn, 1) := by decide +kernel
theorem dX9_as_0 : decode cX9_as 0 = .ok (.aload_n 0, 1) := by decide +kernel
theorem dX9_as_1 : decode cX9_as 1 = .ok (.getfield 19, 3) := by decide +kernel
theorem dX9_as_4 : decode cX9_as 4 = .ok (.getfield 99, 3) := by decide +kernel
theorem dX9_as_7 : decode cX9_as 7 = .ok (.astore_n 3, 1) := by decide +kernel
theorem dX9_as_8 : decode cX9_as 8 = .ok (.aload_n 3, 1) := by decide +kernel
theorem dX9_as_9 : decode cX9_as 9 = .ok (.iload_n 1, 1) := by decide +kernel
theorem dX9_as_10 : decode cX9_as 10 = .ok (.invokevirtual 112, 3) := by decide +kernel
theorem dX9_as_13 : decode cX9_as 13 = .ok (.ifCond .eq 13, 3) := by decide +kernel
theorem dX9_as_16 : decode cX9_as 16 = .ok (.iload_n 2, 1) := by decide +kernel
theorem dX9_as_17 : decode cX9_as 17 = .ok (.iconst 0, 1) := by decide +kernel
theorem dX9_as_18 : decode cX9_as 18 = .ok (.bipush 6, 2) := by decide +kernel
theorem dX9_as_20 : decode cX9_as 20 = .ok (.invokestatic 77, 3) := by decide +kernel
theorem dX9_as_23 : decode cX9_as 23 = .ok (.ifCond .ne 9, 3) := by decide +kernel
theorem dX9_as_26 : decode cX9_as 26 = .ok (.aload_n 0, 1) := by decide +kernel
theorem dX9_as_27 : decode cX9_as 27 = .ok (.iconst 1, 1) := by decide +kernel
theorem dX9_as_28 : decode cX9_as 28 = .ok (.invokevirtual 81, 3) := by decide +kernel
theorem dX9_as_31 : decode cX9_as 31 = .ok (.ireturn, 1) := by decide +kernel
theorem dX9_as_32 : decode cX9_as 32 = .ok (.aload_n 3, 1) := by decide +kernel
theorem dX9_as_33 : decode cX9_as 33 = .ok (.getfield 115, 3) := by decide +kernel
theorem dX9_as_36 : decode cX9_as 36 = .ok (.iload_n 1, 1) := by decide +kernel
theorem dX9_as_37 : decode cX9_as 37 = .ok (.iaload, 1) := by decide +kernel
theorem dX9_as_38 : decode cX9_as 38 = .ok (.iload_n 2, 1) := by decide +kernel
theorem dX9_as_39 : decode cX9_as 39 = .ok (.invokestatic 135, 3) := by decide +kernel
theorem dX9_as_42 : decode cX9_as 42 = .ok (.ifCond .ne 9, 3) := by decide +kernel
theorem dX9_as_45 : decode cX9_as 45 = .ok (.aload_n 0, 1) := by decide +kernel
theorem dX9_as_46 : decode cX9_as 46 = .ok (.iconst 5, 1) := by decide +kernel
theorem dX9_as_47 : decode cX9_as 47 = .ok (.invokevirtual 81, 3) := by decide +kernel
theorem dX9_as_50 : decode cX9_as 50 = .ok (.ireturn, 1) := by decide +kernel
theorem dX9_as_51 : decode cX9_as 51 = .ok (.aload_n 3, 1) := by decide +kernel
theorem dX9_as_52 : decode cX9_as 52 = .ok (.getfield 118, 3) := by decide +kernel
theorem dX9_as_55 : decode cX9_as 55 = .ok (.iload_n 1, 1) := by decide +kernel
theorem dX9_as_56 : decode cX9_as 56 = .ok (.iaload, 1) := by decide +kernel
theorem dX9_as_57 : decode cX9_as 57 = .ok (.ireturn, 1) := by decide +kernel
theorem dX9_lag_0 : decode cX9_lag 0 = .ok (.aload_n 0, 1) := by decide +kernel
theorem dX9_lag_1 : decode cX9_lag 1 = .ok (.getfield 19, 3) := by decide +kernel
theorem dX9_lag_4 : decode cX9_lag 4 = .ok (.getfield 99, 3) := by decide +kernel
theorem dX9_lag_7 : decode cX9_lag 7 = .ok (.astore_n 3, 1) := by decide +kernel
theorem dX9_lag_8 : decode cX9_lag 8 = .ok (.aload_n 3, 1) := by decide +kernel
theorem dX9_lag_9 : decode cX9_lag 9 = .ok (.iload_n 1, 1) := by decide +kernel
theorem dX9_lag_10 : decode cX9_lag 10 = .ok (.invokevirtual 112, 3) := by decide +kernel
theorem dX9_lag_13 : decode cX9_lag 13 = .ok (.ifCond .eq 10, 3) := by decide +kernel
theorem dX9_lag_16 : decode cX9_lag 16 = .ok (.iload_n 2, 1) := by decide +kernel
theorem dX9_lag_17 : decode cX9_lag 17 = .ok (.invokestatic 96, 3) := by decide +kernel
theorem dX9_lag_20 : decode cX9_lag 20 = .ok (.ifCond .ne 9, 3) := by decide +kernel
theorem dX9_lag_23 : decode cX9_lag 23 = .ok (.aload_n 0, 1) := by decide +kernel
theorem dX9_lag_24 : decode cX9_lag 24 = .ok (.iconst 1, 1) := by decide +kernel
theorem dX9_lag_25 : decode cX9_lag 25 = .ok (.invokevirtual 81, 3) := by decide +kernel
theorem dX9_lag_28 : decode cX9_lag 28 = .ok (.ireturn, 1) := by decide +kernel
theorem dX9_lag_29 : decode cX9_lag 29 = .ok (.aload_n 3, 1) := by decide +kernel
theorem dX9_lag_30 : decode cX9_lag 30 = .ok (.getfield 121, 3) := by decide +kernel
theorem dX9_lag_33 : decode cX9_lag 33 = .ok (.iload_n 1, 1) := by decide +kernel
theorem dX9_lag_34 : decode cX9_lag 34 = .ok (.iaload, 1) := by decide +kernel
theorem dX9_lag_35 : decode cX9_lag 35 = .ok (.iload_n 2, 1) := by decide +kernel
theorem dX9_lag_36 : decode cX9_lag 36 = .ok (.invokestatic 138, 3) := by decide +kernel
theorem dX9_lag_39 : decode cX9_lag 39 = .ok (.istore 4, 2) := by decide +kernel
theorem dX9_lag_41 : decode cX9_lag 41 = .ok (.aload_n 0, 1) := by decide +kernel
theorem dX9_lag_42 : decode cX9_lag 42 = .ok (.getfield 10, 3) := by decide +kernel
theorem dX9_lag_45 : decode cX9_lag 45 = .ok (.iload 4, 2) := by decide +kernel
theorem dX9_lag_47 : decode cX9_lag 47 = .ok (.aload_n 0, 1) := by decide +kernel
theorem dX9_lag_48 : decode cX9_lag 48 = .ok (.getfield 10, 3) := by decide +kernel
theorem dX9_lag_51 : decode cX9_lag 51 = .ok (.getfield 88, 3) := by decide +kernel
theorem dX9_lag_54 : decode cX9_lag 54 = .ok (.aload_n 0, 1) := by decide +kernel
theorem dX9_lag_55 : decode cX9_lag 55 = .ok (.getfield 19, 3) := by decide +kernel
theorem dX9_lag_58 : decode cX9_lag 58 = .ok (.invokevirtual 127, 3) := by decide +kernel
theorem dX9_lag_61 : decode cX9_lag 61 = .ok (.invokevirtual 141, 3) := by decide +kernel
theorem dX9_lag_64 : decode cX9_lag 64 = .ok (.aload_n 3, 1) := by decide +kernel
theorem dX9_lag_65 : decode cX9_lag 65 = .ok (.iload_n 1, 1) := by decide +kernel
theorem dX9_lag_66 : decode cX9_lag 66 = .ok (.invokevirtual 145, 3) := by decide +kernel
theorem dX9_lag_69 : decode cX9_lag 69 = .ok (.iadd, 1) := by decide +kernel
theorem dX9_lag_70 : decode cX9_lag 70 = .ok (.ireturn, 1) := by decide +kernel
theorem dX9_listener_0 : decode cX9_listener 0 = .ok (.iload_n 1, 1) := by decide +kernel
theorem dX9_listener_1 : decode cX9_listener 1 = .ok (.invokestatic 96, 3) := by decide +kernel
theorem dX9_listener_4 : decode cX9_listener 4 = .ok (.ifCond .ne 9, 3) := by decide +kernel
theorem dX9_listener_7 : decode cX9_listener 7 = .ok (.aload_n 0, 1) := by decide +kernel
theorem dX9_listener_8 : decode cX9_listener 8 = .ok (.iconst 1, 1) := by decide +kernel
theorem dX9_listener_9 : decode cX9_listener 9 = .ok (.invokevirtual 81, 3) := by decide +kernel
theorem dX9_listener_12 : decode cX9_listener 12 = .ok (.ireturn, 1) := by decide +kernel
theorem dX9_listener_13 : decode cX9_listener 13 = .ok (.aload_n 0, 1) := by decide +kernel
theorem dX9_listener_14 : decode cX9_listener 14 = .ok (.getfield 19, 3) := by decide +kernel
theorem dX9_listener_17 : decode cX9_listener 17 = .ok (.getfield 148, 3) := by decide +kernel
theorem dX9_listener_20 : decode cX9_listener 20 = .ok (.bipush 6, 2) := by decide +kernel
theorem dX9_listener_22 : decode cX9_listener 22 = .ok (.if_icmp .lt 9, 3) := by decide +kernel
theorem dX9_listener_25 : decode cX9_listener 25 = .ok (.aload_n 0, 1) := by decide +kernel
theorem dX9_listener_26 : decode cX9_listener 26 = .ok (.iconst 4, 1) := by decide +kernel
theorem dX9_listener_27 : decode cX9_listener 27 = .ok (.invokevirtual 81, 3) := by decide +kernel
theorem dX9_listener_30 : decode cX9_listener 30 = .ok (.ireturn, 1) := by decide +kernel
theorem dX9_listener_31 : decode cX9_listener 31 = .ok (.aload_n 0, 1) := by decide +kernel
theorem dX9_listener_32 : decode cX9_listener 32 = .ok (.getfield 19, 3) := by decide +kernel
theorem dX9_listener_35 : decode cX9_listener 35 = .ok (.iload_n 1, 1) := by decide +kernel
theorem dX9_listener_36 : decode cX9_listener 36 = .ok (.invokevirtual 151, 3) := by decide +kernel
theorem dX9_listener_39 : decode cX9_listener 39 = .ok (.ireturn, 1) := by decide +kernel
theorem dX9_ofListener_0 : decode cX9_ofListener 0 = .ok (.aload_n 0, 1) := by decide +kernel
theorem dX9_ofListener_1 : decode cX9_ofListener 1 = .ok (.getfield 19, 3) := by decide +kernel
theorem dX9_ofListener_4 : decode cX9_ofListener 4 = .ok (.iload_n 1, 1) := by decide +kernel
theorem dX9_ofListener_5 : decode cX9_ofListener 5 = .ok (.invokevirtual 154, 3) := by decide +kernel
theorem dX9_ofListener_8 : decode cX9_ofListener 8 = .ok (.ifCond .eq 12, 3) := by decide +kernel
theorem dX9_ofListener_11 : decode cX9_ofListener 11 = .ok (.iload_n 2, 1) := by decide +kernel
theorem dX9_ofListener_12 : decode cX9_ofListener 12 = .ok (.iconst 0, 1) := by decide +kernel
theorem dX9_ofListener_13 : decode cX9_ofListener 13 = .ok (.iconst 3, 1) := by decide +kernel
theorem dX9_ofListener_14 : decode cX9_ofListener 14 = .ok (.invokestatic 77, 3) := by decide +kernel
theorem dX9_ofListener_17 : decode cX9_ofListener 17 = .ok (.ifCond .ne 9, 3) := by decide +kernel
theorem dX9_ofListener_20 : decode cX9_ofListener 20 = .ok (.aload_n 0, 1) := by decide +kernel
theorem dX9_ofListener_21 : decode cX9_ofListener 21 = .ok (.iconst 1, 1) := by decide +kernel
theorem dX9_ofListener_22 : decode cX9_ofListener 22 = .ok (.invokevirtual 81, 3) := by decide +kernel
theorem dX9_ofListener_25 : decode cX9_ofListener 25 = .ok (.ireturn, 1) := by decide +kernel
theorem dX9_ofListener_26 : decode cX9_ofListener 26 = .ok (.aload_n 0, 1) := by decide +kernel
theorem dX9_ofListener_27 : decode cX9_ofListener 27 = .ok (.getfield 19, 3) := by decide +kernel
theorem dX9_ofListener_30 : decode cX9_ofListener 30 = .ok (.aload_n 0, 1) := by decide +kernel
theorem dX9_ofListener_31 : decode cX9_ofListener 31 = .ok (.getfield 10, 3) := by decide +kernel
theorem dX9_ofListener_34 : decode cX9_ofListener 34 = .ok (.iload_n 1, 1) := by decide +kernel
theorem dX9_ofListener_35 : decode cX9_ofListener 35 = .ok (.iload_n 2, 1) := by decide +kernel
theorem dX9_ofListener_36 : decode cX9_ofListener 36 = .ok (.invokevirtual 157, 3) := by decide +kernel
theorem dX9_ofListener_39 : decode cX9_ofListener 39 = .ok (.ireturn, 1) := by decide +kernel
theorem dX9_row_0 : decode cX9_row 0 = .ok (.aload_n 0, 1) := by decide +kernel
theorem dX9_row_1 : decode cX9_row 1 = .ok (.getfield 19, 3) := by decide +kernel
theorem dX9_row_4 : decode cX9_row 4 = .ok (.iload_n 1, 1) := by decide +kernel
theorem dX9_row_5 : decode cX9_row 5 = .ok (.invokevirtual 154, 3) := by decide +kernel
theorem dX9_row_8 : decode cX9_row 8 = .ok (.ifCond .eq 10, 3) := by decide +kernel
theorem dX9_row_11 : decode cX9_row 11 = .ok (.iload_n 2, 1) := by decide +kernel
theorem dX9_row_12 : decode cX9_row 12 = .ok (.invokestatic 96, 3) := by decide +kernel
theorem dX9_row_15 : decode cX9_row 15 = .ok (.ifCond .ne 9, 3) := by decide +kernel
theorem dX9_row_18 : decode cX9_row 18 = .ok (.aload_n 0, 1) := by decide +kernel
theorem dX9_row_19 : decode cX9_row 19 = .ok (.iconst 1, 1) := by decide +kernel
theorem dX9_row_20 : decode cX9_row 20 = .ok (.invokevirtual 81, 3) := by decide +kernel
theorem dX9_row_23 : decode cX9_row 23 = .ok (.ireturn, 1) := by decide +kernel
theorem dX9_row_24 : decode cX9_row 24 = .ok (.aload_n 0, 1) := by decide +kernel
theorem dX9_row_25 : decode cX9_row 25 = .ok (.getfield 19, 3) := by decide +kernel
theorem dX9_row_28 : decode cX9_row 28 = .ok (.getfield 161, 3) := by decide +kernel
theorem dX9_row_31 : decode cX9_row 31 = .ok (.iload_n 1, 1) := by decide +kernel
theorem dX9_row_32 : decode cX9_row 32 = .ok (.iaload, 1) := by decide +kernel
theorem dX9_row_33 : decode cX9_row 33 = .ok (.istore_n 3, 1) := by decide +kernel
theorem dX9_row_34 : decode cX9_row 34 = .ok (.aload_n 0, 1) := by decide +kernel
theorem dX9_row_35 : decode cX9_row 35 = .ok (.getfield 19, 3) := by decide +kernel
theorem dX9_row_38 : decode cX9_row 38 = .ok (.getfield 161, 3) := by decide +kernel
theorem dX9_row_41 : decode cX9_row 41 = .ok (.iload_n 1, 1) := by decide +kernel
theorem dX9_row_42 : decode cX9_row 42 = .ok (.iload_n 2, 1) := by decide +kernel
theorem dX9_row_43 : decode cX9_row 43 = .ok (.iastore, 1) := by decide +kernel
theorem dX9_row_44 : decode cX9_row 44 = .ok (.iload_n 3, 1) := by decide +kernel
theorem dX9_row_45 : decode cX9_row 45 = .ok (.ireturn, 1) := by decide +kernel
theorem dX9_feed_0 : decode cX9_feed 0 = .ok (.iload_n 3, 1) := by decide +kernel
theorem dX9_feed_1 : decode cX9_feed 1 = .ok (.iconst 1, 1) := by decide +kernel
theorem dX9_feed_2 : decode cX9_feed 2 = .ok (.bipush 8, 2) := by decide +kernel
theorem dX9_feed_4 : decode cX9_feed 4 = .ok (.invokestatic 77, 3) := by decide +kernel
theorem dX9_feed_7 : decode cX9_feed 7 = .ok (.ifCond .ne 9, 3) := by decide +kernel
theorem dX9_feed_10 : decode cX9_feed 10 = .ok (.aload_n 0, 1) := by decide +kernel
theorem dX9_feed_11 : decode cX9_feed 11 = .ok (.iconst 1, 1) := by decide +kernel
theorem dX9_feed_12 : decode cX9_feed 12 = .ok (.invokevirtual 81, 3) := by decide +kernel
theorem dX9_feed_15 : decode cX9_feed 15 = .ok (.ireturn, 1) := by decide +kernel
theorem dX9_feed_16 : decode cX9_feed 16 = .ok (.aload_n 0, 1) := by decide +kernel
theorem dX9_feed_17 : decode cX9_feed 17 = .ok (.getfield 26, 3) := by decide +kernel
theorem dX9_feed_20 : decode cX9_feed 20 = .ok (.getfield 164, 3) := by decide +kernel
theorem dX9_feed_23 : decode cX9_feed 23 = .ok (.iload_n 3, 1) := by decide +kernel
theorem dX9_feed_24 : decode cX9_feed 24 = .ok (.iadd, 1) := by decide +kernel
theorem dX9_feed_25 : decode cX9_feed 25 = .ok (.bipush 50, 2) := by decide +kernel
theorem dX9_feed_27 : decode cX9_feed 27 = .ok (.if_icmp .le 9, 3) := by decide +kernel
theorem dX9_feed_30 : decode cX9_feed 30 = .ok (.aload_n 0, 1) := by decide +kernel
theorem dX9_feed_31 : decode cX9_feed 31 = .ok (.iconst 4, 1) := by decide +kernel
theorem dX9_feed_32 : decode cX9_feed 32 = .ok (.invokevirtual 81, 3) := by decide +kernel
theorem dX9_feed_35 : decode cX9_feed 35 = .ok (.ireturn, 1) := by decide +kernel
theorem dX9_feed_36 : decode cX9_feed 36 = .ok (.aload_n 0, 1) := by decide +kernel
theorem dX9_feed_37 : decode cX9_feed 37 = .ok (.getfield 26, 3) := by decide +kernel
theorem dX9_feed_40 : decode cX9_feed 40 = .ok (.lload_n 1, 1) := by decide +kernel
theorem dX9_feed_41 : decode cX9_feed 41 = .ok (.iload_n 3, 1) := by decide +kernel
theorem dX9_feed_42 : decode cX9_feed 42 = .ok (.invokevirtual 167, 3) := by decide +kernel
theorem dX9_feed_45 : decode cX9_feed 45 = .ok (.aload_n 0, 1) := by decide +kernel
theorem dX9_feed_46 : decode cX9_feed 46 = .ok (.getfield 26, 3) := by decide +kernel
theorem dX9_feed_49 : decode cX9_feed 49 = .ok (.getfield 164, 3) := by decide +kernel
theorem dX9_feed_52 : decode cX9_feed 52 = .ok (.ireturn, 1) := by decide +kernel
theorem dX9_text_0 : decode cX9_text 0 = .ok (.iload_n 1, 1) := by decide +kernel
theorem dX9_text_1 : decode cX9_text 1 = .ok (.iconst 0, 1) := by decide +kernel
theorem dX9_text_2 : decode cX9_text 2 = .ok (.iconst 1, 1) := by decide +kernel
theorem dX9_text_3 : decode cX9_text 3 = .ok (.invokestatic 77, 3) := by decide +kernel
theorem dX9_text_6 : decode cX9_text 6 = .ok (.ifCond .ne 9, 3) := by decide +kernel
theorem dX9_text_9 : decode cX9_text 9 = .ok (.aload_n 0, 1) := by decide +kernel
theorem dX9_text_10 : decode cX9_text 10 = .ok (.iconst 1, 1) := by decide +kernel
theorem dX9_text_11 : decode cX9_text 11 = .ok (.invokevirtual 81, 3) := by decide +kernel
theorem dX9_text_14 : decode cX9_text 14 = .ok (.ireturn, 1) := by decide +kernel
theorem dX9_text_15 : decode cX9_text 15 = .ok (.aload_n 0, 1) := by decide +kernel
theorem dX9_text_16 : decode cX9_text 16 = .ok (.getfield 60, 3) := by decide +kernel
theorem dX9_text_19 : decode cX9_text 19 = .ok (.aload_n 0, 1) := by decide +kernel
theorem dX9_text_20 : decode cX9_text 20 = .ok (.getfield 26, 3) := by decide +kernel
theorem dX9_text_23 : decode cX9_text 23 = .ok (.getfield 171, 3) := by decide +kernel
theorem dX9_text_26 : decode cX9_text 26 = .ok (.aload_n 0, 1) := by decide +kernel
theorem dX9_text_27 : decode cX9_text 27 = .ok (.getfield 26, 3) := by decide +kernel
theorem dX9_text_30 : decode cX9_text 30 = .ok (.getfield 164, 3) := by decide +kernel
theorem dX9_text_33 : decode cX9_text 33 = .ok (.iload_n 1, 1) := by decide +kernel
theorem dX9_text_34 : decode cX9_text 34 = .ok (.invokevirtual 174, 3) := by decide +kernel
theorem dX9_text_37 : decode cX9_text 37 = .ok (.istore_n 2, 1) := by decide +kernel
theorem dX9_text_38 : decode cX9_text 38 = .ok (.aload_n 0, 1) := by decide +kernel
theorem dX9_text_39 : decode cX9_text 39 = .ok (.getfield 26, 3) := by decide +kernel
theorem dX9_text_42 : decode cX9_text 42 = .ok (.iconst 0, 1) := by decide +kernel
theorem dX9_text_43 : decode cX9_text 43 = .ok (.putfield 164, 3) := by decide +kernel
theorem dX9_text_46 : decode cX9_text 46 = .ok (.iload_n 2, 1) := by decide +kernel
theorem dX9_text_47 : decode cX9_text 47 = .ok (.ifCond .ne 14, 3) := by decide +kernel
theorem dX9_text_50 : decode cX9_text 50 = .ok (.bipush (-10), 2) := by decide +kernel
theorem dX9_text_52 : decode cX9_text 52 = .ok (.aload_n 0, 1) := by decide +kernel
theorem dX9_text_53 : decode cX9_text 53 = .ok (.getfield 60, 3) := by decide +kernel
theorem dX9_text_56 : decode cX9_text 56 = .ok (.getfield 178, 3) := by decide +kernel
theorem dX9_text_59 : decode cX9_text 59 = .ok (.isub, 1) := by decide +kernel
theorem dX9_text_60 : decode cX9_text 60 = .ok (.ireturn, 1) := by decide +kernel
theorem dX9_text_61 : decode cX9_text 61 = .ok (.aload_n 0, 1) := by decide +kernel
theorem dX9_text_62 : decode cX9_text 62 = .ok (.getfield 10, 3) := by decide +kernel
theorem dX9_text_65 : decode cX9_text 65 = .ok (.iload_n 1, 1) := by decide +kernel
theorem dX9_text_66 : decode cX9_text 66 = .ok (.aload_n 0, 1) := by decide +kernel
theorem dX9_text_67 : decode cX9_text 67 = .ok (.getfield 60, 3) := by decide +kernel
theorem dX9_text_70 : decode cX9_text 70 = .ok (.getfield 181, 3) := by decide +kernel
theorem dX9_text_73 : decode cX9_text 73 = .ok (.invokevirtual 185, 3) := by decide +kernel
theorem dX9_text_76 : decode cX9_text 76 = .ok (.iconst 1, 1) := by decide +kernel
theorem dX9_text_77 : decode cX9_text 77 = .ok (.ireturn, 1) := by decide +kernel
theorem dX9_law_0 : decode cX9_law 0 = .ok (.iload_n 1, 1) := by decide +kernel
theorem dX9_law_1 : decode cX9_law 1 = .ok (.iconst 0, 1) := by decide +kernel
theorem dX9_law_2 : decode cX9_law 2 = .ok (.iconst 1, 1) := by decide +kernel
theorem dX9_law_3 : decode cX9_law 3 = .ok (.invokestatic 77, 3) := by decide +kernel
theorem dX9_law_6 : decode cX9_law 6 = .ok (.ifCond .ne 9, 3) := by decide +kernel
theorem dX9_law_9 : decode cX9_law 9 = .ok (.aload_n 0, 1) := by decide +kernel
theorem dX9_law_10 : decode cX9_law 10 = .ok (.iconst 1, 1) := by decide +kernel
theorem dX9_law_11 : decode cX9_law 11 = .ok (.invokevirtual 81, 3) := by decide +kernel
theorem dX9_law_14 : decode cX9_law 14 = .ok (.ireturn, 1) := by decide +kernel
theorem dX9_law_15 : decode cX9_law 15 = .ok (.aload_n 0, 1) := by decide +kernel
theorem dX9_law_16 : decode cX9_law 16 = .ok (.getfield 10, 3) := by decide +kernel
theorem dX9_law_19 : decode cX9_law 19 = .ok (.iload_n 1, 1) := by decide +kernel
theorem dX9_law_20 : decode cX9_law 20 = .ok (.iload_n 2, 1) := by decide +kernel
theorem dX9_law_21 : decode cX9_law 21 = .ok (.iload_n 3, 1) := by decide +kernel
theorem dX9_law_22 : decode cX9_law 22 = .ok (.iload 4, 2) := by decide +kernel
theorem dX9_law_24 : decode cX9_law 24 = .ok (.invokevirtual 189, 3) := by decide +kernel
theorem dX9_law_27 : decode cX9_law 27 = .ok (.ireturn, 1) := by decide +kernel
theorem dX9_beats_0 : decode cX9_beats 0 = .ok (.aload_n 0, 1) := by decide +kernel
theorem dX9_beats_1 : decode cX9_beats 1 = .ok (.iload_n 1, 1) := by decide +kernel
theorem dX9_beats_2 : decode cX9_beats 2 = .ok (.iconst 0, 1) := by decide +kernel
theorem dX9_beats_3 : decode cX9_beats 3 = .ok (.invokevirtual 193, 3) := by decide +kernel
theorem dX9_beats_6 : decode cX9_beats 6 = .ok (.ireturn, 1) := by decide +kernel
theorem dX9_loose_0 : decode cX9_loose 0 = .ok (.aload_n 0, 1) := by decide +kernel
theorem dX9_loose_1 : decode cX9_loose 1 = .ok (.iload_n 1, 1) := by decide +kernel
theorem dX9_loose_2 : decode cX9_loose 2 = .ok (.iconst 1, 1) := by decide +kernel
theorem dX9_loose_3 : decode cX9_loose 3 = .ok (.invokevirtual 193, 3) := by decide +kernel
theorem dX9_loose_6 : decode cX9_loose 6 = .ok (.ireturn, 1) := by decide +kernel
theorem dX9_then_0 : decode cX9_then 0 = .ok (.iload_n 1, 1) := by decide +kernel
theorem dX9_then_1 : decode cX9_then 1 = .ok (.invokestatic 197, 3) := by decide +kernel
theorem dX9_then_4 : decode cX9_then 4 = .ok (.ifCond .eq 17, 3) := by decide +kernel
theorem dX9_then_7 : decode cX9_then 7 = .ok (.aload_n 0, 1) := by decide +kernel
theorem dX9_then_8 : decode cX9_then 8 = .ok (.getfield 19, 3) := by decide +kernel
theorem dX9_then_11 : decode cX9_then 11 = .ok (.getfield 99, 3) := by decide +kernel
theorem dX9_then_14 : decode cX9_then 14 = .ok (.iload_n 2, 1) := by decide +kernel
theorem dX9_then_15 : decode cX9_then 15 = .ok (.invokevirtual 112, 3) := by decide +kernel
theorem dX9_then_18 : decode cX9_then 18 = .ok (.ifCond .ne 9, 3) := by decide +kernel
theorem dX9_then_21 : decode cX9_then 21 = .ok (.aload_n 0, 1) := by decide +kernel
theorem dX9_then_22 : decode cX9_then 22 = .ok (.iconst 1, 1) := by decide +kernel
theorem dX9_then_23 : decode cX9_then 23 = .ok (.invokevirtual 81, 3) := by decide +kernel
theorem dX9_then_26 : decode cX9_then 26 = .ok (.ireturn, 1) := by decide +kernel
theorem dX9_then_27 : decode cX9_then 27 = .ok (.aload_n 0, 1) := by decide +kernel
theorem dX9_then_28 : decode cX9_then 28 = .ok (.getfield 70, 3) := by decide +kernel
theorem dX9_then_31 : decode cX9_then 31 = .ok (.aload_n 0, 1) := by decide +kernel
theorem dX9_then_32 : decode cX9_then 32 = .ok (.getfield 19, 3) := by decide +kernel
theorem dX9_then_35 : decode cX9_then 35 = .ok (.iload_n 1, 1) := by decide +kernel
theorem dX9_then_36 : decode cX9_then 36 = .ok (.invokevirtual 200, 3) := by decide +kernel
theorem dX9_then_39 : decode cX9_then 39 = .ok (.aload_n 0, 1) := by decide +kernel
theorem dX9_then_40 : decode cX9_then 40 = .ok (.getfield 70, 3) := by decide +kernel
theorem dX9_then_43 : decode cX9_then 43 = .ok (.aload_n 0, 1) := by decide +kernel
theorem dX9_then_44 : decode cX9_then 44 = .ok (.getfield 10, 3) := by decide +kernel
theorem dX9_then_47 : decode cX9_then 47 = .ok (.iload_n 2, 1) := by decide +kernel
theorem dX9_then_48 : decode cX9_then 48 = .ok (.invokevirtual 204, 3) := by decide +kernel
theorem dX9_then_51 : decode cX9_then 51 = .ok (.aload_n 0, 1) := by decide +kernel
theorem dX9_then_52 : decode cX9_then 52 = .ok (.getfield 70, 3) := by decide +kernel
theorem dX9_then_55 : decode cX9_then 55 = .ok (.iload_n 1, 1) := by decide +kernel
theorem dX9_then_56 : decode cX9_then 56 = .ok (.iload_n 2, 1) := by decide +kernel
theorem dX9_then_57 : decode cX9_then 57 = .ok (.invokevirtual 208, 3) := by decide +kernel
theorem dX9_then_60 : decode cX9_then 60 = .ok (.ireturn, 1) := by decide +kernel
theorem dX9_thenListener_0 : decode cX9_thenListener 0 = .ok (.iload_n 1, 1) := by decide +kernel
theorem dX9_thenListener_1 : decode cX9_thenListener 1 = .ok (.invokestatic 197, 3) := by decide +kernel
theorem dX9_thenListener_4 : decode cX9_thenListener 4 = .ok (.ifCond .eq 23, 3) := by decide +kernel
theorem dX9_thenListener_7 : decode cX9_thenListener 7 = .ok (.aload_n 0, 1) := by decide +kernel
theorem dX9_thenListener_8 : decode cX9_thenListener 8 = .ok (.getfield 19, 3) := by decide +kernel
theorem dX9_thenListener_11 : decode cX9_thenListener 11 = .ok (.iload_n 2, 1) := by decide +kernel
theorem dX9_thenListener_12 : decode cX9_thenListener 12 = .ok (.invokevirtual 154, 3) := by decide +kernel
theorem dX9_thenListener_15 : decode cX9_thenListener 15 = .ok (.ifCond .eq 12, 3) := by decide +kernel
theorem dX9_thenListener_18 : decode cX9_thenListener 18 = .ok (.iload_n 3, 1) := by decide +kernel
theorem dX9_thenListener_19 : decode cX9_thenListener 19 = .ok (.iconst 0, 1) := by decide +kernel
theorem dX9_thenListener_20 : decode cX9_thenListener 20 = .ok (.iconst 3, 1) := by decide +kernel
theorem dX9_thenListener_21 : decode cX9_thenListener 21 = .ok (.invokestatic 77, 3) := by decide +kernel
theorem dX9_thenListener_24 : decode cX9_thenListener 24 = .ok (.ifCond .ne 9, 3) := by decide +kernel
theorem dX9_thenListener_27 : decode cX9_thenListener 27 = .ok (.aload_n 0, 1) := by decide +kernel
theorem dX9_thenListener_28 : decode cX9_thenListener 28 = .ok (.iconst 1, 1) := by decide +kernel
theorem dX9_thenListener_29 : decode cX9_thenListener 29 = .ok (.invokevirtual 81, 3) := by decide +kernel
theorem dX9_thenListener_32 : decode cX9_thenListener 32 = .ok (.ireturn, 1) := by decide +kernel
theorem dX9_thenListener_33 : decode cX9_thenListener 33 = .ok (.aload_n 0, 1) := by decide +kernel
theorem dX9_thenListener_34 : decode cX9_thenListener 34 = .ok (.getfield 64, 3) := by decide +kernel
theorem dX9_thenListener_37 : decode cX9_thenListener 37 = .ok (.aload_n 0, 1) := by decide +kernel
theorem dX9_thenListener_38 : decode cX9_thenListener 38 = .ok (.getfield 19, 3) := by decide +kernel
theorem dX9_thenListener_41 : decode cX9_thenListener 41 = .ok (.invokevirtual 211, 3) := by decide +kernel
theorem dX9_thenListener_44 : decode cX9_thenListener 44 = .ok (.iconst 0, 1) := by decide +kernel
theorem dX9_thenListener_45 : decode cX9_thenListener 45 = .ok (.istore 4, 2) := by decide +kernel
theorem dX9_thenListener_47 : decode cX9_thenListener 47 = .ok (.iload 4, 2) := by decide +kernel
theorem dX9_thenListener_49 : decode cX9_thenListener 49 = .ok (.iload_n 1, 1) := by decide +kernel
theorem dX9_thenListener_50 : decode cX9_thenListener 50 = .ok (.if_icmp .ge 21, 3) := by decide +kernel
theorem dX9_thenListener_53 : decode cX9_thenListener 53 = .ok (.aload_n 0, 1) := by decide +kernel
theorem dX9_thenListener_54 : decode cX9_thenListener 54 = .ok (.getfield 64, 3) := by decide +kernel
theorem dX9_thenListener_57 : decode cX9_thenListener 57 = .ok (.aload_n 0, 1) := by decide +kernel
theorem dX9_thenListener_58 : decode cX9_thenListener 58 = .ok (.getfield 10, 3) := by decide +kernel
theorem dX9_thenListener_61 : decode cX9_thenListener 61 = .ok (.iconst 0, 1) := by decide +kernel
theorem dX9_thenListener_62 : decode cX9_thenListener 62 = .ok (.invokevirtual 215, 3) := by decide +kernel
theorem dX9_thenListener_65 : decode cX9_thenListener 65 = .ok (.iinc 4 1, 3) := by decide +kernel
theorem dX9_thenListener_68 : decode cX9_thenListener 68 = .ok (.goto (-21), 3) := by decide +kernel
theorem dX9_thenListener_71 : decode cX9_thenListener 71 = .ok (.aload_n 0, 1) := by decide +kernel
theorem dX9_thenListener_72 : decode cX9_thenListener 72 = .ok (.getfield 64, 3) := by decide +kernel
theorem dX9_thenListener_75 : decode cX9_thenListener 75 = .ok (.aload_n 0, 1) := by decide +kernel
theorem dX9_thenListener_76 : decode cX9_thenListener 76 = .ok (.getfield 10, 3) := by decide +kernel
theorem dX9_thenListener_79 : decode cX9_thenListener 79 = .ok (.iload_n 2, 1) := by decide +kernel
theorem dX9_thenListener_80 : decode cX9_thenListener 80 = .ok (.iload_n 3, 1) := by decide +kernel
theorem dX9_thenListener_81 : decode cX9_thenListener 81 = .ok (.invokevirtual 157, 3) := by decide +kernel
theorem dX9_thenListener_84 : decode cX9_thenListener 84 = .ok (.ireturn, 1) := by decide +kernel
theorem dX9_score_0 : decode cX9_score 0 = .ok (.iload_n 1, 1) := by decide +kernel
theorem dX9_score_1 : decode cX9_score 1 = .ok (.invokestatic 96, 3) := by decide +kernel
theorem dX9_score_4 : decode cX9_score 4 = .ok (.ifCond .eq 10, 3) := by decide +kernel
theorem dX9_score_7 : decode cX9_score 7 = .ok (.iload_n 2, 1) := by decide +kernel
theorem dX9_score_8 : decode cX9_score 8 = .ok (.invokestatic 197, 3) := by decide +kernel
theorem dX9_score_11 : decode cX9_score 11 = .ok (.ifCond .ne 9, 3) := by decide +kernel
theorem dX9_score_14 : decode cX9_score 14 = .ok (.aload_n 0, 1) := by decide +kernel
theorem dX9_score_15 : decode cX9_score 15 = .ok (.iconst 1, 1) := by decide +kernel
theorem dX9_score_16 : decode cX9_score 16 = .ok (.invokevirtual 81, 3) := by decide +kernel
theorem dX9_score_19 : decode cX9_score 19 = .ok (.ireturn, 1) := by decide +kernel
theorem dX9_score_20 : decode cX9_score 20 = .ok (.aload_n 0, 1) := by decide +kernel
theorem dX9_score_21 : decode cX9_score 21 = .ok (.iload_n 2, 1) := by decide +kernel
theorem dX9_score_22 : decode cX9_score 22 = .ok (.invokevirtual 219, 3) := by decide +kernel
theorem dX9_score_25 : decode cX9_score 25 = .ok (.aload_n 0, 1) := by decide +kernel
theorem dX9_score_26 : decode cX9_score 26 = .ok (.getfield 70, 3) := by decide +kernel
theorem dX9_score_29 : decode cX9_score 29 = .ok (.aload_n 0, 1) := by decide +kernel
theorem dX9_score_30 : decode cX9_score 30 = .ok (.getfield 10, 3) := by decide +kernel
theorem dX9_score_33 : decode cX9_score 33 = .ok (.iload_n 1, 1) := by decide +kernel
theorem dX9_score_34 : decode cX9_score 34 = .ok (.aload_n 0, 1) := by decide +kernel
theorem dX9_score_35 : decode cX9_score 35 = .ok (.getfield 10, 3) := by decide +kernel
theorem dX9_score_38 : decode cX9_score 38 = .ok (.getfield 88, 3) := by decide +kernel
theorem dX9_score_41 : decode cX9_score 41 = .ok (.invokevirtual 223, 3) := by decide +kernel
theorem dX9_score_44 : decode cX9_score 44 = .ok (.ireturn, 1) := by decide +kernel
theorem dX9_place_0 : decode cX9_place 0 = .ok (.iload_n 1, 1) := by decide +kernel
theorem dX9_place_1 : decode cX9_place 1 = .ok (.invokestatic 197, 3) := by decide +kernel
theorem dX9_place_4 : decode cX9_place 4 = .ok (.ifCond .ne 9, 3) := by decide +kernel
theorem dX9_place_7 : decode cX9_place 7 = .ok (.aload_n 0, 1) := by decide +kernel
theorem dX9_place_8 : decode cX9_place 8 = .ok (.iconst 1, 1) := by decide +kernel
theorem dX9_place_9 : decode cX9_place 9 = .ok (.invokevirtual 81, 3) := by decide +kernel
theorem dX9_place_12 : decode cX9_place 12 = .ok (.ireturn, 1) := by decide +kernel
theorem dX9_place_13 : decode cX9_place 13 = .ok (.aload_n 0, 1) := by decide +kernel
theorem dX9_place_14 : decode cX9_place 14 = .ok (.iload_n 1, 1) := by decide +kernel
theorem dX9_place_15 : decode cX9_place 15 = .ok (.invokevirtual 226, 3) := by decide +kernel
theorem dX9_place_18 : decode cX9_place 18 = .ok (.aload_n 0, 1) := by decide +kernel
theorem dX9_place_19 : decode cX9_place 19 = .ok (.getfield 74, 3) := by decide +kernel
theorem dX9_place_22 : decode cX9_place 22 = .ok (.bipush 64, 2) := by decide +kernel
theorem dX9_place_24 : decode cX9_place 24 = .ok (.invokestatic 229, 3) := by decide +kernel
theorem dX9_place_27 : decode cX9_place 27 = .ok (.ireturn, 1) := by decide +kernel
theorem dX9_fromHere_0 : decode cX9_fromHere 0 = .ok (.iload_n 1, 1) := by decide +kernel
theorem dX9_fromHere_1 : decode cX9_fromHere 1 = .ok (.invokestatic 197, 3) := by decide +kernel
theorem dX9_fromHere_4 : decode cX9_fromHere 4 = .ok (.ifCond .ne 10, 3) := by decide +kernel
theorem dX9_fromHere_7 : decode cX9_fromHere 7 = .ok (.aload_n 0, 1) := by decide +kernel
theorem dX9_fromHere_8 : decode cX9_fromHere 8 = .ok (.iconst 1, 1) := by decide +kernel
theorem dX9_fromHere_9 : decode cX9_fromHere 9 = .ok (.invokevirtual 81, 3) := by decide +kernel
theorem dX9_fromHere_12 : decode cX9_fromHere 12 = .ok (.i2l, 1) := by decide +kernel
theorem dX9_fromHere_13 : decode cX9_fromHere 13 = .ok (.lreturn, 1) := by decide +kernel
theorem dX9_fromHere_14 : decode cX9_fromHere 14 = .ok (.aload_n 0, 1) := by decide +kernel
theorem dX9_fromHere_15 : decode cX9_fromHere 15 = .ok (.iload_n 1, 1) := by decide +kernel
theorem dX9_fromHere_16 : decode cX9_fromHere 16 = .ok (.invokevirtual 226, 3) := by decide +kernel
theorem dX9_fromHere_19 : decode cX9_fromHere 19 = .ok (.aload_n 0, 1) := by decide +kernel
theorem dX9_fromHere_20 : decode cX9_fromHere 20 = .ok (.getfield 74, 3) := by decide +kernel
theorem dX9_fromHere_23 : decode cX9_fromHere 23 = .ok (.aload_n 0, 1) := by decide +kernel
theorem dX9_fromHere_24 : decode cX9_fromHere 24 = .ok (.getfield 74, 3) := by decide +kernel
theorem dX9_fromHere_27 : decode cX9_fromHere 27 = .ok (.bipush 64, 2) := by decide +kernel
theorem dX9_fromHere_29 : decode cX9_fromHere 29 = .ok (.invokestatic 229, 3) := by decide +kernel
theorem dX9_fromHere_32 : decode cX9_fromHere 32 = .ok (.iaload, 1) := by decide +kernel
theorem dX9_fromHere_33 : decode cX9_fromHere 33 = .ok (.istore_n 2, 1) := by decide +kernel
theorem dX9_fromHere_34 : decode cX9_fromHere 34 = .ok (.lconst 0, 1) := by decide +kernel
theorem dX9_fromHere_35 : decode cX9_fromHere 35 = .ok (.lstore_n 3, 1) := by decide +kernel
theorem dX9_fromHere_36 : decode cX9_fromHere 36 = .ok (.iconst 0, 1) := by decide +kernel
theorem dX9_fromHere_37 : decode cX9_fromHere 37 = .ok (.istore 5, 2) := by decide +kernel
theorem dX9_fromHere_39 : decode cX9_fromHere 39 = .ok (.iload 5, 2) := by decide +kernel
theorem dX9_fromHere_41 : decode cX9_fromHere 41 = .ok (.bipush 64, 2) := by decide +kernel
theorem dX9_fromHere_43 : decode cX9_fromHere 43 = .ok (.if_icmp .ge 27, 3) := by decide +kernel
theorem dX9_fromHere_46 : decode cX9_fromHere 46 = .ok (.aload_n 0, 1) := by decide +kernel
theorem dX9_fromHere_47 : decode cX9_fromHere 47 = .ok (.getfield 74, 3) := by decide +kernel
theorem dX9_fromHere_50 : decode cX9_fromHere 50 = .ok (.iload 5, 2) := by decide +kernel
theorem dX9_fromHere_52 : decode cX9_fromHere 52 = .ok (.iaload, 1) := by decide +kernel
theorem dX9_fromHere_53 : decode cX9_fromHere 53 = .ok (.iload_n 2, 1) := by decide +kernel
theorem dX9_fromHere_54 : decode cX9_fromHere 54 = .ok (.if_icmp .ne 10, 3) := by decide +kernel
theorem dX9_fromHere_57 : decode cX9_fromHere 57 = .ok (.lload_n 3, 1) := by decide +kernel
theorem dX9_fromHere_58 : decode cX9_fromHere 58 = .ok (.lconst 1, 1) := by decide +kernel
theorem dX9_fromHere_59 : decode cX9_fromHere 59 = .ok (.iload 5, 2) := by decide +kernel
theorem dX9_fromHere_61 : decode cX9_fromHere 61 = .ok (.lshl, 1) := by decide +kernel
theorem dX9_fromHere_62 : decode cX9_fromHere 62 = .ok (.lor, 1) := by decide +kernel
theorem dX9_fromHere_63 : decode cX9_fromHere 63 = .ok (.lstore_n 3, 1) := by decide +kernel
theorem dX9_fromHere_64 : decode cX9_fromHere 64 = .ok (.iinc 5 1, 3) := by decide +kernel
theorem dX9_fromHere_67 : decode cX9_fromHere 67 = .ok (.goto (-28), 3) := by decide +kernel
theorem dX9_fromHere_70 : decode cX9_fromHere 70 = .ok (.lload_n 3, 1) := by decide +kernel
theorem dX9_fromHere_71 : decode cX9_fromHere 71 = .ok (.lreturn, 1) := by decide +kernel
theorem dX9_mooring_0 : decode cX9_mooring 0 = .ok (.aload_n 0, 1) := by decide +kernel
theorem dX9_mooring_1 : decode cX9_mooring 1 = .ok (.getfield 19, 3) := by decide +kernel
theorem dX9_mooring_4 : decode cX9_mooring 4 = .ok (.getfield 99, 3) := by decide +kernel
theorem dX9_mooring_7 : decode cX9_mooring 7 = .ok (.iload_n 1, 1) := by decide +kernel
theorem dX9_mooring_8 : decode cX9_mooring 8 = .ok (.invokevirtual 112, 3) := by decide +kernel
theorem dX9_mooring_11 : decode cX9_mooring 11 = .ok (.ifCond .eq 17, 3) := by decide +kernel
theorem dX9_mooring_14 : decode cX9_mooring 14 = .ok (.iload_n 2, 1) := by decide +kernel
theorem dX9_mooring_15 : decode cX9_mooring 15 = .ok (.invokestatic 96, 3) := by decide +kernel
theorem dX9_mooring_18 : decode cX9_mooring 18 = .ok (.ifCond .eq 10, 3) := by decide +kernel
theorem dX9_mooring_21 : decode cX9_mooring 21 = .ok (.iload_n 3, 1) := by decide +kernel
theorem dX9_mooring_22 : decode cX9_mooring 22 = .ok (.invokestatic 197, 3) := by decide +kernel
theorem dX9_mooring_25 : decode cX9_mooring 25 = .ok (.ifCond .ne 9, 3) := by decide +kernel
theorem dX9_mooring_28 : decode cX9_mooring 28 = .ok (.aload_n 0, 1) := by decide +kernel
theorem dX9_mooring_29 : decode cX9_mooring 29 = .ok (.iconst 1, 1) := by decide +kernel
theorem dX9_mooring_30 : decode cX9_mooring 30 = .ok (.invokevirtual 81, 3) := by decide +kernel
theorem dX9_mooring_33 : decode cX9_mooring 33 = .ok (.ireturn, 1) := by decide +kernel
theorem dX9_mooring_34 : decode cX9_mooring 34 = .ok (.aload_n 0, 1) := by decide +kernel
theorem dX9_mooring_35 : decode cX9_mooring 35 = .ok (.iload_n 3, 1) := by decide +kernel
theorem dX9_mooring_36 : decode cX9_mooring 36 = .ok (.invokevirtual 219, 3) := by decide +kernel
theorem dX9_mooring_39 : decode cX9_mooring 39 = .ok (.iconst 0, 1) := by decide +kernel
theorem dX9_mooring_40 : decode cX9_mooring 40 = .ok (.istore 4, 2) := by decide +kernel
theorem dX9_mooring_42 : decode cX9_mooring 42 = .ok (.iload 4, 2) := by decide +kernel
theorem dX9_mooring_44 : decode cX9_mooring 44 = .ok (.bipush 64, 2) := by decide +kernel
theorem dX9_mooring_46 : decode cX9_mooring 46 = .ok (.if_icmp .ge 61, 3) := by decide +kernel
theorem dX9_mooring_49 : decode cX9_mooring 49 = .ok (.aload_n 0, 1) := by decide +kernel
theorem dX9_mooring_50 : decode cX9_mooring 50 = .ok (.getfield 70, 3) := by decide +kernel
theorem dX9_mooring_53 : decode cX9_mooring 53 = .ok (.getfield 233, 3) := by decide +kernel
theorem dX9_mooring_56 : decode cX9_mooring 56 = .ok (.getfield 121, 3) := by decide +kernel
theorem dX9_mooring_59 : decode cX9_mooring 59 = .ok (.iload_n 1, 1) := by decide +kernel
theorem dX9_mooring_60 : decode cX9_mooring 60 = .ok (.iload 4, 2) := by decide +kernel
theorem dX9_mooring_62 : decode cX9_mooring 62 = .ok (.iastore, 1) := by decide +kernel
theorem dX9_mooring_63 : decode cX9_mooring 63 = .ok (.aload_n 0, 1) := by decide +kernel
theorem dX9_mooring_64 : decode cX9_mooring 64 = .ok (.getfield 70, 3) := by decide +kernel
theorem dX9_mooring_67 : decode cX9_mooring 67 = .ok (.aload_n 0, 1) := by decide +kernel
theorem dX9_mooring_68 : decode cX9_mooring 68 = .ok (.getfield 10, 3) := by decide +kernel
theorem dX9_mooring_71 : decode cX9_mooring 71 = .ok (.iload_n 1, 1) := by decide +kernel
theorem dX9_mooring_72 : decode cX9_mooring 72 = .ok (.invokevirtual 204, 3) := by decide +kernel
theorem dX9_mooring_75 : decode cX9_mooring 75 = .ok (.aload_n 0, 1) := by decide +kernel
theorem dX9_mooring_76 : decode cX9_mooring 76 = .ok (.getfield 74, 3) := by decide +kernel
theorem dX9_mooring_79 : decode cX9_mooring 79 = .ok (.iload 4, 2) := by decide +kernel
theorem dX9_mooring_81 : decode cX9_mooring 81 = .ok (.aload_n 0, 1) := by decide +kernel
theorem dX9_mooring_82 : decode cX9_mooring 82 = .ok (.getfield 70, 3) := by decide +kernel
theorem dX9_mooring_85 : decode cX9_mooring 85 = .ok (.aload_n 0, 1) := by decide +kernel
theorem dX9_mooring_86 : decode cX9_mooring 86 = .ok (.getfield 10, 3) := by decide +kernel
theorem dX9_mooring_89 : decode cX9_mooring 89 = .ok (.iload_n 2, 1) := by decide +kernel
theorem dX9_mooring_90 : decode cX9_mooring 90 = .ok (.aload_n 0, 1) := by decide +kernel
theorem dX9_mooring_91 : decode cX9_mooring 91 = .ok (.getfield 10, 3) := by decide +kernel
theorem dX9_mooring_94 : decode cX9_mooring 94 = .ok (.getfield 88, 3) := by decide +kernel
theorem dX9_mooring_97 : decode cX9_mooring 97 = .ok (.invokevirtual 223, 3) := by decide +kernel
theorem dX9_mooring_100 : decode cX9_mooring 100 = .ok (.iastore, 1) := by decide +kernel
theorem dX9_mooring_101 : decode cX9_mooring 101 = .ok (.iinc 4 1, 3) := by decide +kernel
theorem dX9_mooring_104 : decode cX9_mooring 104 = .ok (.goto (-62), 3) := by decide +kernel
theorem dX9_mooring_107 : decode cX9_mooring 107 = .ok (.aload_n 0, 1) := by decide +kernel
theorem dX9_mooring_108 : decode cX9_mooring 108 = .ok (.getfield 74, 3) := by decide +kernel
theorem dX9_mooring_111 : decode cX9_mooring 111 = .ok (.bipush 64, 2) := by decide +kernel
theorem dX9_mooring_113 : decode cX9_mooring 113 = .ok (.invokestatic 229, 3) := by decide +kernel
theorem dX9_mooring_116 : decode cX9_mooring 116 = .ok (.ireturn, 1) := by decide +kernel
theorem dX9_sooner_0 : decode cX9_sooner 0 = .ok (.aload_n 0, 1) := by decide +kernel
theorem dX9_sooner_1 : decode cX9_sooner 1 = .ok (.getfield 19, 3) := by decide +kernel
theorem dX9_sooner_4 : decode cX9_sooner 4 = .ok (.getfield 99, 3) := by decide +kernel
theorem dX9_sooner_7 : decode cX9_sooner 7 = .ok (.iload_n 1, 1) := by decide +kernel
theorem dX9_sooner_8 : decode cX9_sooner 8 = .ok (.invokevirtual 112, 3) := by decide +kernel
theorem dX9_sooner_11 : decode cX9_sooner 11 = .ok (.ifCond .eq 17, 3) := by decide +kernel
theorem dX9_sooner_14 : decode cX9_sooner 14 = .ok (.iload_n 2, 1) := by decide +kernel
theorem dX9_sooner_15 : decode cX9_sooner 15 = .ok (.invokestatic 96, 3) := by decide +kernel
theorem dX9_sooner_18 : decode cX9_sooner 18 = .ok (.ifCond .eq 10, 3) := by decide +kernel
theorem dX9_sooner_21 : decode cX9_sooner 21 = .ok (.iload_n 3, 1) := by decide +kernel
theorem dX9_sooner_22 : decode cX9_sooner 22 = .ok (.invokestatic 197, 3) := by decide +kernel
theorem dX9_sooner_25 : decode cX9_sooner 25 = .ok (.ifCond .ne 9, 3) := by decide +kernel
theorem dX9_sooner_28 : decode cX9_sooner 28 = .ok (.aload_n 0, 1) := by decide +kernel
theorem dX9_sooner_29 : decode cX9_sooner 29 = .ok (.iconst 1, 1) := by decide +kernel
theorem dX9_sooner_30 : decode cX9_sooner 30 = .ok (.invokevirtual 81, 3) := by decide +kernel
theorem dX9_sooner_33 : decode cX9_sooner 33 = .ok (.ireturn, 1) := by decide +kernel
theorem dX9_sooner_34 : decode cX9_sooner 34 = .ok (.aload_n 0, 1) := by decide +kernel
theorem dX9_sooner_35 : decode cX9_sooner 35 = .ok (.iload_n 3, 1) := by decide +kernel
theorem dX9_sooner_36 : decode cX9_sooner 36 = .ok (.invokevirtual 219, 3) := by decide +kernel
theorem dX9_sooner_39 : decode cX9_sooner 39 = .ok (.iconst 0, 1) := by decide +kernel
theorem dX9_sooner_40 : decode cX9_sooner 40 = .ok (.istore 4, 2) := by decide +kernel
theorem dX9_sooner_42 : decode cX9_sooner 42 = .ok (.iload 4, 2) := by decide +kernel
theorem dX9_sooner_44 : decode cX9_sooner 44 = .ok (.bipush 32, 2) := by decide +kernel
theorem dX9_sooner_46 : decode cX9_sooner 46 = .ok (.if_icmp .ge 76, 3) := by decide +kernel
theorem dX9_sooner_49 : decode cX9_sooner 49 = .ok (.aload_n 0, 1) := by decide +kernel
theorem dX9_sooner_50 : decode cX9_sooner 50 = .ok (.getfield 70, 3) := by decide +kernel
theorem dX9_sooner_53 : decode cX9_sooner 53 = .ok (.getfield 233, 3) := by decide +kernel
theorem dX9_sooner_56 : decode cX9_sooner 56 = .ok (.getfield 124, 3) := by decide +kernel
theorem dX9_sooner_59 : decode cX9_sooner 59 = .ok (.iload_n 1, 1) := by decide +kernel
theorem dX9_sooner_60 : decode cX9_sooner 60 = .ok (.aload_n 0, 1) := by decide +kernel
theorem dX9_sooner_61 : decode cX9_sooner 61 = .ok (.getfield 19, 3) := by decide +kernel
theorem dX9_sooner_64 : decode cX9_sooner 64 = .ok (.getfield 99, 3) := by decide +kernel
theorem dX9_sooner_67 : decode cX9_sooner 67 = .ok (.getfield 124, 3) := by decide +kernel
theorem dX9_sooner_70 : decode cX9_sooner 70 = .ok (.iload_n 1, 1) := by decide +kernel
theorem dX9_sooner_71 : decode cX9_sooner 71 = .ok (.iaload, 1) := by decide +kernel
theorem dX9_sooner_72 : decode cX9_sooner 72 = .ok (.iload 4, 2) := by decide +kernel
theorem dX9_sooner_74 : decode cX9_sooner 74 = .ok (.invokestatic 234, 3) := by decide +kernel
theorem dX9_sooner_77 : decode cX9_sooner 77 = .ok (.iastore, 1) := by decide +kernel
theorem dX9_sooner_78 : decode cX9_sooner 78 = .ok (.aload_n 0, 1) := by decide +kernel
theorem dX9_sooner_79 : decode cX9_sooner 79 = .ok (.getfield 70, 3) := by decide +kernel
theorem dX9_sooner_82 : decode cX9_sooner 82 = .ok (.aload_n 0, 1) := by decide +kernel
theorem dX9_sooner_83 : decode cX9_sooner 83 = .ok (.getfield 10, 3) := by decide +kernel
theorem dX9_sooner_86 : decode cX9_sooner 86 = .ok (.iload_n 1, 1) := by decide +kernel
theorem dX9_sooner_87 : decode cX9_sooner 87 = .ok (.invokevirtual 204, 3) := by decide +kernel
theorem dX9_sooner_90 : decode cX9_sooner 90 = .ok (.aload_n 0, 1) := by decide +kernel
theorem dX9_sooner_91 : decode cX9_sooner 91 = .ok (.getfield 74, 3) := by decide +kernel
theorem dX9_sooner_94 : decode cX9_sooner 94 = .ok (.iload 4, 2) := by decide +kernel
theorem dX9_sooner_96 : decode cX9_sooner 96 = .ok (.aload_n 0, 1) := by decide +kernel
theorem dX9_sooner_97 : decode cX9_sooner 97 = .ok (.getfield 70, 3) := by decide +kernel
theorem dX9_sooner_100 : decode cX9_sooner 100 = .ok (.aload_n 0, 1) := by decide +kernel
theorem dX9_sooner_101 : decode cX9_sooner 101 = .ok (.getfield 10, 3) := by decide +kernel
theorem dX9_sooner_104 : decode cX9_sooner 104 = .ok (.iload_n 2, 1) := by decide +kernel
theorem dX9_sooner_105 : decode cX9_sooner 105 = .ok (.aload_n 0, 1) := by decide +kernel
theorem dX9_sooner_106 : decode cX9_sooner 106 = .ok (.getfield 10, 3) := by decide +kernel
theorem dX9_sooner_109 : decode cX9_sooner 109 = .ok (.getfield 88, 3) := by decide +kernel
theorem dX9_sooner_112 : decode cX9_sooner 112 = .ok (.invokevirtual 223, 3) := by decide +kernel
theorem dX9_sooner_115 : decode cX9_sooner 115 = .ok (.iastore, 1) := by decide +kernel
theorem dX9_sooner_116 : decode cX9_sooner 116 = .ok (.iinc 4 1, 3) := by decide +kernel
theorem dX9_sooner_119 : decode cX9_sooner 119 = .ok (.goto (-77), 3) := by decide +kernel
theorem dX9_sooner_122 : decode cX9_sooner 122 = .ok (.aload_n 0, 1) := by decide +kernel
theorem dX9_sooner_123 : decode cX9_sooner 123 = .ok (.getfield 74, 3) := by decide +kernel
theorem dX9_sooner_126 : decode cX9_sooner 126 = .ok (.bipush 32, 2) := by decide +kernel
theorem dX9_sooner_128 : decode cX9_sooner 128 = .ok (.invokestatic 229, 3) := by decide +kernel
theorem dX9_sooner_131 : decode cX9_sooner 131 = .ok (.ireturn, 1) := by decide +kernel
theorem dX9_fitSpeed_0 : decode cX9_fitSpeed 0 = .ok (.iload_n 1, 1) := by decide +kernel
theorem dX9_fitSpeed_1 : decode cX9_fitSpeed 1 = .ok (.invokestatic 96, 3) := by decide +kernel
theorem dX9_fitSpeed_4 : decode cX9_fitSpeed 4 = .ok (.ifCond .eq 10, 3) := by decide +kernel
theorem dX9_fitSpeed_7 : decode cX9_fitSpeed 7 = .ok (.iload_n 2, 1) := by decide +kernel
theorem dX9_fitSpeed_8 : decode cX9_fitSpeed 8 = .ok (.invokestatic 197, 3) := by decide +kernel
theorem dX9_fitSpeed_11 : decode cX9_fitSpeed 11 = .ok (.ifCond .ne 9, 3) := by decide +kernel
theorem dX9_fitSpeed_14 : decode cX9_fitSpeed 14 = .ok (.aload_n 0, 1) := by decide +kernel
theorem dX9_fitSpeed_15 : decode cX9_fitSpeed 15 = .ok (.iconst 1, 1) := by decide +kernel
theorem dX9_fitSpeed_16 : decode cX9_fitSpeed 16 = .ok (.invokevirtual 81, 3) := by decide +kernel
theorem dX9_fitSpeed_19 : decode cX9_fitSpeed 19 = .ok (.ireturn, 1) := by decide +kernel
theorem dX9_fitSpeed_20 : decode cX9_fitSpeed 20 = .ok (.aload_n 0, 1) := by decide +kernel
theorem dX9_fitSpeed_21 : decode cX9_fitSpeed 21 = .ok (.iload_n 2, 1) := by decide +kernel
theorem dX9_fitSpeed_22 : decode cX9_fitSpeed 22 = .ok (.invokevirtual 219, 3) := by decide +kernel
theorem dX9_fitSpeed_25 : decode cX9_fitSpeed 25 = .ok (.iconst 1, 1) := by decide +kernel
theorem dX9_fitSpeed_26 : decode cX9_fitSpeed 26 = .ok (.istore_n 3, 1) := by decide +kernel
theorem dX9_fitSpeed_27 : decode cX9_fitSpeed 27 = .ok (.iload_n 3, 1) := by decide +kernel
theorem dX9_fitSpeed_28 : decode cX9_fitSpeed 28 = .ok (.bipush 9, 2) := by decide +kernel
theorem dX9_fitSpeed_30 : decode cX9_fitSpeed 30 = .ok (.if_icmp .gt 30, 3) := by decide +kernel
theorem dX9_fitSpeed_33 : decode cX9_fitSpeed 33 = .ok (.aload_n 0, 1) := by decide +kernel
theorem dX9_fitSpeed_34 : decode cX9_fitSpeed 34 = .ok (.getfield 74, 3) := by decide +kernel
theorem dX9_fitSpeed_37 : decode cX9_fitSpeed 37 = .ok (.iload_n 3, 1) := by decide +kernel
theorem dX9_fitSpeed_38 : decode cX9_fitSpeed 38 = .ok (.iconst 1, 1) := by decide +kernel
theorem dX9_fitSpeed_39 : decode cX9_fitSpeed 39 = .ok (.isub, 1) := by decide +kernel
theorem dX9_fitSpeed_40 : decode cX9_fitSpeed 40 = .ok (.aload_n 0, 1) := by decide +kernel
theorem dX9_fitSpeed_41 : decode cX9_fitSpeed 41 = .ok (.getfield 70, 3) := by decide +kernel
theorem dX9_fitSpeed_44 : decode cX9_fitSpeed 44 = .ok (.aload_n 0, 1) := by decide +kernel
theorem dX9_fitSpeed_45 : decode cX9_fitSpeed 45 = .ok (.getfield 10, 3) := by decide +kernel
theorem dX9_fitSpeed_48 : decode cX9_fitSpeed 48 = .ok (.iload_n 1, 1) := by decide +kernel
theorem dX9_fitSpeed_49 : decode cX9_fitSpeed 49 = .ok (.iload_n 3, 1) := by decide +kernel
theorem dX9_fitSpeed_50 : decode cX9_fitSpeed 50 = .ok (.invokevirtual 223, 3) := by decide +kernel
theorem dX9_fitSpeed_53 : decode cX9_fitSpeed 53 = .ok (.iastore, 1) := by decide +kernel
theorem dX9_fitSpeed_54 : decode cX9_fitSpeed 54 = .ok (.iinc 3 1, 3) := by decide +kernel
theorem dX9_fitSpeed_57 : decode cX9_fitSpeed 57 = .ok (.goto (-30), 3) := by decide +kernel
theorem dX9_fitSpeed_60 : decode cX9_fitSpeed 60 = .ok (.aload_n 0, 1) := by decide +kernel
theorem dX9_fitSpeed_61 : decode cX9_fitSpeed 61 = .ok (.getfield 74, 3) := by decide +kernel
theorem dX9_fitSpeed_64 : decode cX9_fitSpeed 64 = .ok (.bipush 9, 2) := by decide +kernel
theorem dX9_fitSpeed_66 : decode cX9_fitSpeed 66 = .ok (.invokestatic 229, 3) := by decide +kernel
theorem dX9_fitSpeed_69 : decode cX9_fitSpeed 69 = .ok (.iconst 1, 1) := by decide +kernel
theorem dX9_fitSpeed_70 : decode cX9_fitSpeed 70 = .ok (.iadd, 1) := by decide +kernel
theorem dX9_fitSpeed_71 : decode cX9_fitSpeed 71 = .ok (.ireturn, 1) := by decide +kernel
theorem dX9_fromWhere_0 : decode cX9_fromWhere 0 = .ok (.iload_n 1, 1) := by decide +kernel
theorem dX9_fromWhere_1 : decode cX9_fromWhere 1 = .ok (.invokestatic 239, 3) := by decide +kernel
theorem dX9_fromWhere_4 : decode cX9_fromWhere 4 = .ok (.ifCond .eq 10, 3) := by decide +kernel
theorem dX9_fromWhere_7 : decode cX9_fromWhere 7 = .ok (.iload_n 2, 1) := by decide +kernel
theorem dX9_fromWhere_8 : decode cX9_fromWhere 8 = .ok (.invokestatic 242, 3) := by decide +kernel
theorem dX9_fromWhere_11 : decode cX9_fromWhere 11 = .ok (.ifCond .ne 9, 3) := by decide +kernel
theorem dX9_fromWhere_14 : decode cX9_fromWhere 14 = .ok (.aload_n 0, 1) := by decide +kernel
theorem dX9_fromWhere_15 : decode cX9_fromWhere 15 = .ok (.iconst 1, 1) := by decide +kernel
theorem dX9_fromWhere_16 : decode cX9_fromWhere 16 = .ok (.invokevirtual 81, 3) := by decide +kernel
theorem dX9_fromWhere_19 : decode cX9_fromWhere 19 = .ok (.ireturn, 1) := by decide +kernel
theorem dX9_fromWhere_20 : decode cX9_fromWhere 20 = .ok (.aload_n 0, 1) := by decide +kernel
theorem dX9_fromWhere_21 : decode cX9_fromWhere 21 = .ok (.iload_n 1, 1) := by decide +kernel
theorem dX9_fromWhere_22 : decode cX9_fromWhere 22 = .ok (.iload_n 2, 1) := by decide +kernel
theorem dX9_fromWhere_23 : decode cX9_fromWhere 23 = .ok (.invokevirtual 245, 3) := by decide +kernel
theorem dX9_fromWhere_26 : decode cX9_fromWhere 26 = .ok (.invokestatic 249, 3) := by decide +kernel
theorem dX9_fromWhere_29 : decode cX9_fromWhere 29 = .ok (.ireturn, 1) := by decide +kernel
theorem dX9_whereFrom_0 : decode cX9_whereFrom 0 = .ok (.iload_n 1, 1) := by decide +kernel
theorem dX9_whereFrom_1 : decode cX9_whereFrom 1 = .ok (.invokestatic 239, 3) := by decide +kernel
theorem dX9_whereFrom_4 : decode cX9_whereFrom 4 = .ok (.ifCond .eq 14, 3) := by decide +kernel
theorem dX9_whereFrom_7 : decode cX9_whereFrom 7 = .ok (.iload_n 2, 1) := by decide +kernel
theorem dX9_whereFrom_8 : decode cX9_whereFrom 8 = .ok (.invokestatic 242, 3) := by decide +kernel
theorem dX9_whereFrom_11 : decode cX9_whereFrom 11 = .ok (.ifCond .eq 7, 3) := by decide +kernel
theorem dX9_whereFrom_14 : decode cX9_whereFrom 14 = .ok (.iload_n 3, 1) := by decide +kernel
theorem dX9_whereFrom_15 : decode cX9_whereFrom 15 = .ok (.ifCond .ge 9, 3) := by decide +kernel
theorem dX9_whereFrom_18 : decode cX9_whereFrom 18 = .ok (.aload_n 0, 1) := by decide +kernel
theorem dX9_whereFrom_19 : decode cX9_whereFrom 19 = .ok (.iconst 1, 1) := by decide +kernel
theorem dX9_whereFrom_20 : decode cX9_whereFrom 20 = .ok (.invokevirtual 81, 3) := by decide +kernel
theorem dX9_whereFrom_23 : decode cX9_whereFrom 23 = .ok (.ireturn, 1) := by decide +kernel
theorem dX9_whereFrom_24 : decode cX9_whereFrom 24 = .ok (.aload_n 0, 1) := by decide +kernel
theorem dX9_whereFrom_25 : decode cX9_whereFrom 25 = .ok (.iload_n 1, 1) := by decide +kernel
theorem dX9_whereFrom_26 : decode cX9_whereFrom 26 = .ok (.iload_n 2, 1) := by decide +kernel
theorem dX9_whereFrom_27 : decode cX9_whereFrom 27 = .ok (.invokevirtual 245, 3) := by decide +kernel
theorem dX9_whereFrom_30 : decode cX9_whereFrom 30 = .ok (.lstore 4, 2) := by decide +kernel
theorem dX9_whereFrom_32 : decode cX9_whereFrom 32 = .ok (.iconst 0, 1) := by decide +kernel
theorem dX9_whereFrom_33 : decode cX9_whereFrom 33 = .ok (.istore 6, 2) := by decide +kernel
theorem dX9_whereFrom_35 : decode cX9_whereFrom 35 = .ok (.iconst 0, 1) := by decide +kernel
theorem dX9_whereFrom_36 : decode cX9_whereFrom 36 = .ok (.istore 7, 2) := by decide +kernel
theorem dX9_whereFrom_38 : decode cX9_whereFrom 38 = .ok (.iload 7, 2) := by decide +kernel
theorem dX9_whereFrom_40 : decode cX9_whereFrom 40 = .ok (.bipush 64, 2) := by decide +kernel
theorem dX9_whereFrom_42 : decode cX9_whereFrom 42 = .ok (.if_icmp .ge 36, 3) := by decide +kernel
theorem dX9_whereFrom_45 : decode cX9_whereFrom 45 = .ok (.lload 4, 2) := by decide +kernel
theorem dX9_whereFrom_47 : decode cX9_whereFrom 47 = .ok (.iload 7, 2) := by decide +kernel
theorem dX9_whereFrom_49 : decode cX9_whereFrom 49 = .ok (.lushr, 1) := by decide +kernel
theorem dX9_whereFrom_50 : decode cX9_whereFrom 50 = .ok (.lconst 1, 1) := by decide +kernel
theorem dX9_whereFrom_51 : decode cX9_whereFrom 51 = .ok (.land, 1) := by decide +kernel
theorem dX9_whereFrom_52 : decode cX9_whereFrom 52 = .ok (.lconst 0, 1) := by decide +kernel
theorem dX9_whereFrom_53 : decode cX9_whereFrom 53 = .ok (.lcmp, 1) := by decide +kernel
theorem dX9_whereFrom_54 : decode cX9_whereFrom 54 = .ok (.ifCond .ne 6, 3) := by decide +kernel
theorem dX9_whereFrom_57 : decode cX9_whereFrom 57 = .ok (.goto 15, 3) := by decide +kernel
theorem dX9_whereFrom_60 : decode cX9_whereFrom 60 = .ok (.iload 6, 2) := by decide +kernel
theorem dX9_whereFrom_62 : decode cX9_whereFrom 62 = .ok (.iload_n 3, 1) := by decide +kernel
theorem dX9_whereFrom_63 : decode cX9_whereFrom 63 = .ok (.if_icmp .ne 6, 3) := by decide +kernel
theorem dX9_whereFrom_66 : decode cX9_whereFrom 66 = .ok (.iload 7, 2) := by decide +kernel
theorem dX9_whereFrom_68 : decode cX9_whereFrom 68 = .ok (.ireturn, 1) := by decide +kernel
theorem dX9_whereFrom_69 : decode cX9_whereFrom 69 = .ok (.iinc 6 1, 3) := by decide +kernel
theorem dX9_whereFrom_72 : decode cX9_whereFrom 72 = .ok (.iinc 7 1, 3) := by decide +kernel
theorem dX9_whereFrom_75 : decode cX9_whereFrom 75 = .ok (.goto (-37), 3) := by decide +kernel
theorem dX9_whereFrom_78 : decode cX9_whereFrom 78 = .ok (.aload_n 0, 1) := by decide +kernel
theorem dX9_whereFrom_79 : decode cX9_whereFrom 79 = .ok (.iconst 2, 1) := by decide +kernel
theorem dX9_whereFrom_80 : decode cX9_whereFrom 80 = .ok (.invokevirtual 81, 3) := by decide +kernel
theorem dX9_whereFrom_83 : decode cX9_whereFrom 83 = .ok (.ireturn, 1) := by decide +kernel
theorem dX9_strokes_0 : decode cX9_strokes 0 = .ok (.aload_n 0, 1) := by decide +kernel
theorem dX9_strokes_1 : decode cX9_strokes 1 = .ok (.getfield 19, 3) := by decide +kernel
theorem dX9_strokes_4 : decode cX9_strokes 4 = .ok (.getfield 99, 3) := by decide +kernel
theorem dX9_strokes_7 : decode cX9_strokes 7 = .ok (.iload_n 1, 1) := by decide +kernel
theorem dX9_strokes_8 : decode cX9_strokes 8 = .ok (.invokevirtual 112, 3) := by decide +kernel
theorem dX9_strokes_11 : decode cX9_strokes 11 = .ok (.ifCond .eq 10, 3) := by decide +kernel
theorem dX9_strokes_14 : decode cX9_strokes 14 = .ok (.iload_n 2, 1) := by decide +kernel
theorem dX9_strokes_15 : decode cX9_strokes 15 = .ok (.invokestatic 197, 3) := by decide +kernel
theorem dX9_strokes_18 : decode cX9_strokes 18 = .ok (.ifCond .ne 9, 3) := by decide +kernel
theorem dX9_strokes_21 : decode cX9_strokes 21 = .ok (.aload_n 0, 1) := by decide +kernel
theorem dX9_strokes_22 : decode cX9_strokes 22 = .ok (.iconst 1, 1) := by decide +kernel
theorem dX9_strokes_23 : decode cX9_strokes 23 = .ok (.invokevirtual 81, 3) := by decide +kernel
theorem dX9_strokes_26 : decode cX9_strokes 26 = .ok (.ireturn, 1) := by decide +kernel
theorem dX9_strokes_27 : decode cX9_strokes 27 = .ok (.aload_n 0, 1) := by decide +kernel
theorem dX9_strokes_28 : decode cX9_strokes 28 = .ok (.getfield 70, 3) := by decide +kernel
theorem dX9_strokes_31 : decode cX9_strokes 31 = .ok (.aload_n 0, 1) := by decide +kernel
theorem dX9_strokes_32 : decode cX9_strokes 32 = .ok (.getfield 19, 3) := by decide +kernel
theorem dX9_strokes_35 : decode cX9_strokes 35 = .ok (.iload_n 2, 1) := by decide +kernel
theorem dX9_strokes_36 : decode cX9_strokes 36 = .ok (.invokevirtual 200, 3) := by decide +kernel
theorem dX9_strokes_39 : decode cX9_strokes 39 = .ok (.aload_n 0, 1) := by decide +kernel
theorem dX9_strokes_40 : decode cX9_strokes 40 = .ok (.getfield 70, 3) := by decide +kernel
theorem dX9_strokes_43 : decode cX9_strokes 43 = .ok (.aload_n 0, 1) := by decide +kernel
theorem dX9_strokes_44 : decode cX9_strokes 44 = .ok (.getfield 10, 3) := by decide +kernel
theorem dX9_strokes_47 : decode cX9_strokes 47 = .ok (.iload_n 1, 1) := by decide +kernel
theorem dX9_strokes_48 : decode cX9_strokes 48 = .ok (.invokevirtual 204, 3) := by decide +kernel
theorem dX9_strokes_51 : decode cX9_strokes 51 = .ok (.iconst 0, 1) := by decide +kernel
theorem dX9_strokes_52 : decode cX9_strokes 52 = .ok (.istore_n 3, 1) := by decide +kernel
theorem dX9_strokes_53 : decode cX9_strokes 53 = .ok (.iconst 0, 1) := by decide +kernel
theorem dX9_strokes_54 : decode cX9_strokes 54 = .ok (.istore 4, 2) := by decide +kernel
theorem dX9_strokes_56 : decode cX9_strokes 56 = .ok (.iload 4, 2) := by decide +kernel
theorem dX9_strokes_58 : decode cX9_strokes 58 = .ok (.iload_n 2, 1) := by decide +kernel
theorem dX9_strokes_59 : decode cX9_strokes 59 = .ok (.if_icmp .ge 37, 3) := by decide +kernel
theorem dX9_strokes_62 : decode cX9_strokes 62 = .ok (.aload_n 0, 1) := by decide +kernel
theorem dX9_strokes_63 : decode cX9_strokes 63 = .ok (.getfield 70, 3) := by decide +kernel
theorem dX9_strokes_66 : decode cX9_strokes 66 = .ok (.iload 4, 2) := by decide +kernel
theorem dX9_strokes_68 : decode cX9_strokes 68 = .ok (.iload_n 1, 1) := by decide +kernel
theorem dX9_strokes_69 : decode cX9_strokes 69 = .ok (.invokevirtual 208, 3) := by decide +kernel
theorem dX9_strokes_72 : decode cX9_strokes 72 = .ok (.aload_n 0, 1) := by decide +kernel
theorem dX9_strokes_73 : decode cX9_strokes 73 = .ok (.getfield 70, 3) := by decide +kernel
theorem dX9_strokes_76 : decode cX9_strokes 76 = .ok (.iload 4, 2) := by decide +kernel
theorem dX9_strokes_78 : decode cX9_strokes 78 = .ok (.iconst 1, 1) := by decide +kernel
theorem dX9_strokes_79 : decode cX9_strokes 79 = .ok (.iadd, 1) := by decide +kernel
theorem dX9_strokes_80 : decode cX9_strokes 80 = .ok (.iload_n 1, 1) := by decide +kernel
theorem dX9_strokes_81 : decode cX9_strokes 81 = .ok (.invokevirtual 208, 3) := by decide +kernel
theorem dX9_strokes_84 : decode cX9_strokes 84 = .ok (.if_icmp .eq 6, 3) := by decide +kernel
theorem dX9_strokes_87 : decode cX9_strokes 87 = .ok (.iinc 3 1, 3) := by decide +kernel
theorem dX9_strokes_90 : decode cX9_strokes 90 = .ok (.iinc 4 1, 3) := by decide +kernel
theorem dX9_strokes_93 : decode cX9_strokes 93 = .ok (.goto (-37), 3) := by decide +kernel
theorem dX9_strokes_96 : decode cX9_strokes 96 = .ok (.iload_n 3, 1) := by decide +kernel
theorem dX9_strokes_97 : decode cX9_strokes 97 = .ok (.ireturn, 1) := by decide +kernel
theorem dX9_seed_0 : decode cX9_seed 0 = .ok (.aload_n 0, 1) := by decide +kernel
theorem dX9_seed_1 : decode cX9_seed 1 = .ok (.getfield 19, 3) := by decide +kernel
theorem dX9_seed_4 : decode cX9_seed 4 = .ok (.getfield 255, 3) := by decide +kernel
theorem dX9_seed_7 : decode cX9_seed 7 = .ok (.istore_n 2, 1) := by decide +kernel
theorem dX9_seed_8 : decode cX9_seed 8 = .ok (.aload_n 0, 1) := by decide +kernel
theorem dX9_seed_9 : decode cX9_seed 9 = .ok (.getfield 19, 3) := by decide +kernel
theorem dX9_seed_12 : decode cX9_seed 12 = .ok (.iload_n 1, 1) := by decide +kernel
theorem dX9_seed_13 : decode cX9_seed 13 = .ok (.putfield 255, 3) := by decide +kernel
theorem dX9_seed_16 : decode cX9_seed 16 = .ok (.iload_n 2, 1) := by decide +kernel
theorem dX9_seed_17 : decode cX9_seed 17 = .ok (.ireturn, 1) := by decide +kernel
theorem dX9_voice_0 : decode cX9_voice 0 = .ok (.aload_n 0, 1) := by decide +kernel
theorem dX9_voice_1 : decode cX9_voice 1 = .ok (.getfield 19, 3) := by decide +kernel
theorem dX9_voice_4 : decode cX9_voice 4 = .ok (.getfield 99, 3) := by decide +kernel
theorem dX9_voice_7 : decode cX9_voice 7 = .ok (.astore 4, 2) := by decide +kernel
theorem dX9_voice_9 : decode cX9_voice 9 = .ok (.aload 4, 2) := by decide +kernel
theorem dX9_voice_11 : decode cX9_voice 11 = .ok (.iload_n 1, 1) := by decide +kernel
theorem dX9_voice_12 : decode cX9_voice 12 = .ok (.invokevirtual 112, 3) := by decide +kernel
theorem dX9_voice_15 : decode cX9_voice 15 = .ok (.ifCond .eq 12, 3) := by decide +kernel
theorem dX9_voice_18 : decode cX9_voice 18 = .ok (.iload_n 2, 1) := by decide +kernel
theorem dX9_voice_19 : decode cX9_voice 19 = .ok (.iconst 0, 1) := by decide +kernel
theorem dX9_voice_20 : decode cX9_voice 20 = .ok (.iconst 3, 1) := by decide +kernel
theorem dX9_voice_21 : decode cX9_voice 21 = .ok (.invokestatic 77, 3) := by decide +kernel
theorem dX9_voice_24 : decode cX9_voice 24 = .ok (.ifCond .ne 9, 3) := by decide +kernel
theorem dX9_voice_27 : decode cX9_voice 27 = .ok (.aload_n 0, 1) := by decide +kernel
theorem dX9_voice_28 : decode cX9_voice 28 = .ok (.iconst 1, 1) := by decide +kernel
theorem dX9_voice_29 : decode cX9_voice 29 = .ok (.invokevirtual 81, 3) := by decide +kernel
theorem dX9_voice_32 : decode cX9_voice 32 = .ok (.ireturn, 1) := by decide +kernel
theorem dX9_voice_33 : decode cX9_voice 33 = .ok (.aload_n 0, 1) := by decide +kernel
theorem dX9_voice_34 : decode cX9_voice 34 = .ok (.getfield 49, 3) := by decide +kernel
theorem dX9_voice_37 : decode cX9_voice 37 = .ok (.iload_n 1, 1) := by decide +kernel
theorem dX9_voice_38 : decode cX9_voice 38 = .ok (.aload 4, 2) := by decide +kernel
theorem dX9_voice_40 : decode cX9_voice 40 = .ok (.getfield 115, 3) := by decide +kernel
theorem dX9_voice_43 : decode cX9_voice 43 = .ok (.iload_n 1, 1) := by decide +kernel
theorem dX9_voice_44 : decode cX9_voice 44 = .ok (.iaload, 1) := by decide +kernel
theorem dX9_voice_45 : decode cX9_voice 45 = .ok (.aload 4, 2) := by decide +kernel
theorem dX9_voice_47 : decode cX9_voice 47 = .ok (.getfield 118, 3) := by decide +kernel
theorem dX9_voice_50 : decode cX9_voice 50 = .ok (.iload_n 1, 1) := by decide +kernel
theorem dX9_voice_51 : decode cX9_voice 51 = .ok (.iaload, 1) := by decide +kernel
theorem dX9_voice_52 : decode cX9_voice 52 = .ok (.iload_n 2, 1) := by decide +kernel
theorem dX9_voice_53 : decode cX9_voice 53 = .ok (.iload_n 3, 1) := by decide +kernel
theorem dX9_voice_54 : decode cX9_voice 54 = .ok (.invokevirtual 258, 3) := by decide +kernel
theorem dX9_voice_57 : decode cX9_voice 57 = .ok (.ireturn, 1) := by decide +kernel
theorem dX9_trace_0 : decode cX9_trace 0 = .ok (.iload_n 1, 1) := by decide +kernel
theorem dX9_trace_1 : decode cX9_trace 1 = .ok (.ifCond .lt 26, 3) := by decide +kernel
theorem dX9_trace_4 : decode cX9_trace 4 = .ok (.iload_n 1, 1) := by decide +kernel
theorem dX9_trace_5 : decode cX9_trace 5 = .ok (.aload_n 0, 1) := by decide +kernel
theorem dX9_trace_6 : decode cX9_trace 6 = .ok (.getfield 49, 3) := by decide +kernel
theorem dX9_trace_9 : decode cX9_trace 9 = .ok (.getfield 262, 3) := by decide +kernel
theorem dX9_trace_12 : decode cX9_trace 12 = .ok (.if_icmp .ge 15, 3) := by decide +kernel
theorem dX9_trace_15 : decode cX9_trace 15 = .ok (.iload_n 1, 1) := by decide +kernel
theorem dX9_trace_16 : decode cX9_trace 16 = .ok (.aload_n 0, 1) := by decide +kernel
theorem dX9_trace_17 : decode cX9_trace 17 = .ok (.getfield 49, 3) := by decide +kernel
theorem dX9_trace_20 : decode cX9_trace 20 = .ok (.getfield 265, 3) := by decide +kernel
theorem dX9_trace_23 : decode cX9_trace 23 = .ok (.arraylength, 1) := by decide +kernel
theorem dX9_trace_24 : decode cX9_trace 24 = .ok (.if_icmp .lt 9, 3) := by decide +kernel
theorem dX9_trace_27 : decode cX9_trace 27 = .ok (.aload_n 0, 1) := by decide +kernel
theorem dX9_trace_28 : decode cX9_trace 28 = .ok (.iconst 2, 1) := by decide +kernel
theorem dX9_trace_29 : decode cX9_trace 29 = .ok (.invokevirtual 81, 3) := by decide +kernel
theorem dX9_trace_32 : decode cX9_trace 32 = .ok (.ireturn, 1) := by decide +kernel
theorem dX9_trace_33 : decode cX9_trace 33 = .ok (.aload_n 0, 1) := by decide +kernel
theorem dX9_trace_34 : decode cX9_trace 34 = .ok (.getfield 49, 3) := by decide +kernel
theorem dX9_trace_37 : decode cX9_trace 37 = .ok (.getfield 265, 3) := by decide +kernel
theorem dX9_trace_40 : decode cX9_trace 40 = .ok (.iload_n 1, 1) := by decide +kernel
theorem dX9_trace_41 : decode cX9_trace 41 = .ok (.iaload, 1) := by decide +kernel
theorem dX9_trace_42 : decode cX9_trace 42 = .ok (.ireturn, 1) := by decide +kernel
theorem dX9_sheet_0 : decode cX9_sheet 0 = .ok (.aload_n 0, 1) := by decide +kernel
theorem dX9_sheet_1 : decode cX9_sheet 1 = .ok (.iload_n 1, 1) := by decide +kernel
theorem dX9_sheet_2 : decode cX9_sheet 2 = .ok (.invokevirtual 268, 3) := by decide +kernel
theorem dX9_sheet_5 : decode cX9_sheet 5 = .ok (.astore 4, 2) := by decide +kernel
theorem dX9_sheet_7 : decode cX9_sheet 7 = .ok (.aload 4, 2) := by decide +kernel
theorem dX9_sheet_9 : decode cX9_sheet 9 = .ok (.ifnonnull 9, 3) := by decide +kernel
theorem dX9_sheet_12 : decode cX9_sheet 12 = .ok (.aload_n 0, 1) := by decide +kernel
theorem dX9_sheet_13 : decode cX9_sheet 13 = .ok (.iconst 1, 1) := by decide +kernel
theorem dX9_sheet_14 : decode cX9_sheet 14 = .ok (.invokevirtual 81, 3) := by decide +kernel
theorem dX9_sheet_17 : decode cX9_sheet 17 = .ok (.ireturn, 1) := by decide +kernel
theorem dX9_sheet_18 : decode cX9_sheet 18 = .ok (.iload_n 2, 1) := by decide +kernel
theorem dX9_sheet_19 : decode cX9_sheet 19 = .ok (.ifCond .eq 27, 3) := by decide +kernel
theorem dX9_sheet_22 : decode cX9_sheet 22 = .ok (.iload_n 2, 1) := by decide +kernel
theorem dX9_sheet_23 : decode cX9_sheet 23 = .ok (.bipush 8, 2) := by decide +kernel
theorem dX9_sheet_25 : decode cX9_sheet 25 = .ok (.if_icmp .eq 21, 3) := by decide +kernel
theorem dX9_sheet_28 : decode cX9_sheet 28 = .ok (.iload_n 2, 1) := by decide +kernel
theorem dX9_sheet_29 : decode cX9_sheet 29 = .ok (.bipush 16, 2) := by decide +kernel
theorem dX9_sheet_31 : decode cX9_sheet 31 = .ok (.if_icmp .eq 15, 3) := by decide +kernel
theorem dX9_sheet_34 : decode cX9_sheet 34 = .ok (.iload_n 2, 1) := by decide +kernel
theorem dX9_sheet_35 : decode cX9_sheet 35 = .ok (.bipush 32, 2) := by decide +kernel
theorem dX9_sheet_37 : decode cX9_sheet 37 = .ok (.if_icmp .eq 9, 3) := by decide +kernel
theorem dX9_sheet_40 : decode cX9_sheet 40 = .ok (.aload_n 0, 1) := by decide +kernel
theorem dX9_sheet_41 : decode cX9_sheet 41 = .ok (.iconst 1, 1) := by decide +kernel
theorem dX9_sheet_42 : decode cX9_sheet 42 = .ok (.invokevirtual 81, 3) := by decide +kernel
theorem dX9_sheet_45 : decode cX9_sheet 45 = .ok (.ireturn, 1) := by decide +kernel
theorem dX9_sheet_46 : decode cX9_sheet 46 = .ok (.iload_n 2, 1) := by decide +kernel
theorem dX9_sheet_47 : decode cX9_sheet 47 = .ok (.ifCond .eq 13, 3) := by decide +kernel
theorem dX9_sheet_50 : decode cX9_sheet 50 = .ok (.iload_n 3, 1) := by decide +kernel
theorem dX9_sheet_51 : decode cX9_sheet 51 = .ok (.ifCond .ge 9, 3) := by decide +kernel
theorem dX9_sheet_54 : decode cX9_sheet 54 = .ok (.aload_n 0, 1) := by decide +kernel
theorem dX9_sheet_55 : decode cX9_sheet 55 = .ok (.iconst 3, 1) := by decide +kernel
theorem dX9_sheet_56 : decode cX9_sheet 56 = .ok (.invokevirtual 81, 3) := by decide +kernel
theorem dX9_sheet_59 : decode cX9_sheet 59 = .ok (.ireturn, 1) := by decide +kernel
theorem dX9_sheet_60 : decode cX9_sheet 60 = .ok (.iload_n 2, 1) := by decide +kernel
theorem dX9_sheet_61 : decode cX9_sheet 61 = .ok (.ifCond .eq 15, 3) := by decide +kernel
theorem dX9_sheet_64 : decode cX9_sheet 64 = .ok (.iload_n 3, 1) := by decide +kernel
theorem dX9_sheet_65 : decode cX9_sheet 65 = .ok (.bipush 40, 2) := by decide +kernel
theorem dX9_sheet_67 : decode cX9_sheet 67 = .ok (.if_icmp .le 9, 3) := by decide +kernel
theorem dX9_sheet_70 : decode cX9_sheet 70 = .ok (.aload_n 0, 1) := by decide +kernel
theorem dX9_sheet_71 : decode cX9_sheet 71 = .ok (.iconst 1, 1) := by decide +kernel
theorem dX9_sheet_72 : decode cX9_sheet 72 = .ok (.invokevirtual 81, 3) := by decide +kernel
theorem dX9_sheet_75 : decode cX9_sheet 75 = .ok (.ireturn, 1) := by decide +kernel
theorem dX9_sheet_76 : decode cX9_sheet 76 = .ok (.aload 4, 2) := by decide +kernel
theorem dX9_sheet_78 : decode cX9_sheet 78 = .ok (.iload_n 2, 1) := by decide +kernel
theorem dX9_sheet_79 : decode cX9_sheet 79 = .ok (.iload_n 2, 1) := by decide +kernel
theorem dX9_sheet_80 : decode cX9_sheet 80 = .ok (.ifCond .ne 7, 3) := by decide +kernel
theorem dX9_sheet_83 : decode cX9_sheet 83 = .ok (.iconst 0, 1) := by decide +kernel
theorem dX9_sheet_84 : decode cX9_sheet 84 = .ok (.goto 4, 3) := by decide +kernel
theorem dX9_sheet_87 : decode cX9_sheet 87 = .ok (.iload_n 3, 1) := by decide +kernel
theorem dX9_sheet_88 : decode cX9_sheet 88 = .ok (.invokevirtual 272, 3) := by decide +kernel
theorem dX9_sheet_91 : decode cX9_sheet 91 = .ok (.iconst 1, 1) := by decide +kernel
theorem dX9_sheet_92 : decode cX9_sheet 92 = .ok (.ireturn, 1) := by decide +kernel
theorem dX9_put_0 : decode cX9_put 0 = .ok (.aload_n 0, 1) := by decide +kernel
theorem dX9_put_1 : decode cX9_put 1 = .ok (.iload_n 1, 1) := by decide +kernel
theorem dX9_put_2 : decode cX9_put 2 = .ok (.invokevirtual 268, 3) := by decide +kernel
theorem dX9_put_5 : decode cX9_put 5 = .ok (.astore 4, 2) := by decide +kernel
theorem dX9_put_7 : decode cX9_put 7 = .ok (.aload 4, 2) := by decide +kernel
theorem dX9_put_9 : decode cX9_put 9 = .ok (.ifnonnull 9, 3) := by decide +kernel
theorem dX9_put_12 : decode cX9_put 12 = .ok (.aload_n 0, 1) := by decide +kernel
theorem dX9_put_13 : decode cX9_put 13 = .ok (.iconst 1, 1) := by decide +kernel
theorem dX9_put_14 : decode cX9_put 14 = .ok (.invokevirtual 81, 3) := by decide +kernel
theorem dX9_put_17 : decode cX9_put 17 = .ok (.ireturn, 1) := by decide +kernel
theorem dX9_put_18 : decode cX9_put 18 = .ok (.aload 4, 2) := by decide +kernel
theorem dX9_put_20 : decode cX9_put 20 = .ok (.invokevirtual 276, 3) := by decide +kernel
theorem dX9_put_23 : decode cX9_put 23 = .ok (.ifCond .eq 9, 3) := by decide +kernel
theorem dX9_put_26 : decode cX9_put 26 = .ok (.aload_n 0, 1) := by decide +kernel
theorem dX9_put_27 : decode cX9_put 27 = .ok (.iconst 2, 1) := by decide +kernel
theorem dX9_put_28 : decode cX9_put 28 = .ok (.invokevirtual 81, 3) := by decide +kernel
theorem dX9_put_31 : decode cX9_put 31 = .ok (.ireturn, 1) := by decide +kernel
theorem dX9_put_32 : decode cX9_put 32 = .ok (.aload 4, 2) := by decide +kernel
theorem dX9_put_34 : decode cX9_put 34 = .ok (.iload_n 2, 1) := by decide +kernel
theorem dX9_put_35 : decode cX9_put 35 = .ok (.invokevirtual 280, 3) := by decide +kernel
theorem dX9_put_38 : decode cX9_put 38 = .ok (.ifCond .ne 9, 3) := by decide +kernel
theorem dX9_put_41 : decode cX9_put 41 = .ok (.aload_n 0, 1) := by decide +kernel
theorem dX9_put_42 : decode cX9_put 42 = .ok (.iconst 1, 1) := by decide +kernel
theorem dX9_put_43 : decode cX9_put 43 = .ok (.invokevirtual 81, 3) := by decide +kernel
theorem dX9_put_46 : decode cX9_put 46 = .ok (.ireturn, 1) := by decide +kernel
theorem dX9_put_47 : decode cX9_put 47 = .ok (.aload 4, 2) := by decide +kernel
theorem dX9_put_49 : decode cX9_put 49 = .ok (.iload_n 2, 1) := by decide +kernel
theorem dX9_put_50 : decode cX9_put 50 = .ok (.iload_n 3, 1) := by decide +kernel
theorem dX9_put_51 : decode cX9_put 51 = .ok (.invokevirtual 283, 3) := by decide +kernel
theorem dX9_put_54 : decode cX9_put 54 = .ok (.iconst 1, 1) := by decide +kernel
theorem dX9_put_55 : decode cX9_put 55 = .ok (.ireturn, 1) := by decide +kernel
theorem dX9_move_0 : decode cX9_move 0 = .ok (.aload_n 0, 1) := by decide +kernel
theorem dX9_move_1 : decode cX9_move 1 = .ok (.iload_n 1, 1) := by decide +kernel
theorem dX9_move_2 : decode cX9_move 2 = .ok (.invokevirtual 268, 3) := by decide +kernel
theorem dX9_move_5 : decode cX9_move 5 = .ok (.astore 6, 2) := by decide +kernel
theorem dX9_move_7 : decode cX9_move 7 = .ok (.aload_n 0, 1) := by decide +kernel
theorem dX9_move_8 : decode cX9_move 8 = .ok (.iload_n 3, 1) := by decide +kernel
theorem dX9_move_9 : decode cX9_move 9 = .ok (.invokevirtual 268, 3) := by decide +kernel
theorem dX9_move_12 : decode cX9_move 12 = .ok (.astore 7, 2) := by decide +kernel
theorem dX9_move_14 : decode cX9_move 14 = .ok (.aload 6, 2) := by decide +kernel
theorem dX9_move_16 : decode cX9_move 16 = .ok (.ifnull 8, 3) := by decide +kernel
theorem dX9_move_19 : decode cX9_move 19 = .ok (.aload 7, 2) := by decide +kernel
theorem dX9_move_21 : decode cX9_move 21 = .ok (.ifnonnull 9, 3) := by decide +kernel
theorem dX9_move_24 : decode cX9_move 24 = .ok (.aload_n 0, 1) := by decide +kernel
theorem dX9_move_25 : decode cX9_move 25 = .ok (.iconst 1, 1) := by decide +kernel
theorem dX9_move_26 : decode cX9_move 26 = .ok (.invokevirtual 81, 3) := by decide +kernel
theorem dX9_move_29 : decode cX9_move 29 = .ok (.ireturn, 1) := by decide +kernel
theorem dX9_move_30 : decode cX9_move 30 = .ok (.aload 6, 2) := by decide +kernel
theorem dX9_move_32 : decode cX9_move 32 = .ok (.invokevirtual 276, 3) := by decide +kernel
theorem dX9_move_35 : decode cX9_move 35 = .ok (.ifCond .ne 11, 3) := by decide +kernel
theorem dX9_move_38 : decode cX9_move 38 = .ok (.aload 7, 2) := by decide +kernel
theorem dX9_move_40 : decode cX9_move 40 = .ok (.invokevirtual 276, 3) := by decide +kernel
theorem dX9_move_43 : decode cX9_move 43 = .ok (.ifCond .eq 9, 3) := by decide +kernel
theorem dX9_move_46 : decode cX9_move 46 = .ok (.aload_n 0, 1) := by decide +kernel
theorem dX9_move_47 : decode cX9_move 47 = .ok (.iconst 2, 1) := by decide +kernel
theorem dX9_move_48 : decode cX9_move 48 = .ok (.invokevirtual 81, 3) := by decide +kernel
theorem dX9_move_51 : decode cX9_move 51 = .ok (.ireturn, 1) := by decide +kernel
theorem dX9_move_52 : decode cX9_move 52 = .ok (.aload 6, 2) := by decide +kernel
theorem dX9_move_54 : decode cX9_move 54 = .ok (.getfield 286, 3) := by decide +kernel
theorem dX9_move_57 : decode cX9_move 57 = .ok (.aload 7, 2) := by decide +kernel
theorem dX9_move_59 : decode cX9_move 59 = .ok (.getfield 286, 3) := by decide +kernel
theorem dX9_move_62 : decode cX9_move 62 = .ok (.if_icmp .eq 9, 3) := by decide +kernel
theorem dX9_move_65 : decode cX9_move 65 = .ok (.aload_n 0, 1) := by decide +kernel
theorem dX9_move_66 : decode cX9_move 66 = .ok (.iconst 5, 1) := by decide +kernel
theorem dX9_move_67 : decode cX9_move 67 = .ok (.invokevirtual 81, 3) := by decide +kernel
theorem dX9_move_70 : decode cX9_move 70 = .ok (.ireturn, 1) := by decide +kernel
theorem dX9_move_71 : decode cX9_move 71 = .ok (.aload 6, 2) := by decide +kernel
theorem dX9_move_73 : decode cX9_move 73 = .ok (.iload_n 2, 1) := by decide +kernel
theorem dX9_move_74 : decode cX9_move 74 = .ok (.iload 5, 2) := by decide +kernel
theorem dX9_move_76 : decode cX9_move 76 = .ok (.invokevirtual 289, 3) := by decide +kernel
theorem dX9_move_79 : decode cX9_move 79 = .ok (.ifCond .eq 15, 3) := by decide +kernel
theorem dX9_move_82 : decode cX9_move 82 = .ok (.aload 7, 2) := by decide +kernel
theorem dX9_move_84 : decode cX9_move 84 = .ok (.iload 4, 2) := by decide +kernel
theorem dX9_move_86 : decode cX9_move 86 = .ok (.iload 5, 2) := by decide +kernel
theorem dX9_move_88 : decode cX9_move 88 = .ok (.invokevirtual 289, 3) := by decide +kernel
theorem dX9_move_91 : decode cX9_move 91 = .ok (.ifCond .ne 9, 3) := by decide +kernel
theorem dX9_move_94 : decode cX9_move 94 = .ok (.aload_n 0, 1) := by decide +kernel
theorem dX9_move_95 : decode cX9_move 95 = .ok (.iconst 1, 1) := by decide +kernel
theorem dX9_move_96 : decode cX9_move 96 = .ok (.invokevirtual 81, 3) := by decide +kernel
theorem dX9_move_99 : decode cX9_move 99 = .ok (.ireturn, 1) := by decide +kernel
theorem dX9_move_100 : decode cX9_move 100 = .ok (.aload 6, 2) := by decide +kernel
theorem dX9_move_102 : decode cX9_move 102 = .ok (.getfield 292, 3) := by decide +kernel
theorem dX9_move_105 : decode cX9_move 105 = .ok (.iload_n 2, 1) := by decide +kernel
theorem dX9_move_106 : decode cX9_move 106 = .ok (.aload 7, 2) := by decide +kernel
theorem dX9_move_108 : decode cX9_move 108 = .ok (.getfield 292, 3) := by decide +kernel
theorem dX9_move_111 : decode cX9_move 111 = .ok (.iload 4, 2) := by decide +kernel
theorem dX9_move_113 : decode cX9_move 113 = .ok (.iload 5, 2) := by decide +kernel
theorem dX9_move_115 : decode cX9_move 115 = .ok (.invokestatic 293, 3) := by decide +kernel
theorem dX9_move_118 : decode cX9_move 118 = .ok (.iload 5, 2) := by decide +kernel
theorem dX9_move_120 : decode cX9_move 120 = .ok (.ireturn, 1) := by decide +kernel
theorem dX9_part_0 : decode cX9_part 0 = .ok (.aload_n 0, 1) := by decide +kernel
theorem dX9_part_1 : decode cX9_part 1 = .ok (.iload_n 1, 1) := by decide +kernel
theorem dX9_part_2 : decode cX9_part 2 = .ok (.invokevirtual 268, 3) := by decide +kernel
theorem dX9_part_5 : decode cX9_part 5 = .ok (.astore_n 3, 1) := by decide +kernel
theorem dX9_part_6 : decode cX9_part 6 = .ok (.aload_n 3, 1) := by decide +kernel
theorem dX9_part_7 : decode cX9_part 7 = .ok (.ifnull 17, 3) := by decide +kernel
theorem dX9_part_10 : decode cX9_part 10 = .ok (.aload_n 0, 1) := by decide +kernel
theorem dX9_part_11 : decode cX9_part 11 = .ok (.getfield 19, 3) := by decide +kernel
theorem dX9_part_14 : decode cX9_part 14 = .ok (.getfield 99, 3) := by decide +kernel
theorem dX9_part_17 : decode cX9_part 17 = .ok (.iload_n 2, 1) := by decide +kernel
theorem dX9_part_18 : decode cX9_part 18 = .ok (.invokevirtual 112, 3) := by decide +kernel
theorem dX9_part_21 : decode cX9_part 21 = .ok (.ifCond .ne 9, 3) := by decide +kernel
theorem dX9_part_24 : decode cX9_part 24 = .ok (.aload_n 0, 1) := by decide +kernel
theorem dX9_part_25 : decode cX9_part 25 = .ok (.iconst 1, 1) := by decide +kernel
theorem dX9_part_26 : decode cX9_part 26 = .ok (.invokevirtual 81, 3) := by decide +kernel
theorem dX9_part_29 : decode cX9_part 29 = .ok (.ireturn, 1) := by decide +kernel
theorem dX9_part_30 : decode cX9_part 30 = .ok (.aload_n 3, 1) := by decide +kernel
theorem dX9_part_31 : decode cX9_part 31 = .ok (.invokevirtual 276, 3) := by decide +kernel
theorem dX9_part_34 : decode cX9_part 34 = .ok (.ifCond .eq 9, 3) := by decide +kernel
theorem dX9_part_37 : decode cX9_part 37 = .ok (.aload_n 0, 1) := by decide +kernel
theorem dX9_part_38 : decode cX9_part 38 = .ok (.iconst 2, 1) := by decide +kernel
theorem dX9_part_39 : decode cX9_part 39 = .ok (.invokevirtual 81, 3) := by decide +kernel
theorem dX9_part_42 : decode cX9_part 42 = .ok (.ireturn, 1) := by decide +kernel
theorem dX9_part_43 : decode cX9_part 43 = .ok (.aload_n 3, 1) := by decide +kernel
theorem dX9_part_44 : decode cX9_part 44 = .ok (.invokevirtual 299, 3) := by decide +kernel
theorem dX9_part_47 : decode cX9_part 47 = .ok (.istore 4, 2) := by decide +kernel
theorem dX9_part_49 : decode cX9_part 49 = .ok (.aload_n 0, 1) := by decide +kernel
theorem dX9_part_50 : decode cX9_part 50 = .ok (.getfield 19, 3) := by decide +kernel
theorem dX9_part_53 : decode cX9_part 53 = .ok (.getfield 99, 3) := by decide +kernel
theorem dX9_part_56 : decode cX9_part 56 = .ok (.getfield 124, 3) := by decide +kernel
theorem dX9_part_59 : decode cX9_part 59 = .ok (.iload_n 2, 1) := by decide +kernel
theorem dX9_part_60 : decode cX9_part 60 = .ok (.iload 4, 2) := by decide +kernel
theorem dX9_part_62 : decode cX9_part 62 = .ok (.iastore, 1) := by decide +kernel
theorem dX9_part_63 : decode cX9_part 63 = .ok (.iload 4, 2) := by decide +kernel
theorem dX9_part_65 : decode cX9_part 65 = .ok (.invokestatic 302, 3) := by decide +kernel
theorem dX9_part_68 : decode cX9_part 68 = .ok (.ireturn, 1) := by decide +kernel
theorem dX9_judge_0 : decode cX9_judge 0 = .ok (.aload_n 0, 1) := by decide +kernel
theorem dX9_judge_1 : decode cX9_judge 1 = .ok (.iload_n 1, 1) := by decide +kernel
theorem dX9_judge_2 : decode cX9_judge 2 = .ok (.invokevirtual 268, 3) := by decide +kernel
theorem dX9_judge_5 : decode cX9_judge 5 = .ok (.astore_n 3, 1) := by decide +kernel
theorem dX9_judge_6 : decode cX9_judge 6 = .ok (.aload_n 3, 1) := by decide +kernel
theorem dX9_judge_7 : decode cX9_judge 7 = .ok (.ifnull 17, 3) := by decide +kernel
theorem dX9_judge_10 : decode cX9_judge 10 = .ok (.aload_n 0, 1) := by decide +kernel
theorem dX9_judge_11 : decode cX9_judge 11 = .ok (.getfield 19, 3) := by decide +kernel
theorem dX9_judge_14 : decode cX9_judge 14 = .ok (.getfield 99, 3) := by decide +kernel
theorem dX9_judge_17 : decode cX9_judge 17 = .ok (.iload_n 2, 1) := by decide +kernel
theorem dX9_judge_18 : decode cX9_judge 18 = .ok (.invokevirtual 112, 3) := by decide +kernel
theorem dX9_judge_21 : decode cX9_judge 21 = .ok (.ifCond .ne 9, 3) := by decide +kernel
theorem dX9_judge_24 : decode cX9_judge 24 = .ok (.aload_n 0, 1) := by decide +kernel
theorem dX9_judge_25 : decode cX9_judge 25 = .ok (.iconst 1, 1) := by decide +kernel
theorem dX9_judge_26 : decode cX9_judge 26 = .ok (.invokevirtual 81, 3) := by decide +kernel
theorem dX9_judge_29 : decode cX9_judge 29 = .ok (.ireturn, 1) := by decide +kernel
theorem dX9_judge_30 : decode cX9_judge 30 = .ok (.aload_n 3, 1) := by decide +kernel
theorem dX9_judge_31 : decode cX9_judge 31 = .ok (.invokevirtual 276, 3) := by decide +kernel
theorem dX9_judge_34 : decode cX9_judge 34 = .ok (.ifCond .eq 9, 3) := by decide +kernel
theorem dX9_judge_37 : decode cX9_judge 37 = .ok (.aload_n 0, 1) := by decide +kernel
theorem dX9_judge_38 : decode cX9_judge 38 = .ok (.iconst 2, 1) := by decide +kernel
theorem dX9_judge_39 : decode cX9_judge 39 = .ok (.invokevirtual 81, 3) := by decide +kernel
theorem dX9_judge_42 : decode cX9_judge 42 = .ok (.ireturn, 1) := by decide +kernel
theorem dX9_judge_43 : decode cX9_judge 43 = .ok (.aload_n 0, 1) := by decide +kernel
theorem dX9_judge_44 : decode cX9_judge 44 = .ok (.getfield 70, 3) := by decide +kernel
theorem dX9_judge_47 : decode cX9_judge 47 = .ok (.aload_n 0, 1) := by decide +kernel
theorem dX9_judge_48 : decode cX9_judge 48 = .ok (.getfield 19, 3) := by decide +kernel
theorem dX9_judge_51 : decode cX9_judge 51 = .ok (.aload_n 3, 1) := by decide +kernel
theorem dX9_judge_52 : decode cX9_judge 52 = .ok (.getfield 304, 3) := by decide +kernel
theorem dX9_judge_55 : decode cX9_judge 55 = .ok (.invokevirtual 200, 3) := by decide +kernel
theorem dX9_judge_58 : decode cX9_judge 58 = .ok (.aload_n 0, 1) := by decide +kernel
theorem dX9_judge_59 : decode cX9_judge 59 = .ok (.getfield 70, 3) := by decide +kernel
theorem dX9_judge_62 : decode cX9_judge 62 = .ok (.aload_n 0, 1) := by decide +kernel
theorem dX9_judge_63 : decode cX9_judge 63 = .ok (.getfield 10, 3) := by decide +kernel
theorem dX9_judge_66 : decode cX9_judge 66 = .ok (.iload_n 2, 1) := by decide +kernel
theorem dX9_judge_67 : decode cX9_judge 67 = .ok (.invokevirtual 204, 3) := by decide +kernel
theorem dX9_judge_70 : decode cX9_judge 70 = .ok (.iconst 0, 1) := by decide +kernel
theorem dX9_judge_71 : decode cX9_judge 71 = .ok (.istore 4, 2) := by decide +kernel
theorem dX9_judge_73 : decode cX9_judge 73 = .ok (.iload 4, 2) := by decide +kernel
theorem dX9_judge_75 : decode cX9_judge 75 = .ok (.bipush 40, 2) := by decide +kernel
theorem dX9_judge_77 : decode cX9_judge 77 = .ok (.if_icmp .ge 41, 3) := by decide +kernel
theorem dX9_judge_80 : decode cX9_judge 80 = .ok (.aload_n 3, 1) := by decide +kernel
theorem dX9_judge_81 : decode cX9_judge 81 = .ok (.iload 4, 2) := by decide +kernel
theorem dX9_judge_83 : decode cX9_judge 83 = .ok (.invokevirtual 280, 3) := by decide +kernel
theorem dX9_judge_86 : decode cX9_judge 86 = .ok (.ifCond .eq 32, 3) := by decide +kernel
theorem dX9_judge_89 : decode cX9_judge 89 = .ok (.aload_n 3, 1) := by decide +kernel
theorem dX9_judge_90 : decode cX9_judge 90 = .ok (.getfield 292, 3) := by decide +kernel
theorem dX9_judge_93 : decode cX9_judge 93 = .ok (.iload 4, 2) := by decide +kernel
theorem dX9_judge_95 : decode cX9_judge 95 = .ok (.iaload, 1) := by decide +kernel
theorem dX9_judge_96 : decode cX9_judge 96 = .ok (.aload_n 0, 1) := by decide +kernel
theorem dX9_judge_97 : decode cX9_judge 97 = .ok (.getfield 70, 3) := by decide +kernel
theorem dX9_judge_100 : decode cX9_judge 100 = .ok (.iload 4, 2) := by decide +kernel
theorem dX9_judge_102 : decode cX9_judge 102 = .ok (.iload_n 2, 1) := by decide +kernel
theorem dX9_judge_103 : decode cX9_judge 103 = .ok (.invokevirtual 208, 3) := by decide +kernel
theorem dX9_judge_106 : decode cX9_judge 106 = .ok (.if_icmp .eq 6, 3) := by decide +kernel
theorem dX9_judge_109 : decode cX9_judge 109 = .ok (.iload 4, 2) := by decide +kernel
theorem dX9_judge_111 : decode cX9_judge 111 = .ok (.ireturn, 1) := by decide +kernel
theorem dX9_judge_112 : decode cX9_judge 112 = .ok (.iinc 4 1, 3) := by decide +kernel
theorem dX9_judge_115 : decode cX9_judge 115 = .ok (.goto (-42), 3) := by decide +kernel
theorem dX9_judge_118 : decode cX9_judge 118 = .ok (.aload_n 3, 1) := by decide +kernel
theorem dX9_judge_119 : decode cX9_judge 119 = .ok (.getfield 304, 3) := by decide +kernel
theorem dX9_judge_122 : decode cX9_judge 122 = .ok (.ireturn, 1) := by decide +kernel
theorem dX9_image_0 : decode cX9_image 0 = .ok (.aload_n 0, 1) := by decide +kernel
theorem dX9_image_1 : decode cX9_image 1 = .ok (.getfield 30, 3) := by decide +kernel
theorem dX9_image_4 : decode cX9_image 4 = .ok (.aload_n 0, 1) := by decide +kernel
theorem dX9_image_5 : decode cX9_image 5 = .ok (.getfield 10, 3) := by decide +kernel
theorem dX9_image_8 : decode cX9_image 8 = .ok (.invokevirtual 307, 3) := by decide +kernel
theorem dX9_image_11 : decode cX9_image 11 = .ok (.aload_n 0, 1) := by decide +kernel
theorem dX9_image_12 : decode cX9_image 12 = .ok (.getfield 33, 3) := by decide +kernel
theorem dX9_image_15 : decode cX9_image 15 = .ok (.aload_n 0, 1) := by decide +kernel
theorem dX9_image_16 : decode cX9_image 16 = .ok (.getfield 19, 3) := by decide +kernel
theorem dX9_image_19 : decode cX9_image 19 = .ok (.invokevirtual 211, 3) := by decide +kernel
theorem dX9_image_22 : decode cX9_image 22 = .ok (.aload_n 0, 1) := by decide +kernel
theorem dX9_image_23 : decode cX9_image 23 = .ok (.getfield 36, 3) := by decide +kernel
theorem dX9_image_26 : decode cX9_image 26 = .ok (.aload_n 0, 1) := by decide +kernel
theorem dX9_image_27 : decode cX9_image 27 = .ok (.getfield 26, 3) := by decide +kernel
theorem dX9_image_30 : decode cX9_image 30 = .ok (.invokevirtual 310, 3) := by decide +kernel
theorem dX9_image_33 : decode cX9_image 33 = .ok (.aload_n 0, 1) := by decide +kernel
theorem dX9_image_34 : decode cX9_image 34 = .ok (.dup, 1) := by decide +kernel
theorem dX9_image_35 : decode cX9_image 35 = .ok (.getfield 313, 3) := by decide +kernel
theorem dX9_image_38 : decode cX9_image 38 = .ok (.iconst 1, 1) := by decide +kernel
theorem dX9_image_39 : decode cX9_image 39 = .ok (.iadd, 1) := by decide +kernel
theorem dX9_image_40 : decode cX9_image 40 = .ok (.putfield 313, 3) := by decide +kernel
theorem dX9_image_43 : decode cX9_image 43 = .ok (.aload_n 0, 1) := by decide +kernel
theorem dX9_image_44 : decode cX9_image 44 = .ok (.getfield 313, 3) := by decide +kernel
theorem dX9_image_47 : decode cX9_image 47 = .ok (.ireturn, 1) := by decide +kernel
theorem dX9_restore_0 : decode cX9_restore 0 = .ok (.aload_n 0, 1) := by decide +kernel
theorem dX9_restore_1 : decode cX9_restore 1 = .ok (.getfield 313, 3) := by decide +kernel
theorem dX9_restore_4 : decode cX9_restore 4 = .ok (.ifCond .ne 9, 3) := by decide +kernel
theorem dX9_restore_7 : decode cX9_restore 7 = .ok (.aload_n 0, 1) := by decide +kernel
theorem dX9_restore_8 : decode cX9_restore 8 = .ok (.iconst 2, 1) := by decide +kernel
theorem dX9_restore_9 : decode cX9_restore 9 = .ok (.invokevirtual 81, 3) := by decide +kernel
theorem dX9_restore_12 : decode cX9_restore 12 = .ok (.ireturn, 1) := by decide +kernel
theorem dX9_restore_13 : decode cX9_restore 13 = .ok (.aload_n 0, 1) := by decide +kernel
theorem dX9_restore_14 : decode cX9_restore 14 = .ok (.getfield 10, 3) := by decide +kernel
theorem dX9_restore_17 : decode cX9_restore 17 = .ok (.aload_n 0, 1) := by decide +kernel
theorem dX9_restore_18 : decode cX9_restore 18 = .ok (.getfield 30, 3) := by decide +kernel
theorem dX9_restore_21 : decode cX9_restore 21 = .ok (.invokevirtual 307, 3) := by decide +kernel
theorem dX9_restore_24 : decode cX9_restore 24 = .ok (.aload_n 0, 1) := by decide +kernel
theorem dX9_restore_25 : decode cX9_restore 25 = .ok (.getfield 19, 3) := by decide +kernel
theorem dX9_restore_28 : decode cX9_restore 28 = .ok (.aload_n 0, 1) := by decide +kernel
theorem dX9_restore_29 : decode cX9_restore 29 = .ok (.getfield 33, 3) := by decide +kernel
theorem dX9_restore_32 : decode cX9_restore 32 = .ok (.invokevirtual 211, 3) := by decide +kernel
theorem dX9_restore_35 : decode cX9_restore 35 = .ok (.aload_n 0, 1) := by decide +kernel
theorem dX9_restore_36 : decode cX9_restore 36 = .ok (.getfield 26, 3) := by decide +kernel
theorem dX9_restore_39 : decode cX9_restore 39 = .ok (.aload_n 0, 1) := by decide +kernel
theorem dX9_restore_40 : decode cX9_restore 40 = .ok (.getfield 36, 3) := by decide +kernel
theorem dX9_restore_43 : decode cX9_restore 43 = .ok (.invokevirtual 310, 3) := by decide +kernel
theorem dX9_restore_46 : decode cX9_restore 46 = .ok (.aload_n 0, 1) := by decide +kernel
theorem dX9_restore_47 : decode cX9_restore 47 = .ok (.getfield 19, 3) := by decide +kernel
theorem dX9_restore_50 : decode cX9_restore 50 = .ok (.getfield 316, 3) := by decide +kernel
theorem dX9_restore_53 : decode cX9_restore 53 = .ok (.ireturn, 1) := by decide +kernel
theorem dX9_tell_0 : decode cX9_tell 0 = .ok (.aload_n 0, 1) := by decide +kernel
theorem dX9_tell_1 : decode cX9_tell 1 = .ok (.getfield 26, 3) := by decide +kernel
theorem dX9_tell_4 : decode cX9_tell 4 = .ok (.getfield 319, 3) := by decide +kernel
theorem dX9_tell_7 : decode cX9_tell 7 = .ok (.bipush 20, 2) := by decide +kernel
theorem dX9_tell_9 : decode cX9_tell 9 = .ok (.if_icmp .lt 9, 3) := by decide +kernel
theorem dX9_tell_12 : decode cX9_tell 12 = .ok (.aload_n 0, 1) := by decide +kernel
theorem dX9_tell_13 : decode cX9_tell 13 = .ok (.iconst 4, 1) := by decide +kernel
theorem dX9_tell_14 : decode cX9_tell 14 = .ok (.invokevirtual 81, 3) := by decide +kernel
theorem dX9_tell_17 : decode cX9_tell 17 = .ok (.ireturn, 1) := by decide +kernel
theorem dX9_tell_18 : decode cX9_tell 18 = .ok (.aload_n 0, 1) := by decide +kernel
theorem dX9_tell_19 : decode cX9_tell 19 = .ok (.getfield 26, 3) := by decide +kernel
theorem dX9_tell_22 : decode cX9_tell 22 = .ok (.iload_n 1, 1) := by decide +kernel
theorem dX9_tell_23 : decode cX9_tell 23 = .ok (.invokevirtual 322, 3) := by decide +kernel
theorem dX9_tell_26 : decode cX9_tell 26 = .ok (.ireturn, 1) := by decide +kernel
theorem dX9_check_0 : decode cX9_check 0 = .ok (.aload_n 0, 1) := by decide +kernel
theorem dX9_check_1 : decode cX9_check 1 = .ok (.getfield 26, 3) := by decide +kernel
theorem dX9_check_4 : decode cX9_check 4 = .ok (.getfield 319, 3) := by decide +kernel
theorem dX9_check_7 : decode cX9_check 7 = .ok (.istore_n 2, 1) := by decide +kernel
theorem dX9_check_8 : decode cX9_check 8 = .ok (.aload_n 0, 1) := by decide +kernel
theorem dX9_check_9 : decode cX9_check 9 = .ok (.getfield 26, 3) := by decide +kernel
theorem dX9_check_12 : decode cX9_check 12 = .ok (.iconst 0, 1) := by decide +kernel
theorem dX9_check_13 : decode cX9_check 13 = .ok (.putfield 319, 3) := by decide +kernel
theorem dX9_check_16 : decode cX9_check 16 = .ok (.aload_n 0, 1) := by decide +kernel
theorem dX9_check_17 : decode cX9_check 17 = .ok (.getfield 19, 3) := by decide +kernel
theorem dX9_check_20 : decode cX9_check 20 = .ok (.iload_n 1, 1) := by decide +kernel
theorem dX9_check_21 : decode cX9_check 21 = .ok (.invokevirtual 154, 3) := by decide +kernel
theorem dX9_check_24 : decode cX9_check 24 = .ok (.ifCond .ne 9, 3) := by decide +kernel
theorem dX9_check_27 : decode cX9_check 27 = .ok (.aload_n 0, 1) := by decide +kernel
theorem dX9_check_28 : decode cX9_check 28 = .ok (.iconst 1, 1) := by decide +kernel
theorem dX9_check_29 : decode cX9_check 29 = .ok (.invokevirtual 81, 3) := by decide +kernel
theorem dX9_check_32 : decode cX9_check 32 = .ok (.ireturn, 1) := by decide +kernel
theorem dX9_check_33 : decode cX9_check 33 = .ok (.aload_n 0, 1) := by decide +kernel
theorem dX9_check_34 : decode cX9_check 34 = .ok (.getfield 64, 3) := by decide +kernel
theorem dX9_check_37 : decode cX9_check 37 = .ok (.aload_n 0, 1) := by decide +kernel
theorem dX9_check_38 : decode cX9_check 38 = .ok (.getfield 19, 3) := by decide +kernel
theorem dX9_check_41 : decode cX9_check 41 = .ok (.invokevirtual 211, 3) := by decide +kernel
theorem dX9_check_44 : decode cX9_check 44 = .ok (.iconst 0, 1) := by decide +kernel
theorem dX9_check_45 : decode cX9_check 45 = .ok (.istore_n 3, 1) := by decide +kernel
theorem dX9_check_46 : decode cX9_check 46 = .ok (.iload_n 3, 1) := by decide +kernel
theorem dX9_check_47 : decode cX9_check 47 = .ok (.iload_n 2, 1) := by decide +kernel
theorem dX9_check_48 : decode cX9_check 48 = .ok (.if_icmp .ge 52, 3) := by decide +kernel
theorem dX9_check_51 : decode cX9_check 51 = .ok (.iload_n 3, 1) := by decide +kernel
theorem dX9_check_52 : decode cX9_check 52 = .ok (.bipush 20, 2) := by decide +kernel
theorem dX9_check_54 : decode cX9_check 54 = .ok (.if_icmp .ge 46, 3) := by decide +kernel
theorem dX9_check_57 : decode cX9_check 57 = .ok (.aload_n 0, 1) := by decide +kernel
theorem dX9_check_58 : decode cX9_check 58 = .ok (.getfield 64, 3) := by decide +kernel
theorem dX9_check_61 : decode cX9_check 61 = .ok (.aload_n 0, 1) := by decide +kernel
theorem dX9_check_62 : decode cX9_check 62 = .ok (.getfield 10, 3) := by decide +kernel
theorem dX9_check_65 : decode cX9_check 65 = .ok (.iconst 0, 1) := by decide +kernel
theorem dX9_check_66 : decode cX9_check 66 = .ok (.invokevirtual 215, 3) := by decide +kernel
theorem dX9_check_69 : decode cX9_check 69 = .ok (.aload_n 0, 1) := by decide +kernel
theorem dX9_check_70 : decode cX9_check 70 = .ok (.getfield 26, 3) := by decide +kernel
theorem dX9_check_73 : decode cX9_check 73 = .ok (.getfield 325, 3) := by decide +kernel
theorem dX9_check_76 : decode cX9_check 76 = .ok (.iload_n 3, 1) := by decide +kernel
theorem dX9_check_77 : decode cX9_check 77 = .ok (.iaload, 1) := by decide +kernel
theorem dX9_check_78 : decode cX9_check 78 = .ok (.aload_n 0, 1) := by decide +kernel
theorem dX9_check_79 : decode cX9_check 79 = .ok (.getfield 64, 3) := by decide +kernel
theorem dX9_check_82 : decode cX9_check 82 = .ok (.getfield 326, 3) := by decide +kernel
theorem dX9_check_85 : decode cX9_check 85 = .ok (.iload_n 1, 1) := by decide +kernel
theorem dX9_check_86 : decode cX9_check 86 = .ok (.iaload, 1) := by decide +kernel
theorem dX9_check_87 : decode cX9_check 87 = .ok (.if_icmp .eq 7, 3) := by decide +kernel
theorem dX9_check_90 : decode cX9_check 90 = .ok (.iconst 1, 1) := by decide +kernel
theorem dX9_check_91 : decode cX9_check 91 = .ok (.iload_n 3, 1) := by decide +kernel
theorem dX9_check_92 : decode cX9_check 92 = .ok (.iadd, 1) := by decide +kernel
theorem dX9_check_93 : decode cX9_check 93 = .ok (.ireturn, 1) := by decide +kernel
theorem dX9_check_94 : decode cX9_check 94 = .ok (.iinc 3 1, 3) := by decide +kernel
theorem dX9_check_97 : decode cX9_check 97 = .ok (.goto (-51), 3) := by decide +kernel
theorem dX9_check_100 : decode cX9_check 100 = .ok (.iconst 0, 1) := by decide +kernel
theorem dX9_check_101 : decode cX9_check 101 = .ok (.ireturn, 1) := by decide +kernel
theorem dX9_count_0 : decode cX9_count 0 = .ok (.iload_n 1, 1) := by decide +kernel
theorem dX9_count_1 : decode cX9_count 1 = .ok (.tableswitch 163 0 10 #[59, 67, 78, 86, 107, 115, 123, 131, 139, 147, 155], 59) := by decide +kernel
theorem dX9_count_60 : decode cX9_count 60 = .ok (.aload_n 0, 1) := by decide +kernel
theorem dX9_count_61 : decode cX9_count 61 = .ok (.getfield 19, 3) := by decide +kernel
theorem dX9_count_64 : decode cX9_count 64 = .ok (.getfield 316, 3) := by decide +kernel
theorem dX9_count_67 : decode cX9_count 67 = .ok (.ireturn, 1) := by decide +kernel
theorem dX9_count_68 : decode cX9_count 68 = .ok (.aload_n 0, 1) := by decide +kernel
theorem dX9_count_69 : decode cX9_count 69 = .ok (.getfield 19, 3) := by decide +kernel
theorem dX9_count_72 : decode cX9_count 72 = .ok (.getfield 99, 3) := by decide +kernel
theorem dX9_count_75 : decode cX9_count 75 = .ok (.getfield 103, 3) := by decide +kernel
theorem dX9_count_78 : decode cX9_count 78 = .ok (.ireturn, 1) := by decide +kernel
theorem dX9_count_79 : decode cX9_count 79 = .ok (.aload_n 0, 1) := by decide +kernel
theorem dX9_count_80 : decode cX9_count 80 = .ok (.getfield 19, 3) := by decide +kernel
theorem dX9_count_83 : decode cX9_count 83 = .ok (.getfield 148, 3) := by decide +kernel
theorem dX9_count_86 : decode cX9_count 86 = .ok (.ireturn, 1) := by decide +kernel
theorem dX9_count_87 : decode cX9_count 87 = .ok (.aload_n 0, 1) := by decide +kernel
theorem dX9_count_88 : decode cX9_count 88 = .ok (.getfield 19, 3) := by decide +kernel
theorem dX9_count_91 : decode cX9_count 91 = .ok (.getfield 99, 3) := by decide +kernel
theorem dX9_count_94 : decode cX9_count 94 = .ok (.aload_n 0, 1) := by decide +kernel
theorem dX9_count_95 : decode cX9_count 95 = .ok (.getfield 19, 3) := by decide +kernel
theorem dX9_count_98 : decode cX9_count 98 = .ok (.invokevirtual 127, 3) := by decide +kernel
theorem dX9_count_101 : decode cX9_count 101 = .ok (.invokevirtual 328, 3) := by decide +kernel
theorem dX9_count_104 : decode cX9_count 104 = .ok (.invokestatic 302, 3) := by decide +kernel
theorem dX9_count_107 : decode cX9_count 107 = .ok (.ireturn, 1) := by decide +kernel
theorem dX9_count_108 : decode cX9_count 108 = .ok (.aload_n 0, 1) := by decide +kernel
theorem dX9_count_109 : decode cX9_count 109 = .ok (.getfield 19, 3) := by decide +kernel
theorem dX9_count_112 : decode cX9_count 112 = .ok (.getfield 331, 3) := by decide +kernel
theorem dX9_count_115 : decode cX9_count 115 = .ok (.ireturn, 1) := by decide +kernel
theorem dX9_count_116 : decode cX9_count 116 = .ok (.aload_n 0, 1) := by decide +kernel
theorem dX9_count_117 : decode cX9_count 117 = .ok (.getfield 19, 3) := by decide +kernel
theorem dX9_count_120 : decode cX9_count 120 = .ok (.invokevirtual 334, 3) := by decide +kernel
theorem dX9_count_123 : decode cX9_count 123 = .ok (.ireturn, 1) := by decide +kernel
theorem dX9_count_124 : decode cX9_count 124 = .ok (.aload_n 0, 1) := by decide +kernel
theorem dX9_count_125 : decode cX9_count 125 = .ok (.getfield 10, 3) := by decide +kernel
theorem dX9_count_128 : decode cX9_count 128 = .ok (.getfield 88, 3) := by decide +kernel
theorem dX9_count_131 : decode cX9_count 131 = .ok (.ireturn, 1) := by decide +kernel
theorem dX9_count_132 : decode cX9_count 132 = .ok (.aload_n 0, 1) := by decide +kernel
theorem dX9_count_133 : decode cX9_count 133 = .ok (.getfield 26, 3) := by decide +kernel
theorem dX9_count_136 : decode cX9_count 136 = .ok (.getfield 164, 3) := by decide +kernel
theorem dX9_count_139 : decode cX9_count 139 = .ok (.ireturn, 1) := by decide +kernel
theorem dX9_count_140 : decode cX9_count 140 = .ok (.aload_n 0, 1) := by decide +kernel
theorem dX9_count_141 : decode cX9_count 141 = .ok (.getfield 26, 3) := by decide +kernel
theorem dX9_count_144 : decode cX9_count 144 = .ok (.getfield 319, 3) := by decide +kernel
theorem dX9_count_147 : decode cX9_count 147 = .ok (.ireturn, 1) := by decide +kernel
theorem dX9_count_148 : decode cX9_count 148 = .ok (.aload_n 0, 1) := by decide +kernel
theorem dX9_count_149 : decode cX9_count 149 = .ok (.getfield 49, 3) := by decide +kernel
theorem dX9_count_152 : decode cX9_count 152 = .ok (.getfield 262, 3) := by decide +kernel
theorem dX9_count_155 : decode cX9_count 155 = .ok (.ireturn, 1) := by decide +kernel
theorem dX9_count_156 : decode cX9_count 156 = .ok (.aload_n 0, 1) := by decide +kernel
theorem dX9_count_157 : decode cX9_count 157 = .ok (.getfield 19, 3) := by decide +kernel
theorem dX9_count_160 : decode cX9_count 160 = .ok (.getfield 255, 3) := by decide +kernel
theorem dX9_count_163 : decode cX9_count 163 = .ok (.ireturn, 1) := by decide +kernel
theorem dX9_count_164 : decode cX9_count 164 = .ok (.aload_n 0, 1) := by decide +kernel
theorem dX9_count_165 : decode cX9_count 165 = .ok (.iconst 1, 1) := by decide +kernel
theorem dX9_count_166 : decode cX9_count 166 = .ok (.invokevirtual 81, 3) := by decide +kernel
theorem dX9_count_169 : decode cX9_count 169 = .ok (.ireturn, 1) := by decide +kernel
theorem dX9_told_0 : decode cX9_told 0 = .ok (.iload_n 1, 1) := by decide +kernel
theorem dX9_told_1 : decode cX9_told 1 = .ok (.iconst 1, 1) := by decide +kernel
theorem dX9_told_2 : decode cX9_told 2 = .ok (.iconst 5, 1) := by decide +kernel
theorem dX9_told_3 : decode cX9_told 3 = .ok (.invokestatic 77, 3) := by decide +kernel
theorem dX9_told_6 : decode cX9_told 6 = .ok (.ifCond .ne 9, 3) := by decide +kernel
theorem dX9_told_9 : decode cX9_told 9 = .ok (.aload_n 0, 1) := by decide +kernel
theorem dX9_told_10 : decode cX9_told 10 = .ok (.iconst 1, 1) := by decide +kernel
theorem dX9_told_11 : decode cX9_told 11 = .ok (.invokevirtual 81, 3) := by decide +kernel
theorem dX9_told_14 : decode cX9_told 14 = .ok (.ireturn, 1) := by decide +kernel
theorem dX9_told_15 : decode cX9_told 15 = .ok (.aload_n 0, 1) := by decide +kernel
theorem dX9_told_16 : decode cX9_told 16 = .ok (.getfield 53, 3) := by decide +kernel
theorem dX9_told_19 : decode cX9_told 19 = .ok (.iload_n 1, 1) := by decide +kernel
theorem dX9_told_20 : decode cX9_told 20 = .ok (.iaload, 1) := by decide +kernel
theorem dX9_told_21 : decode cX9_told 21 = .ok (.ireturn, 1) := by decide +kernel
theorem dX9_refuse_0 : decode cX9_refuse 0 = .ok (.iload_n 1, 1) := by decide +kernel
theorem dX9_refuse_1 : decode cX9_refuse 1 = .ok (.ifCond .lt 22, 3) := by decide +kernel
theorem dX9_refuse_4 : decode cX9_refuse 4 = .ok (.iload_n 1, 1) := by decide +kernel
theorem dX9_refuse_5 : decode cX9_refuse 5 = .ok (.aload_n 0, 1) := by decide +kernel
theorem dX9_refuse_6 : decode cX9_refuse 6 = .ok (.getfield 53, 3) := by decide +kernel
theorem dX9_refuse_9 : decode cX9_refuse 9 = .ok (.arraylength, 1) := by decide +kernel
theorem dX9_refuse_10 : decode cX9_refuse 10 = .ok (.if_icmp .ge 13, 3) := by decide +kernel
theorem dX9_refuse_13 : decode cX9_refuse 13 = .ok (.aload_n 0, 1) := by decide +kernel
theorem dX9_refuse_14 : decode cX9_refuse 14 = .ok (.getfield 53, 3) := by decide +kernel
theorem dX9_refuse_17 : decode cX9_refuse 17 = .ok (.iload_n 1, 1) := by decide +kernel
theorem dX9_refuse_18 : decode cX9_refuse 18 = .ok (.dup2, 1) := by decide +kernel
theorem dX9_refuse_19 : decode cX9_refuse 19 = .ok (.iaload, 1) := by decide +kernel
theorem dX9_refuse_20 : decode cX9_refuse 20 = .ok (.iconst 1, 1) := by decide +kernel
theorem dX9_refuse_21 : decode cX9_refuse 21 = .ok (.iadd, 1) := by decide +kernel
theorem dX9_refuse_22 : decode cX9_refuse 22 = .ok (.iastore, 1) := by decide +kernel
theorem dX9_refuse_23 : decode cX9_refuse 23 = .ok (.ldc_w 337, 3) := by decide +kernel
theorem dX9_refuse_26 : decode cX9_refuse 26 = .ok (.iload_n 1, 1) := by decide +kernel
theorem dX9_refuse_27 : decode cX9_refuse 27 = .ok (.isub, 1) := by decide +kernel
theorem dX9_refuse_28 : decode cX9_refuse 28 = .ok (.ireturn, 1) := by decide +kernel
theorem dX9_goOn_0 : decode cX9_goOn 0 = .ok (.iload_n 1, 1) := by decide +kernel
theorem dX9_goOn_1 : decode cX9_goOn 1 = .ok (.iconst 1, 1) := by decide +kernel
theorem dX9_goOn_2 : decode cX9_goOn 2 = .ok (.sipush 128, 3) := by decide +kernel
theorem dX9_goOn_5 : decode cX9_goOn 5 = .ok (.invokestatic 77, 3) := by decide +kernel
theorem dX9_goOn_8 : decode cX9_goOn 8 = .ok (.ifCond .ne 9, 3) := by decide +kernel
theorem dX9_goOn_11 : decode cX9_goOn 11 = .ok (.aload_n 0, 1) := by decide +kernel
theorem dX9_goOn_12 : decode cX9_goOn 12 = .ok (.iconst 1, 1) := by decide +kernel
theorem dX9_goOn_13 : decode cX9_goOn 13 = .ok (.invokevirtual 81, 3) := by decide +kernel
theorem dX9_goOn_16 : decode cX9_goOn 16 = .ok (.ireturn, 1) := by decide +kernel
theorem dX9_goOn_17 : decode cX9_goOn 17 = .ok (.aload_n 0, 1) := by decide +kernel
theorem dX9_goOn_18 : decode cX9_goOn 18 = .ok (.getfield 19, 3) := by decide +kernel
theorem dX9_goOn_21 : decode cX9_goOn 21 = .ok (.getfield 316, 3) := by decide +kernel
theorem dX9_goOn_24 : decode cX9_goOn 24 = .ok (.iload_n 1, 1) := by decide +kernel
theorem dX9_goOn_25 : decode cX9_goOn 25 = .ok (.iadd, 1) := by decide +kernel
theorem dX9_goOn_26 : decode cX9_goOn 26 = .ok (.sipush 9999, 3) := by decide +kernel
theorem dX9_goOn_29 : decode cX9_goOn 29 = .ok (.if_icmp .le 9, 3) := by decide +kernel
theorem dX9_goOn_32 : decode cX9_goOn 32 = .ok (.aload_n 0, 1) := by decide +kernel
theorem dX9_goOn_33 : decode cX9_goOn 33 = .ok (.iconst 3, 1) := by decide +kernel
theorem dX9_goOn_34 : decode cX9_goOn 34 = .ok (.invokevirtual 81, 3) := by decide +kernel
theorem dX9_goOn_37 : decode cX9_goOn 37 = .ok (.ireturn, 1) := by decide +kernel
theorem dX9_goOn_38 : decode cX9_goOn 38 = .ok (.iconst 0, 1) := by decide +kernel
theorem dX9_goOn_39 : decode cX9_goOn 39 = .ok (.istore_n 3, 1) := by decide +kernel
theorem dX9_goOn_40 : decode cX9_goOn 40 = .ok (.iload_n 3, 1) := by decide +kernel
theorem dX9_goOn_41 : decode cX9_goOn 41 = .ok (.iload_n 1, 1) := by decide +kernel
theorem dX9_goOn_42 : decode cX9_goOn 42 = .ok (.if_icmp .ge 21, 3) := by decide +kernel
theorem dX9_goOn_45 : decode cX9_goOn 45 = .ok (.aload_n 0, 1) := by decide +kernel
theorem dX9_goOn_46 : decode cX9_goOn 46 = .ok (.getfield 19, 3) := by decide +kernel
theorem dX9_goOn_49 : decode cX9_goOn 49 = .ok (.aload_n 0, 1) := by decide +kernel
theorem dX9_goOn_50 : decode cX9_goOn 50 = .ok (.getfield 10, 3) := by decide +kernel
theorem dX9_goOn_53 : decode cX9_goOn 53 = .ok (.iload_n 2, 1) := by decide +kernel
theorem dX9_goOn_54 : decode cX9_goOn 54 = .ok (.invokevirtual 215, 3) := by decide +kernel
theorem dX9_goOn_57 : decode cX9_goOn 57 = .ok (.iinc 3 1, 3) := by decide +kernel
theorem dX9_goOn_60 : decode cX9_goOn 60 = .ok (.goto (-20), 3) := by decide +kernel
theorem dX9_goOn_63 : decode cX9_goOn 63 = .ok (.aload_n 0, 1) := by decide +kernel
theorem dX9_goOn_64 : decode cX9_goOn 64 = .ok (.getfield 19, 3) := by decide +kernel
theorem dX9_goOn_67 : decode cX9_goOn 67 = .ok (.getfield 331, 3) := by decide +kernel
theorem dX9_goOn_70 : decode cX9_goOn 70 = .ok (.ireturn, 1) := by decide +kernel
theorem dX9_watchAll_0 : decode cX9_watchAll 0 = .ok (.aload_n 0, 1) := by decide +kernel
theorem dX9_watchAll_1 : decode cX9_watchAll 1 = .ok (.getfield 70, 3) := by decide +kernel
theorem dX9_watchAll_4 : decode cX9_watchAll 4 = .ok (.aload_n 0, 1) := by decide +kernel
theorem dX9_watchAll_5 : decode cX9_watchAll 5 = .ok (.getfield 19, 3) := by decide +kernel
theorem dX9_watchAll_8 : decode cX9_watchAll 8 = .ok (.iload_n 1, 1) := by decide +kernel
theorem dX9_watchAll_9 : decode cX9_watchAll 9 = .ok (.invokevirtual 200, 3) := by decide +kernel
theorem dX9_watchAll_12 : decode cX9_watchAll 12 = .ok (.iconst 0, 1) := by decide +kernel
theorem dX9_watchAll_13 : decode cX9_watchAll 13 = .ok (.istore_n 2, 1) := by decide +kernel
theorem dX9_watchAll_14 : decode cX9_watchAll 14 = .ok (.iload_n 2, 1) := by decide +kernel
theorem dX9_watchAll_15 : decode cX9_watchAll 15 = .ok (.bipush 9, 2) := by decide +kernel
theorem dX9_watchAll_17 : decode cX9_watchAll 17 = .ok (.if_icmp .ge 35, 3) := by decide +kernel
theorem dX9_watchAll_20 : decode cX9_watchAll 20 = .ok (.aload_n 0, 1) := by decide +kernel
theorem dX9_watchAll_21 : decode cX9_watchAll 21 = .ok (.getfield 19, 3) := by decide +kernel
theorem dX9_watchAll_24 : decode cX9_watchAll 24 = .ok (.getfield 99, 3) := by decide +kernel
theorem dX9_watchAll_27 : decode cX9_watchAll 27 = .ok (.iload_n 2, 1) := by decide +kernel
theorem dX9_watchAll_28 : decode cX9_watchAll 28 = .ok (.invokevirtual 112, 3) := by decide +kernel
theorem dX9_watchAll_31 : decode cX9_watchAll 31 = .ok (.ifCond .eq 15, 3) := by decide +kernel
theorem dX9_watchAll_34 : decode cX9_watchAll 34 = .ok (.aload_n 0, 1) := by decide +kernel
theorem dX9_watchAll_35 : decode cX9_watchAll 35 = .ok (.getfield 70, 3) := by decide +kernel
theorem dX9_watchAll_38 : decode cX9_watchAll 38 = .ok (.aload_n 0, 1) := by decide +kernel
theorem dX9_watchAll_39 : decode cX9_watchAll 39 = .ok (.getfield 10, 3) := by decide +kernel
theorem dX9_watchAll_42 : decode cX9_watchAll 42 = .ok (.iload_n 2, 1) := by decide +kernel
theorem dX9_watchAll_43 : decode cX9_watchAll 43 = .ok (.invokevirtual 204, 3) := by decide +kernel
theorem dX9_watchAll_46 : decode cX9_watchAll 46 = .ok (.iinc 2 1, 3) := by decide +kernel
theorem dX9_watchAll_49 : decode cX9_watchAll 49 = .ok (.goto (-35), 3) := by decide +kernel
theorem dX9_watchAll_52 : decode cX9_watchAll 52 = .ok (.return_, 1) := by decide +kernel
theorem dX9_scoreAll_0 : decode cX9_scoreAll 0 = .ok (.aload_n 0, 1) := by decide +kernel
theorem dX9_scoreAll_1 : decode cX9_scoreAll 1 = .ok (.iload_n 1, 1) := by decide +kernel
theorem dX9_scoreAll_2 : decode cX9_scoreAll 2 = .ok (.invokevirtual 219, 3) := by decide +kernel
theorem dX9_scoreAll_5 : decode cX9_scoreAll 5 = .ok (.iconst 0, 1) := by decide +kernel
theorem dX9_scoreAll_6 : decode cX9_scoreAll 6 = .ok (.istore_n 2, 1) := by decide +kernel
theorem dX9_scoreAll_7 : decode cX9_scoreAll 7 = .ok (.iload_n 2, 1) := by decide +kernel
theorem dX9_scoreAll_8 : decode cX9_scoreAll 8 = .ok (.bipush 64, 2) := by decide +kernel
theorem dX9_scoreAll_10 : decode cX9_scoreAll 10 = .ok (.if_icmp .ge 34, 3) := by decide +kernel
theorem dX9_scoreAll_13 : decode cX9_scoreAll 13 = .ok (.aload_n 0, 1) := by decide +kernel
theorem dX9_scoreAll_14 : decode cX9_scoreAll 14 = .ok (.getfield 74, 3) := by decide +kernel
theorem dX9_scoreAll_17 : decode cX9_scoreAll 17 = .ok (.iload_n 2, 1) := by decide +kernel
theorem dX9_scoreAll_18 : decode cX9_scoreAll 18 = .ok (.aload_n 0, 1) := by decide +kernel
theorem dX9_scoreAll_19 : decode cX9_scoreAll 19 = .ok (.getfield 70, 3) := by decide +kernel
theorem dX9_scoreAll_22 : decode cX9_scoreAll 22 = .ok (.aload_n 0, 1) := by decide +kernel
theorem dX9_scoreAll_23 : decode cX9_scoreAll 23 = .ok (.getfield 10, 3) := by decide +kernel
theorem dX9_scoreAll_26 : decode cX9_scoreAll 26 = .ok (.iload_n 2, 1) := by decide +kernel
theorem dX9_scoreAll_27 : decode cX9_scoreAll 27 = .ok (.aload_n 0, 1) := by decide +kernel
theorem dX9_scoreAll_28 : decode cX9_scoreAll 28 = .ok (.getfield 10, 3) := by decide +kernel
theorem dX9_scoreAll_31 : decode cX9_scoreAll 31 = .ok (.getfield 88, 3) := by decide +kernel
theorem dX9_scoreAll_34 : decode cX9_scoreAll 34 = .ok (.invokevirtual 223, 3) := by decide +kernel
theorem dX9_scoreAll_37 : decode cX9_scoreAll 37 = .ok (.iastore, 1) := by decide +kernel
theorem dX9_scoreAll_38 : decode cX9_scoreAll 38 = .ok (.iinc 2 1, 3) := by decide +kernel
theorem dX9_scoreAll_41 : decode cX9_scoreAll 41 = .ok (.goto (-34), 3) := by decide +kernel
theorem dX9_scoreAll_44 : decode cX9_scoreAll 44 = .ok (.return_, 1) := by decide +kernel
theorem dX9_origins_0 : decode cX9_origins 0 = .ok (.lconst 0, 1) := by decide +kernel
theorem dX9_origins_1 : decode cX9_origins 1 = .ok (.lstore_n 3, 1) := by decide +kernel
theorem dX9_origins_2 : decode cX9_origins 2 = .ok (.iconst 0, 1) := by decide +kernel
theorem dX9_origins_3 : decode cX9_origins 3 = .ok (.istore 5, 2) := by decide +kernel
theorem dX9_origins_5 : decode cX9_origins 5 = .ok (.iload 5, 2) := by decide +kernel
theorem dX9_origins_7 : decode cX9_origins 7 = .ok (.bipush 64, 2) := by decide +kernel
theorem dX9_origins_9 : decode cX9_origins 9 = .ok (.if_icmp .ge 87, 3) := by decide +kernel
theorem dX9_origins_12 : decode cX9_origins 12 = .ok (.aload_n 0, 1) := by decide +kernel
theorem dX9_origins_13 : decode cX9_origins 13 = .ok (.iload 5, 2) := by decide +kernel
theorem dX9_origins_15 : decode cX9_origins 15 = .ok (.iload_n 1, 1) := by decide +kernel
theorem dX9_origins_16 : decode cX9_origins 16 = .ok (.sipush 4096, 3) := by decide +kernel
theorem dX9_origins_19 : decode cX9_origins 19 = .ok (.idiv, 1) := by decide +kernel
theorem dX9_origins_20 : decode cX9_origins 20 = .ok (.iload_n 2, 1) := by decide +kernel
theorem dX9_origins_21 : decode cX9_origins 21 = .ok (.sipush 10000, 3) := by decide +kernel
theorem dX9_origins_24 : decode cX9_origins 24 = .ok (.idiv, 1) := by decide +kernel
theorem dX9_origins_25 : decode cX9_origins 25 = .ok (.invokevirtual 338, 3) := by decide +kernel
theorem dX9_origins_28 : decode cX9_origins 28 = .ok (.istore 6, 2) := by decide +kernel
theorem dX9_origins_30 : decode cX9_origins 30 = .ok (.aload_n 0, 1) := by decide +kernel
theorem dX9_origins_31 : decode cX9_origins 31 = .ok (.iload 5, 2) := by decide +kernel
theorem dX9_origins_33 : decode cX9_origins 33 = .ok (.iload_n 1, 1) := by decide +kernel
theorem dX9_origins_34 : decode cX9_origins 34 = .ok (.bipush 64, 2) := by decide +kernel
theorem dX9_origins_36 : decode cX9_origins 36 = .ok (.idiv, 1) := by decide +kernel
theorem dX9_origins_37 : decode cX9_origins 37 = .ok (.bipush 64, 2) := by decide +kernel
theorem dX9_origins_39 : decode cX9_origins 39 = .ok (.irem, 1) := by decide +kernel
theorem dX9_origins_40 : decode cX9_origins 40 = .ok (.iload_n 2, 1) := by decide +kernel
theorem dX9_origins_41 : decode cX9_origins 41 = .ok (.bipush 100, 2) := by decide +kernel
theorem dX9_origins_43 : decode cX9_origins 43 = .ok (.idiv, 1) := by decide +kernel
theorem dX9_origins_44 : decode cX9_origins 44 = .ok (.bipush 100, 2) := by decide +kernel
theorem dX9_origins_46 : decode cX9_origins 46 = .ok (.irem, 1) := by decide +kernel
theorem dX9_origins_47 : decode cX9_origins 47 = .ok (.invokevirtual 338, 3) := by decide +kernel
theorem dX9_origins_50 : decode cX9_origins 50 = .ok (.istore 7, 2) := by decide +kernel
theorem dX9_origins_52 : decode cX9_origins 52 = .ok (.aload_n 0, 1) := by decide +kernel
theorem dX9_origins_53 : decode cX9_origins 53 = .ok (.iload 5, 2) := by decide +kernel
theorem dX9_origins_55 : decode cX9_origins 55 = .ok (.iload_n 1, 1) := by decide +kernel
theorem dX9_origins_56 : decode cX9_origins 56 = .ok (.bipush 64, 2) := by decide +kernel
theorem dX9_origins_58 : decode cX9_origins 58 = .ok (.irem, 1) := by decide +kernel
theorem dX9_origins_59 : decode cX9_origins 59 = .ok (.iload_n 2, 1) := by decide +kernel
theorem dX9_origins_60 : decode cX9_origins 60 = .ok (.bipush 100, 2) := by decide +kernel
theorem dX9_origins_62 : decode cX9_origins 62 = .ok (.irem, 1) := by decide +kernel
theorem dX9_origins_63 : decode cX9_origins 63 = .ok (.invokevirtual 338, 3) := by decide +kernel
theorem dX9_origins_66 : decode cX9_origins 66 = .ok (.istore 8, 2) := by decide +kernel
theorem dX9_origins_68 : decode cX9_origins 68 = .ok (.iload 6, 2) := by decide +kernel
theorem dX9_origins_70 : decode cX9_origins 70 = .ok (.ifCond .eq 20, 3) := by decide +kernel
theorem dX9_origins_73 : decode cX9_origins 73 = .ok (.iload 7, 2) := by decide +kernel
theorem dX9_origins_75 : decode cX9_origins 75 = .ok (.ifCond .eq 15, 3) := by decide +kernel
theorem dX9_origins_78 : decode cX9_origins 78 = .ok (.iload 8, 2) := by decide +kernel
theorem dX9_origins_80 : decode cX9_origins 80 = .ok (.ifCond .eq 10, 3) := by decide +kernel
theorem dX9_origins_83 : decode cX9_origins 83 = .ok (.lload_n 3, 1) := by decide +kernel
theorem dX9_origins_84 : decode cX9_origins 84 = .ok (.lconst 1, 1) := by decide +kernel
theorem dX9_origins_85 : decode cX9_origins 85 = .ok (.iload 5, 2) := by decide +kernel
theorem dX9_origins_87 : decode cX9_origins 87 = .ok (.lshl, 1) := by decide +kernel
theorem dX9_origins_88 : decode cX9_origins 88 = .ok (.lor, 1) := by decide +kernel
theorem dX9_origins_89 : decode cX9_origins 89 = .ok (.lstore_n 3, 1) := by decide +kernel
theorem dX9_origins_90 : decode cX9_origins 90 = .ok (.iinc 5 1, 3) := by decide +kernel
theorem dX9_origins_93 : decode cX9_origins 93 = .ok (.goto (-88), 3) := by decide +kernel
theorem dX9_origins_96 : decode cX9_origins 96 = .ok (.lload_n 3, 1) := by decide +kernel
theorem dX9_origins_97 : decode cX9_origins 97 = .ok (.lreturn, 1) := by decide +kernel
theorem dX9_isHeardBehind_0 : decode cX9_isHeardBehind 0 = .ok (.aload_n 0, 1) := by decide +kernel
theorem dX9_isHeardBehind_1 : decode cX9_isHeardBehind 1 = .ok (.getfield 10, 3) := by decide +kernel
theorem dX9_isHeardBehind_4 : decode cX9_isHeardBehind 4 = .ok (.iload_n 1, 1) := by decide +kernel
theorem dX9_isHeardBehind_5 : decode cX9_isHeardBehind 5 = .ok (.iload_n 2, 1) := by decide +kernel
theorem dX9_isHeardBehind_6 : decode cX9_isHeardBehind 6 = .ok (.invokestatic 138, 3) := by decide +kernel
theorem dX9_isHeardBehind_9 : decode cX9_isHeardBehind 9 = .ok (.aload_n 0, 1) := by decide +kernel
theorem dX9_isHeardBehind_10 : decode cX9_isHeardBehind 10 = .ok (.getfield 10, 3) := by decide +kernel
theorem dX9_isHeardBehind_13 : decode cX9_isHeardBehind 13 = .ok (.getfield 88, 3) := by decide +kernel
theorem dX9_isHeardBehind_16 : decode cX9_isHeardBehind 16 = .ok (.aload_n 0, 1) := by decide +kernel
theorem dX9_isHeardBehind_17 : decode cX9_isHeardBehind 17 = .ok (.getfield 19, 3) := by decide +kernel
theorem dX9_isHeardBehind_20 : decode cX9_isHeardBehind 20 = .ok (.invokevirtual 127, 3) := by decide +kernel
theorem dX9_isHeardBehind_23 : decode cX9_isHeardBehind 23 = .ok (.invokevirtual 141, 3) := by decide +kernel
theorem dX9_isHeardBehind_26 : decode cX9_isHeardBehind 26 = .ok (.iload_n 3, 1) := by decide +kernel
theorem dX9_isHeardBehind_27 : decode cX9_isHeardBehind 27 = .ok (.if_icmp .ne 7, 3) := by decide +kernel
theorem dX9_isHeardBehind_30 : decode cX9_isHeardBehind 30 = .ok (.iconst 1, 1) := by decide +kernel
theorem dX9_isHeardBehind_31 : decode cX9_isHeardBehind 31 = .ok (.goto 4, 3) := by decide +kernel
theorem dX9_isHeardBehind_34 : decode cX9_isHeardBehind 34 = .ok (.iconst 0, 1) := by decide +kernel
theorem dX9_isHeardBehind_35 : decode cX9_isHeardBehind 35 = .ok (.ireturn, 1) := by decide +kernel
theorem dX9_sheetOf_0 : decode cX9_sheetOf 0 = .ok (.iload_n 1, 1) := by decide +kernel
theorem dX9_sheetOf_1 : decode cX9_sheetOf 1 = .ok (.ifCond .lt 26, 3) := by decide +kernel
theorem dX9_sheetOf_4 : decode cX9_sheetOf 4 = .ok (.iload_n 1, 1) := by decide +kernel
theorem dX9_sheetOf_5 : decode cX9_sheetOf 5 = .ok (.iconst 4, 1) := by decide +kernel
theorem dX9_sheetOf_6 : decode cX9_sheetOf 6 = .ok (.if_icmp .ge 21, 3) := by decide +kernel
theorem dX9_sheetOf_9 : decode cX9_sheetOf 9 = .ok (.iload_n 1, 1) := by decide +kernel
theorem dX9_sheetOf_10 : decode cX9_sheetOf 10 = .ok (.aload_n 0, 1) := by decide +kernel
theorem dX9_sheetOf_11 : decode cX9_sheetOf 11 = .ok (.getfield 42, 3) := by decide +kernel
theorem dX9_sheetOf_14 : decode cX9_sheetOf 14 = .ok (.arraylength, 1) := by decide +kernel
theorem dX9_sheetOf_15 : decode cX9_sheetOf 15 = .ok (.if_icmp .ge 12, 3) := by decide +kernel
theorem dX9_sheetOf_18 : decode cX9_sheetOf 18 = .ok (.aload_n 0, 1) := by decide +kernel
theorem dX9_sheetOf_19 : decode cX9_sheetOf 19 = .ok (.getfield 42, 3) := by decide +kernel
theorem dX9_sheetOf_22 : decode cX9_sheetOf 22 = .ok (.iload_n 1, 1) := by decide +kernel
theorem dX9_sheetOf_23 : decode cX9_sheetOf 23 = .ok (.aaload, 1) := by decide +kernel
theorem dX9_sheetOf_24 : decode cX9_sheetOf 24 = .ok (.goto 4, 3) := by decide +kernel
theorem dX9_sheetOf_27 : decode cX9_sheetOf 27 = .ok (.aconst_null, 1) := by decide +kernel
theorem dX9_sheetOf_28 : decode cX9_sheetOf 28 = .ok (.areturn, 1) := by decide +kernel
theorem dX9_within_0 : decode cX9_within 0 = .ok (.iload_n 0, 1) := by decide +kernel
theorem dX9_within_1 : decode cX9_within 1 = .ok (.iload_n 1, 1) := by decide +kernel
theorem dX9_within_2 : decode cX9_within 2 = .ok (.if_icmp .lt 12, 3) := by decide +kernel
theorem dX9_within_5 : decode cX9_within 5 = .ok (.iload_n 0, 1) := by decide +kernel
theorem dX9_within_6 : decode cX9_within 6 = .ok (.iload_n 2, 1) := by decide +kernel
theorem dX9_within_7 : decode cX9_within 7 = .ok (.if_icmp .gt 7, 3) := by decide +kernel
theorem dX9_within_10 : decode cX9_within 10 = .ok (.iconst 1, 1) := by decide +kernel
theorem dX9_within_11 : decode cX9_within 11 = .ok (.goto 4, 3) := by decide +kernel
theorem dX9_within_14 : decode cX9_within 14 = .ok (.iconst 0, 1) := by decide +kernel
theorem dX9_within_15 : decode cX9_within 15 = .ok (.ireturn, 1) := by decide +kernel
theorem dX9_isCell_0 : decode cX9_isCell 0 = .ok (.iload_n 0, 1) := by decide +kernel
theorem dX9_isCell_1 : decode cX9_isCell 1 = .ok (.iconst 0, 1) := by decide +kernel
theorem dX9_isCell_2 : decode cX9_isCell 2 = .ok (.bipush 63, 2) := by decide +kernel
theorem dX9_isCell_4 : decode cX9_isCell 4 = .ok (.invokestatic 77, 3) := by decide +kernel
theorem dX9_isCell_7 : decode cX9_isCell 7 = .ok (.ireturn, 1) := by decide +kernel
theorem dX9_isAhead_0 : decode cX9_isAhead 0 = .ok (.iload_n 0, 1) := by decide +kernel
theorem dX9_isAhead_1 : decode cX9_isAhead 1 = .ok (.iconst 0, 1) := by decide +kernel
theorem dX9_isAhead_2 : decode cX9_isAhead 2 = .ok (.sipush 128, 3) := by decide +kernel
theorem dX9_isAhead_5 : decode cX9_isAhead 5 = .ok (.invokestatic 77, 3) := by decide +kernel
theorem dX9_isAhead_8 : decode cX9_isAhead 8 = .ok (.ireturn, 1) := by decide +kernel
theorem dX9_isKindAndNumber_0 : decode cX9_isKindAndNumber 0 = .ok (.iload_n 0, 1) := by decide +kernel
theorem dX9_isKindAndNumber_1 : decode cX9_isKindAndNumber 1 = .ok (.iconst 0, 1) := by decide +kernel
theorem dX9_isKindAndNumber_2 : decode cX9_isKindAndNumber 2 = .ok (.bipush 69, 2) := by decide +kernel
theorem dX9_isKindAndNumber_4 : decode cX9_isKindAndNumber 4 = .ok (.invokestatic 77, 3) := by decide +kernel
theorem dX9_isKindAndNumber_7 : decode cX9_isKindAndNumber 7 = .ok (.ireturn, 1) := by decide +kernel
theorem dX9_areThreeCells_0 : decode cX9_areThreeCells 0 = .ok (.iload_n 0, 1) := by decide +kernel
theorem dX9_areThreeCells_1 : decode cX9_areThreeCells 1 = .ok (.iconst 0, 1) := by decide +kernel
theorem dX9_areThreeCells_2 : decode cX9_areThreeCells 2 = .ok (.ldc_w 341, 3) := by decide +kernel
theorem dX9_areThreeCells_5 : decode cX9_areThreeCells 5 = .ok (.invokestatic 77, 3) := by decide +kernel
theorem dX9_areThreeCells_8 : decode cX9_areThreeCells 8 = .ok (.ireturn, 1) := by decide +kernel
theorem dX9_areThreeLags_0 : decode cX9_areThreeLags 0 = .ok (.iload_n 0, 1) := by decide +kernel
theorem dX9_areThreeLags_1 : decode cX9_areThreeLags 1 = .ok (.iconst 0, 1) := by decide +kernel
theorem dX9_areThreeLags_2 : decode cX9_areThreeLags 2 = .ok (.ldc_w 342, 3) := by decide +kernel
theorem dX9_areThreeLags_5 : decode cX9_areThreeLags 5 = .ok (.invokestatic 77, 3) := by decide +kernel
theorem dX9_areThreeLags_8 : decode cX9_areThreeLags 8 = .ok (.ireturn, 1) := by decide +kernel
theorem dX9_above_0 : decode cX9_above 0 = .ok (.iload_n 0, 1) := by decide +kernel
theorem dX9_above_1 : decode cX9_above 1 = .ok (.ifCond .lt 19, 3) := by decide +kernel
theorem dX9_above_4 : decode cX9_above 4 = .ok (.iload_n 0, 1) := by decide +kernel
theorem dX9_above_5 : decode cX9_above 5 = .ok (.getstatic 343, 3) := by decide +kernel
theorem dX9_above_8 : decode cX9_above 8 = .ok (.arraylength, 1) := by decide +kernel
theorem dX9_above_9 : decode cX9_above 9 = .ok (.if_icmp .ge 11, 3) := by decide +kernel
theorem dX9_above_12 : decode cX9_above 12 = .ok (.getstatic 343, 3) := by decide +kernel
theorem dX9_above_15 : decode cX9_above 15 = .ok (.iload_n 0, 1) := by decide +kernel
theorem dX9_above_16 : decode cX9_above 16 = .ok (.iaload, 1) := by decide +kernel
theorem dX9_above_17 : decode cX9_above 17 = .ok (.goto 4, 3) := by decide +kernel
theorem dX9_above_20 : decode cX9_above 20 = .ok (.iconst (-1), 1) := by decide +kernel
theorem dX9_above_21 : decode cX9_above 21 = .ok (.ireturn, 1) := by decide +kernel
theorem dX9_isUnder_0 : decode cX9_isUnder 0 = .ok (.iload_n 0, 1) := by decide +kernel
theorem dX9_isUnder_1 : decode cX9_isUnder 1 = .ok (.istore_n 2, 1) := by decide +kernel
theorem dX9_isUnder_2 : decode cX9_isUnder 2 = .ok (.iconst 0, 1) := by decide +kernel
theorem dX9_isUnder_3 : decode cX9_isUnder 3 = .ok (.istore_n 3, 1) := by decide +kernel
theorem dX9_isUnder_4 : decode cX9_isUnder 4 = .ok (.iload_n 3, 1) := by decide +kernel
theorem dX9_isUnder_5 : decode cX9_isUnder 5 = .ok (.getstatic 343, 3) := by decide +kernel
theorem dX9_isUnder_8 : decode cX9_isUnder 8 = .ok (.arraylength, 1) := by decide +kernel
theorem dX9_isUnder_9 : decode cX9_isUnder 9 = .ok (.if_icmp .ge 25, 3) := by decide +kernel
theorem dX9_isUnder_12 : decode cX9_isUnder 12 = .ok (.iload_n 2, 1) := by decide +kernel
theorem dX9_isUnder_13 : decode cX9_isUnder 13 = .ok (.ifCond .lt 21, 3) := by decide +kernel
theorem dX9_isUnder_16 : decode cX9_isUnder 16 = .ok (.iload_n 2, 1) := by decide +kernel
theorem dX9_isUnder_17 : decode cX9_isUnder 17 = .ok (.iload_n 1, 1) := by decide +kernel
theorem dX9_isUnder_18 : decode cX9_isUnder 18 = .ok (.if_icmp .ne 5, 3) := by decide +kernel
theorem dX9_isUnder_21 : decode cX9_isUnder 21 = .ok (.iconst 1, 1) := by decide +kernel
theorem dX9_isUnder_22 : decode cX9_isUnder 22 = .ok (.ireturn, 1) := by decide +kernel
theorem dX9_isUnder_23 : decode cX9_isUnder 23 = .ok (.iload_n 2, 1) := by decide +kernel
theorem dX9_isUnder_24 : decode cX9_isUnder 24 = .ok (.invokestatic 346, 3) := by decide +kernel
theorem dX9_isUnder_27 : decode cX9_isUnder 27 = .ok (.istore_n 2, 1) := by decide +kernel
theorem dX9_isUnder_28 : decode cX9_isUnder 28 = .ok (.iinc 3 1, 3) := by decide +kernel
theorem dX9_isUnder_31 : decode cX9_isUnder 31 = .ok (.goto (-27), 3) := by decide +kernel
theorem dX9_isUnder_34 : decode cX9_isUnder 34 = .ok (.iconst 0, 1) := by decide +kernel
theorem dX9_isUnder_35 : decode cX9_isUnder 35 = .ok (.ireturn, 1) := by decide +kernel
theorem dX9_far_0 : decode cX9_far 0 = .ok (.iload_n 0, 1) := by decide +kernel
theorem dX9_far_1 : decode cX9_far 1 = .ok (.iconst 3, 1) := by decide +kernel
theorem dX9_far_2 : decode cX9_far 2 = .ok (.ishr, 1) := by decide +kernel
theorem dX9_far_3 : decode cX9_far 3 = .ok (.iload_n 1, 1) := by decide +kernel
theorem dX9_far_4 : decode cX9_far 4 = .ok (.iconst 3, 1) := by decide +kernel
theorem dX9_far_5 : decode cX9_far 5 = .ok (.ishr, 1) := by decide +kernel
theorem dX9_far_6 : decode cX9_far 6 = .ok (.isub, 1) := by decide +kernel
theorem dX9_far_7 : decode cX9_far 7 = .ok (.invokestatic 349, 3) := by decide +kernel
theorem dX9_far_10 : decode cX9_far 10 = .ok (.istore_n 2, 1) := by decide +kernel
theorem dX9_far_11 : decode cX9_far 11 = .ok (.iload_n 0, 1) := by decide +kernel
theorem dX9_far_12 : decode cX9_far 12 = .ok (.bipush 7, 2) := by decide +kernel
theorem dX9_far_14 : decode cX9_far 14 = .ok (.iand, 1) := by decide +kernel
theorem dX9_far_15 : decode cX9_far 15 = .ok (.iload_n 1, 1) := by decide +kernel
theorem dX9_far_16 : decode cX9_far 16 = .ok (.bipush 7, 2) := by decide +kernel
theorem dX9_far_18 : decode cX9_far 18 = .ok (.iand, 1) := by decide +kernel
theorem dX9_far_19 : decode cX9_far 19 = .ok (.isub, 1) := by decide +kernel
theorem dX9_far_20 : decode cX9_far 20 = .ok (.invokestatic 349, 3) := by decide +kernel
theorem dX9_far_23 : decode cX9_far 23 = .ok (.istore_n 3, 1) := by decide +kernel
theorem dX9_far_24 : decode cX9_far 24 = .ok (.iload_n 2, 1) := by decide +kernel
theorem dX9_far_25 : decode cX9_far 25 = .ok (.iload_n 3, 1) := by decide +kernel
theorem dX9_far_26 : decode cX9_far 26 = .ok (.invokestatic 354, 3) := by decide +kernel
theorem dX9_far_29 : decode cX9_far 29 = .ok (.ireturn, 1) := by decide +kernel
theorem dX9_nextCell_0 : decode cX9_nextCell 0 = .ok (.iload_n 1, 1) := by decide +kernel
theorem dX9_nextCell_1 : decode cX9_nextCell 1 = .ok (.tableswitch 95 1 4 #[31, 46, 63, 80], 31) := by decide +kernel
theorem dX9_nextCell_32 : decode cX9_nextCell 32 = .ok (.iload_n 0, 1) := by decide +kernel
theorem dX9_nextCell_33 : decode cX9_nextCell 33 = .ok (.iconst 3, 1) := by decide +kernel
theorem dX9_nextCell_34 : decode cX9_nextCell 34 = .ok (.ishr, 1) := by decide +kernel
theorem dX9_nextCell_35 : decode cX9_nextCell 35 = .ok (.ifCond .ne 7, 3) := by decide +kernel
theorem dX9_nextCell_38 : decode cX9_nextCell 38 = .ok (.iload_n 0, 1) := by decide +kernel
theorem dX9_nextCell_39 : decode cX9_nextCell 39 = .ok (.goto 7, 3) := by decide +kernel
theorem dX9_nextCell_42 : decode cX9_nextCell 42 = .ok (.iload_n 0, 1) := by decide +kernel
theorem dX9_nextCell_43 : decode cX9_nextCell 43 = .ok (.bipush 8, 2) := by decide +kernel
theorem dX9_nextCell_45 : decode cX9_nextCell 45 = .ok (.isub, 1) := by decide +kernel
theorem dX9_nextCell_46 : decode cX9_nextCell 46 = .ok (.ireturn, 1) := by decide +kernel
theorem dX9_nextCell_47 : decode cX9_nextCell 47 = .ok (.iload_n 0, 1) := by decide +kernel
theorem dX9_nextCell_48 : decode cX9_nextCell 48 = .ok (.bipush 7, 2) := by decide +kernel
theorem dX9_nextCell_50 : decode cX9_nextCell 50 = .ok (.iand, 1) := by decide +kernel
theorem dX9_nextCell_51 : decode cX9_nextCell 51 = .ok (.bipush 7, 2) := by decide +kernel
theorem dX9_nextCell_53 : decode cX9_nextCell 53 = .ok (.if_icmp .ne 7, 3) := by decide +kernel
theorem dX9_nextCell_56 : decode cX9_nextCell 56 = .ok (.iload_n 0, 1) := by decide +kernel
theorem dX9_nextCell_57 : decode cX9_nextCell 57 = .ok (.goto 6, 3) := by decide +kernel
theorem dX9_nextCell_60 : decode cX9_nextCell 60 = .ok (.iload_n 0, 1) := by decide +kernel
theorem dX9_nextCell_61 : decode cX9_nextCell 61 = .ok (.iconst 1, 1) := by decide +kernel
theorem dX9_nextCell_62 : decode cX9_nextCell 62 = .ok (.iadd, 1) := by decide +kernel
theorem dX9_nextCell_63 : decode cX9_nextCell 63 = .ok (.ireturn, 1) := by decide +kernel
theorem dX9_nextCell_64 : decode cX9_nextCell 64 = .ok (.iload_n 0, 1) := by decide +kernel
theorem dX9_nextCell_65 : decode cX9_nextCell 65 = .ok (.iconst 3, 1) := by decide +kernel
theorem dX9_nextCell_66 : decode cX9_nextCell 66 = .ok (.ishr, 1) := by decide +kernel
theorem dX9_nextCell_67 : decode cX9_nextCell 67 = .ok (.bipush 7, 2) := by decide +kernel
theorem dX9_nextCell_69 : decode cX9_nextCell 69 = .ok (.if_icmp .ne 7, 3) := by decide +kernel
theorem dX9_nextCell_72 : decode cX9_nextCell 72 = .ok (.iload_n 0, 1) := by decide +kernel
theorem dX9_nextCell_73 : decode cX9_nextCell 73 = .ok (.goto 7, 3) := by decide +kernel
theorem dX9_nextCell_76 : decode cX9_nextCell 76 = .ok (.iload_n 0, 1) := by decide +kernel
theorem dX9_nextCell_77 : decode cX9_nextCell 77 = .ok (.bipush 8, 2) := by decide +kernel
theorem dX9_nextCell_79 : decode cX9_nextCell 79 = .ok (.iadd, 1) := by decide +kernel
theorem dX9_nextCell_80 : decode cX9_nextCell 80 = .ok (.ireturn, 1) := by decide +kernel
theorem dX9_nextCell_81 : decode cX9_nextCell 81 = .ok (.iload_n 0, 1) := by decide +kernel
theorem dX9_nextCell_82 : decode cX9_nextCell 82 = .ok (.bipush 7, 2) := by decide +kernel
theorem dX9_nextCell_84 : decode cX9_nextCell 84 = .ok (.iand, 1) := by decide +kernel
theorem dX9_nextCell_85 : decode cX9_nextCell 85 = .ok (.ifCond .ne 7, 3) := by decide +kernel
theorem dX9_nextCell_88 : decode cX9_nextCell 88 = .ok (.iload_n 0, 1) := by decide +kernel
theorem dX9_nextCell_89 : decode cX9_nextCell 89 = .ok (.goto 6, 3) := by decide +kernel
theorem dX9_nextCell_92 : decode cX9_nextCell 92 = .ok (.iload_n 0, 1) := by decide +kernel
theorem dX9_nextCell_93 : decode cX9_nextCell 93 = .ok (.iconst 1, 1) := by decide +kernel
theorem dX9_nextCell_94 : decode cX9_nextCell 94 = .ok (.isub, 1) := by decide +kernel
theorem dX9_nextCell_95 : decode cX9_nextCell 95 = .ok (.ireturn, 1) := by decide +kernel
theorem dX9_nextCell_96 : decode cX9_nextCell 96 = .ok (.iload_n 0, 1) := by decide +kernel
theorem dX9_nextCell_97 : decode cX9_nextCell 97 = .ok (.ireturn, 1) := by decide +kernel
theorem dX9_firstOfMost_0 : decode cX9_firstOfMost 0 = .ok (.iconst 0, 1) := by decide +kernel
theorem dX9_firstOfMost_1 : decode cX9_firstOfMost 1 = .ok (.istore_n 2, 1) := by decide +kernel
theorem dX9_firstOfMost_2 : decode cX9_firstOfMost 2 = .ok (.iconst 1, 1) := by decide +kernel
theorem dX9_firstOfMost_3 : decode cX9_firstOfMost 3 = .ok (.istore_n 3, 1) := by decide +kernel
theorem dX9_firstOfMost_4 : decode cX9_firstOfMost 4 = .ok (.iload_n 3, 1) := by decide +kernel
theorem dX9_firstOfMost_5 : decode cX9_firstOfMost 5 = .ok (.iload_n 1, 1) := by decide +kernel
theorem dX9_firstOfMost_6 : decode cX9_firstOfMost 6 = .ok (.if_icmp .ge 26, 3) := by decide +kernel
theorem dX9_firstOfMost_9 : decode cX9_firstOfMost 9 = .ok (.iload_n 3, 1) := by decide +kernel
theorem dX9_firstOfMost_10 : decode cX9_firstOfMost 10 = .ok (.aload_n 0, 1) := by decide +kernel
theorem dX9_firstOfMost_11 : decode cX9_firstOfMost 11 = .ok (.arraylength, 1) := by decide +kernel
theorem dX9_firstOfMost_12 : decode cX9_firstOfMost 12 = .ok (.if_icmp .ge 20, 3) := by decide +kernel
theorem dX9_firstOfMost_15 : decode cX9_firstOfMost 15 = .ok (.aload_n 0, 1) := by decide +kernel
theorem dX9_firstOfMost_16 : decode cX9_firstOfMost 16 = .ok (.iload_n 3, 1) := by decide +kernel
theorem dX9_firstOfMost_17 : decode cX9_firstOfMost 17 = .ok (.iaload, 1) := by decide +kernel
theorem dX9_firstOfMost_18 : decode cX9_firstOfMost 18 = .ok (.aload_n 0, 1) := by decide +kernel
theorem dX9_firstOfMost_19 : decode cX9_firstOfMost 19 = .ok (.iload_n 2, 1) := by decide +kernel
theorem dX9_firstOfMost_20 : decode cX9_firstOfMost 20 = .ok (.iaload, 1) := by decide +kernel
theorem dX9_firstOfMost_21 : decode cX9_firstOfMost 21 = .ok (.if_icmp .le 5, 3) := by decide +kernel
theorem dX9_firstOfMost_24 : decode cX9_firstOfMost 24 = .ok (.iload_n 3, 1) := by decide +kernel
theorem dX9_firstOfMost_25 : decode cX9_firstOfMost 25 = .ok (.istore_n 2, 1) := by decide +kernel
theorem dX9_firstOfMost_26 : decode cX9_firstOfMost 26 = .ok (.iinc 3 1, 3) := by decide +kernel
theorem dX9_firstOfMost_29 : decode cX9_firstOfMost 29 = .ok (.goto (-25), 3) := by decide +kernel
theorem dX9_firstOfMost_32 : decode cX9_firstOfMost 32 = .ok (.iload_n 2, 1) := by decide +kernel
theorem dX9_firstOfMost_33 : decode cX9_firstOfMost 33 = .ok (.ireturn, 1) := by decide +kernel
end
section
theorem dX10_init_0 : decode cX10_init 0 = .ok (.aload_n 0, 1) := by decide +kernel
theorem dX10_init_1 : decode cX10_init 1 = .ok (.invokespecial 3, 3) := by decide +kernel
theorem dX10_init_4 : decode cX10_init 4 = .ok (.aload_n 0, 1) := by decide +kernel
theorem dX10_init_5 : decode cX10_init 5 = .ok (.sipush 240, 3) := by decide +kernel
theorem dX10_init_8 : decode cX10_init 8 = .ok (.newarray .int, 2) := by decide +kernel
theorem dX10_init_10 : decode cX10_init 10 = .ok (.putfield 9, 3) := by decide +kernel
theorem dX10_init_13 : decode cX10_init 13 = .ok (.aload_n 0, 1) := by decide +kernel
theorem dX10_init_14 : decode cX10_init 14 = .ok (.sipush 240, 3) := by decide +kernel
theorem dX10_init_17 : decode cX10_init 17 = .ok (.newarray .int, 2) := by decide +kernel
theorem dX10_init_19 : decode cX10_init 19 = .ok (.putfield 13, 3) := by decide +kernel
theorem dX10_init_22 : decode cX10_init 22 = .ok (.aload_n 0, 1) := by decide +kernel
theorem dX10_init_23 : decode cX10_init 23 = .ok (.sipush 240, 3) := by decide +kernel
theorem dX10_init_26 : decode cX10_init 26 = .ok (.newarray .int, 2) := by decide +kernel
theorem dX10_init_28 : decode cX10_init 28 = .ok (.putfield 16, 3) := by decide +kernel
theorem dX10_init_31 : decode cX10_init 31 = .ok (.aload_n 0, 1) := by decide +kernel
theorem dX10_init_32 : decode cX10_init 32 = .ok (.bipush 6, 2) := by decide +kernel
theorem dX10_init_34 : decode cX10_init 34 = .ok (.newarray .int, 2) := by decide +kernel
theorem dX10_init_36 : decode cX10_init 36 = .ok (.putfield 19, 3) := by decide +kernel
theorem dX10_init_39 : decode cX10_init 39 = .ok (.aload_n 0, 1) := by decide +kernel
theorem dX10_init_40 : decode cX10_init 40 = .ok (.sipush 2560, 3) := by decide +kernel
theorem dX10_init_43 : decode cX10_init 43 = .ok (.newarray .int, 2) := by decide +kernel
theorem dX10_init_45 : decode cX10_init 45 = .ok (.putfield 22, 3) := by decide +kernel
theorem dX10_init_48 : decode cX10_init 48 = .ok (.aload_n 0, 1) := by decide +kernel
theorem dX10_init_49 : decode cX10_init 49 = .ok (.iconst 2, 1) := by decide +kernel
theorem dX10_init_50 : decode cX10_init 50 = .ok (.anewarray 25, 3) := by decide +kernel
theorem dX10_init_53 : decode cX10_init 53 = .ok (.dup, 1) := by decide +kernel
theorem dX10_init_54 : decode cX10_init 54 = .ok (.iconst 0, 1) := by decide +kernel
theorem dX10_init_55 : decode cX10_init 55 = .ok (.ldc 27, 2) := by decide +kernel
theorem dX10_init_57 : decode cX10_init 57 = .ok (.aastore, 1) := by decide +kernel
theorem dX10_init_58 : decode cX10_init 58 = .ok (.dup, 1) := by decide +kernel
theorem dX10_init_59 : decode cX10_init 59 = .ok (.iconst 1, 1) := by decide +kernel
theorem dX10_init_60 : decode cX10_init 60 = .ok (.ldc 29, 2) := by decide +kernel
theorem dX10_init_62 : decode cX10_init 62 = .ok (.aastore, 1) := by decide +kernel
theorem dX10_init_63 : decode cX10_init 63 = .ok (.putfield 31, 3) := by decide +kernel
theorem dX10_init_66 : decode cX10_init 66 = .ok (.aload_n 0, 1) := by decide +kernel
theorem dX10_init_67 : decode cX10_init 67 = .ok (.bipush 60, 2) := by decide +kernel
theorem dX10_init_69 : decode cX10_init 69 = .ok (.newarray .int, 2) := by decide +kernel
theorem dX10_init_71 : decode cX10_init 71 = .ok (.putfield 35, 3) := by decide +kernel
theorem dX10_init_74 : decode cX10_init 74 = .ok (.aload_n 0, 1) := by decide +kernel
theorem dX10_init_75 : decode cX10_init 75 = .ok (.iconst 4, 1) := by decide +kernel
theorem dX10_init_76 : decode cX10_init 76 = .ok (.newarray .int, 2) := by decide +kernel
theorem dX10_init_78 : decode cX10_init 78 = .ok (.putfield 38, 3) := by decide +kernel
theorem dX10_init_81 : decode cX10_init 81 = .ok (.aload_n 0, 1) := by decide +kernel
theorem dX10_init_82 : decode cX10_init 82 = .ok (.bipush 60, 2) := by decide +kernel
theorem dX10_init_84 : decode cX10_init 84 = .ok (.newarray .int, 2) := by decide +kernel
theorem dX10_init_86 : decode cX10_init 86 = .ok (.putfield 41, 3) := by decide +kernel
theorem dX10_init_89 : decode cX10_init 89 = .ok (.aload_n 0, 1) := by decide +kernel
theorem dX10_init_90 : decode cX10_init 90 = .ok (.bipush 64, 2) := by decide +kernel
theorem dX10_init_92 : decode cX10_init 92 = .ok (.newarray .int, 2) := by decide +kernel
theorem dX10_init_94 : decode cX10_init 94 = .ok (.putfield 44, 3) := by decide +kernel
theorem dX10_init_97 : decode cX10_init 97 = .ok (.aload_n 0, 1) := by decide +kernel
theorem dX10_init_98 : decode cX10_init 98 = .ok (.bipush 40, 2) := by decide +kernel
theorem dX10_init_100 : decode cX10_init 100 = .ok (.newarray .int, 2) := by decide +kernel
theorem dX10_init_102 : decode cX10_init 102 = .ok (.putfield 47, 3) := by decide +kernel
theorem dX10_init_105 : decode cX10_init 105 = .ok (.aload_n 0, 1) := by decide +kernel
theorem dX10_init_106 : decode cX10_init 106 = .ok (.iconst 4, 1) := by decide +kernel
theorem dX10_init_107 : decode cX10_init 107 = .ok (.newarray .int, 2) := by decide +kernel
theorem dX10_init_109 : decode cX10_init 109 = .ok (.putfield 50, 3) := by decide +kernel
theorem dX10_init_112 : decode cX10_init 112 = .ok (.aload_n 0, 1) := by decide +kernel
theorem dX10_init_113 : decode cX10_init 113 = .ok (.iconst 4, 1) := by decide +kernel
theorem dX10_init_114 : decode cX10_init 114 = .ok (.newarray .int, 2) := by decide +kernel
theorem dX10_init_116 : decode cX10_init 116 = .ok (.putfield 53, 3) := by decide +kernel
theorem dX10_init_119 : decode cX10_init 119 = .ok (.aload_n 0, 1) := by decide +kernel
theorem dX10_init_120 : decode cX10_init 120 = .ok (.sipush 160, 3) := by decide +kernel
theorem dX10_init_123 : decode cX10_init 123 = .ok (.newarray .int, 2) := by decide +kernel
theorem dX10_init_125 : decode cX10_init 125 = .ok (.putfield 56, 3) := by decide +kernel
theorem dX10_init_128 : decode cX10_init 128 = .ok (.aload_n 0, 1) := by decide +kernel
theorem dX10_init_129 : decode cX10_init 129 = .ok (.bipush 40, 2) := by decide +kernel
theorem dX10_init_131 : decode cX10_init 131 = .ok (.newarray .int, 2) := by decide +kernel
theorem dX10_init_133 : decode cX10_init 133 = .ok (.putfield 59, 3) := by decide +kernel
theorem dX10_init_136 : decode cX10_init 136 = .ok (.aload_n 0, 1) := by decide +kernel
theorem dX10_init_137 : decode cX10_init 137 = .ok (.getfield 9, 3) := by decide +kernel
theorem dX10_init_140 : decode cX10_init 140 = .ok (.iconst 1, 1) := by decide +kernel
theorem dX10_init_141 : decode cX10_init 141 = .ok (.iconst 2, 1) := by decide +kernel
theorem dX10_init_142 : decode cX10_init 142 = .ok (.iastore, 1) := by decide +kernel
theorem dX10_init_143 : decode cX10_init 143 = .ok (.aload_n 0, 1) := by decide +kernel
theorem dX10_init_144 : decode cX10_init 144 = .ok (.getfield 9, 3) := by decide +kernel
theorem dX10_init_147 : decode cX10_init 147 = .ok (.bipush 11, 2) := by decide +kernel
theorem dX10_init_149 : decode cX10_init 149 = .ok (.iconst 1, 1) := by decide +kernel
theorem dX10_init_150 : decode cX10_init 150 = .ok (.iastore, 1) := by decide +kernel
theorem dX10_init_151 : decode cX10_init 151 = .ok (.return_, 1) := by decide +kernel
theorem dX10_finding_0 : decode cX10_finding 0 = .ok (.aload_n 0, 1) := by decide +kernel
theorem dX10_finding_1 : decode cX10_finding 1 = .ok (.getfield 19, 3) := by decide +kernel
theorem dX10_finding_4 : decode cX10_finding 4 = .ok (.ldc 62, 2) := by decide +kernel
theorem dX10_finding_6 : decode cX10_finding 6 = .ok (.iload_n 1, 1) := by decide +kernel
theorem dX10_finding_7 : decode cX10_finding 7 = .ok (.isub, 1) := by decide +kernel
theorem dX10_finding_8 : decode cX10_finding 8 = .ok (.dup2, 1) := by decide +kernel
theorem dX10_finding_9 : decode cX10_finding 9 = .ok (.iaload, 1) := by decide +kernel
theorem dX10_finding_10 : decode cX10_finding 10 = .ok (.iconst 1, 1) := by decide +kernel
theorem dX10_finding_11 : decode cX10_finding 11 = .ok (.iadd, 1) := by decide +kernel
theorem dX10_finding_12 : decode cX10_finding 12 = .ok (.iastore, 1) := by decide +kernel
theorem dX10_finding_13 : decode cX10_finding 13 = .ok (.iload_n 1, 1) := by decide +kernel
theorem dX10_finding_14 : decode cX10_finding 14 = .ok (.ireturn, 1) := by decide +kernel
theorem dX10_within_0 : decode cX10_within 0 = .ok (.iload_n 0, 1) := by decide +kernel
theorem dX10_within_1 : decode cX10_within 1 = .ok (.iload_n 1, 1) := by decide +kernel
theorem dX10_within_2 : decode cX10_within 2 = .ok (.if_icmp .lt 12, 3) := by decide +kernel
theorem dX10_within_5 : decode cX10_within 5 = .ok (.iload_n 0, 1) := by decide +kernel
theorem dX10_within_6 : decode cX10_within 6 = .ok (.iload_n 2, 1) := by decide +kernel
theorem dX10_within_7 : decode cX10_within 7 = .ok (.if_icmp .gt 7, 3) := by decide +kernel
theorem dX10_within_10 : decode cX10_within 10 = .ok (.iconst 1, 1) := by decide +kernel
theorem dX10_within_11 : decode cX10_within 11 = .ok (.goto 4, 3) := by decide +kernel
theorem dX10_within_14 : decode cX10_within 14 = .ok (.iconst 0, 1) := by decide +kernel
theorem dX10_within_15 : decode cX10_within 15 = .ok (.ireturn, 1) := by decide +kernel
theorem dX10_held_0 : decode cX10_held 0 = .ok (.iload_n 1, 1) := by decide +kernel
theorem dX10_held_1 : decode cX10_held 1 = .ok (.iload_n 2, 1) := by decide +kernel
theorem dX10_held_2 : decode cX10_held 2 = .ok (.iload_n 0, 1) := by decide +kernel
theorem dX10_held_3 : decode cX10_held 3 = .ok (.invokestatic 63, 3) := by decide +kernel
theorem dX10_held_6 : decode cX10_held 6 = .ok (.invokestatic 69, 3) := by decide +kernel
theorem dX10_held_9 : decode cX10_held 9 = .ok (.ireturn, 1) := by decide +kernel
theorem dX10_is_0 : decode cX10_is 0 = .ok (.iload_n 1, 1) := by decide +kernel
theorem dX10_is_1 : decode cX10_is 1 = .ok (.iconst 0, 1) := by decide +kernel
theorem dX10_is_2 : decode cX10_is 2 = .ok (.aload_n 0, 1) := by decide +kernel
theorem dX10_is_3 : decode cX10_is 3 = .ok (.getfield 9, 3) := by decide +kernel
theorem dX10_is_6 : decode cX10_is 6 = .ok (.iload_n 2, 1) := by decide +kernel
theorem dX10_is_7 : decode cX10_is 7 = .ok (.iaload, 1) := by decide +kernel
theorem dX10_is_8 : decode cX10_is 8 = .ok (.iconst 1, 1) := by decide +kernel
theorem dX10_is_9 : decode cX10_is 9 = .ok (.isub, 1) := by decide +kernel
theorem dX10_is_10 : decode cX10_is 10 = .ok (.invokestatic 72, 3) := by decide +kernel
theorem dX10_is_13 : decode cX10_is 13 = .ok (.ireturn, 1) := by decide +kernel
theorem dX10_copy_0 : decode cX10_copy 0 = .ok (.iconst 0, 1) := by decide +kernel
theorem dX10_copy_1 : decode cX10_copy 1 = .ok (.istore_n 2, 1) := by decide +kernel
theorem dX10_copy_2 : decode cX10_copy 2 = .ok (.iload_n 2, 1) := by decide +kernel
theorem dX10_copy_3 : decode cX10_copy 3 = .ok (.sipush 240, 3) := by decide +kernel
theorem dX10_copy_6 : decode cX10_copy 6 = .ok (.if_icmp .ge 15, 3) := by decide +kernel
theorem dX10_copy_9 : decode cX10_copy 9 = .ok (.aload_n 1, 1) := by decide +kernel
theorem dX10_copy_10 : decode cX10_copy 10 = .ok (.iload_n 2, 1) := by decide +kernel
theorem dX10_copy_11 : decode cX10_copy 11 = .ok (.aload_n 0, 1) := by decide +kernel
theorem dX10_copy_12 : decode cX10_copy 12 = .ok (.iload_n 2, 1) := by decide +kernel
theorem dX10_copy_13 : decode cX10_copy 13 = .ok (.iaload, 1) := by decide +kernel
theorem dX10_copy_14 : decode cX10_copy 14 = .ok (.iastore, 1) := by decide +kernel
theorem dX10_copy_15 : decode cX10_copy 15 = .ok (.iinc 2 1, 3) := by decide +kernel
theorem dX10_copy_18 : decode cX10_copy 18 = .ok (.goto (-16), 3) := by decide +kernel
theorem dX10_copy_21 : decode cX10_copy 21 = .ok (.return_, 1) := by decide +kernel
theorem dX10_putIn_0 : decode cX10_putIn 0 = .ok (.aload_n 0, 1) := by decide +kernel
theorem dX10_putIn_1 : decode cX10_putIn 1 = .ok (.getfield 9, 3) := by decide +kernel
theorem dX10_putIn_4 : decode cX10_putIn 4 = .ok (.iload_n 1, 1) := by decide +kernel
theorem dX10_putIn_5 : decode cX10_putIn 5 = .ok (.iaload, 1) := by decide +kernel
theorem dX10_putIn_6 : decode cX10_putIn 6 = .ok (.istore_n 3, 1) := by decide +kernel
theorem dX10_putIn_7 : decode cX10_putIn 7 = .ok (.aload_n 0, 1) := by decide +kernel
theorem dX10_putIn_8 : decode cX10_putIn 8 = .ok (.getfield 9, 3) := by decide +kernel
theorem dX10_putIn_11 : decode cX10_putIn 11 = .ok (.iload_n 1, 1) := by decide +kernel
theorem dX10_putIn_12 : decode cX10_putIn 12 = .ok (.iload_n 2, 1) := by decide +kernel
theorem dX10_putIn_13 : decode cX10_putIn 13 = .ok (.iastore, 1) := by decide +kernel
theorem dX10_putIn_14 : decode cX10_putIn 14 = .ok (.iload_n 3, 1) := by decide +kernel
theorem dX10_putIn_15 : decode cX10_putIn 15 = .ok (.ireturn, 1) := by decide +kernel
theorem dX10_putBack_0 : decode cX10_putBack 0 = .ok (.aload_n 0, 1) := by decide +kernel
theorem dX10_putBack_1 : decode cX10_putBack 1 = .ok (.getfield 16, 3) := by decide +kernel
theorem dX10_putBack_4 : decode cX10_putBack 4 = .ok (.aload_n 0, 1) := by decide +kernel
theorem dX10_putBack_5 : decode cX10_putBack 5 = .ok (.getfield 9, 3) := by decide +kernel
theorem dX10_putBack_8 : decode cX10_putBack 8 = .ok (.invokestatic 76, 3) := by decide +kernel
theorem dX10_putBack_11 : decode cX10_putBack 11 = .ok (.iload_n 1, 1) := by decide +kernel
theorem dX10_putBack_12 : decode cX10_putBack 12 = .ok (.ireturn, 1) := by decide +kernel
theorem dX10_isCell_0 : decode cX10_isCell 0 = .ok (.iload_n 0, 1) := by decide +kernel
theorem dX10_isCell_1 : decode cX10_isCell 1 = .ok (.iconst 0, 1) := by decide +kernel
theorem dX10_isCell_2 : decode cX10_isCell 2 = .ok (.bipush 63, 2) := by decide +kernel
theorem dX10_isCell_4 : decode cX10_isCell 4 = .ok (.invokestatic 72, 3) := by decide +kernel
theorem dX10_isCell_7 : decode cX10_isCell 7 = .ok (.ireturn, 1) := by decide +kernel
theorem dX10_tide_0 : decode cX10_tide 0 = .ok (.iload_n 1, 1) := by decide +kernel
theorem dX10_tide_1 : decode cX10_tide 1 = .ok (.iconst 0, 1) := by decide +kernel
theorem dX10_tide_2 : decode cX10_tide 2 = .ok (.iconst 3, 1) := by decide +kernel
theorem dX10_tide_3 : decode cX10_tide 3 = .ok (.invokestatic 72, 3) := by decide +kernel
theorem dX10_tide_6 : decode cX10_tide 6 = .ok (.ifCond .eq 23, 3) := by decide +kernel
theorem dX10_tide_9 : decode cX10_tide 9 = .ok (.iload_n 2, 1) := by decide +kernel
theorem dX10_tide_10 : decode cX10_tide 10 = .ok (.iconst 0, 1) := by decide +kernel
theorem dX10_tide_11 : decode cX10_tide 11 = .ok (.iconst 4, 1) := by decide +kernel
theorem dX10_tide_12 : decode cX10_tide 12 = .ok (.invokestatic 72, 3) := by decide +kernel
theorem dX10_tide_15 : decode cX10_tide 15 = .ok (.ifCond .eq 14, 3) := by decide +kernel
theorem dX10_tide_18 : decode cX10_tide 18 = .ok (.aload_n 0, 1) := by decide +kernel
theorem dX10_tide_19 : decode cX10_tide 19 = .ok (.iconst 2, 1) := by decide +kernel
theorem dX10_tide_20 : decode cX10_tide 20 = .ok (.iload_n 1, 1) := by decide +kernel
theorem dX10_tide_21 : decode cX10_tide 21 = .ok (.iadd, 1) := by decide +kernel
theorem dX10_tide_22 : decode cX10_tide 22 = .ok (.iload_n 2, 1) := by decide +kernel
theorem dX10_tide_23 : decode cX10_tide 23 = .ok (.invokevirtual 80, 3) := by decide +kernel
theorem dX10_tide_26 : decode cX10_tide 26 = .ok (.goto 9, 3) := by decide +kernel
theorem dX10_tide_29 : decode cX10_tide 29 = .ok (.aload_n 0, 1) := by decide +kernel
theorem dX10_tide_30 : decode cX10_tide 30 = .ok (.ldc 83, 2) := by decide +kernel
theorem dX10_tide_32 : decode cX10_tide 32 = .ok (.invokevirtual 84, 3) := by decide +kernel
theorem dX10_tide_35 : decode cX10_tide 35 = .ok (.ireturn, 1) := by decide +kernel
theorem dX10_speed_0 : decode cX10_speed 0 = .ok (.iload_n 1, 1) := by decide +kernel
theorem dX10_speed_1 : decode cX10_speed 1 = .ok (.iconst 1, 1) := by decide +kernel
theorem dX10_speed_2 : decode cX10_speed 2 = .ok (.bipush 9, 2) := by decide +kernel
theorem dX10_speed_4 : decode cX10_speed 4 = .ok (.invokestatic 72, 3) := by decide +kernel
theorem dX10_speed_7 : decode cX10_speed 7 = .ok (.ifCond .eq 12, 3) := by decide +kernel
theorem dX10_speed_10 : decode cX10_speed 10 = .ok (.aload_n 0, 1) := by decide +kernel
theorem dX10_speed_11 : decode cX10_speed 11 = .ok (.iconst 1, 1) := by decide +kernel
theorem dX10_speed_12 : decode cX10_speed 12 = .ok (.iload_n 1, 1) := by decide +kernel
theorem dX10_speed_13 : decode cX10_speed 13 = .ok (.invokevirtual 80, 3) := by decide +kernel
theorem dX10_speed_16 : decode cX10_speed 16 = .ok (.goto 9, 3) := by decide +kernel
theorem dX10_speed_19 : decode cX10_speed 19 = .ok (.aload_n 0, 1) := by decide +kernel
theorem dX10_speed_20 : decode cX10_speed 20 = .ok (.ldc 83, 2) := by decide +kernel
theorem dX10_speed_22 : decode cX10_speed 22 = .ok (.invokevirtual 84, 3) := by decide +kernel
theorem dX10_speed_25 : decode cX10_speed 25 = .ok (.ireturn, 1) := by decide +kernel
theorem dX10_boatIs_0 : decode cX10_boatIs 0 = .ok (.aload_n 0, 1) := by decide +kernel
theorem dX10_boatIs_1 : decode cX10_boatIs 1 = .ok (.getfield 9, 3) := by decide +kernel
theorem dX10_boatIs_4 : decode cX10_boatIs 4 = .ok (.bipush 12, 2) := by decide +kernel
theorem dX10_boatIs_6 : decode cX10_boatIs 6 = .ok (.iconst 4, 1) := by decide +kernel
theorem dX10_boatIs_7 : decode cX10_boatIs 7 = .ok (.iload_n 1, 1) := by decide +kernel
theorem dX10_boatIs_8 : decode cX10_boatIs 8 = .ok (.imul, 1) := by decide +kernel
theorem dX10_boatIs_9 : decode cX10_boatIs 9 = .ok (.iadd, 1) := by decide +kernel
theorem dX10_boatIs_10 : decode cX10_boatIs 10 = .ok (.iload_n 2, 1) := by decide +kernel
theorem dX10_boatIs_11 : decode cX10_boatIs 11 = .ok (.iadd, 1) := by decide +kernel
theorem dX10_boatIs_12 : decode cX10_boatIs 12 = .ok (.iaload, 1) := by decide +kernel
theorem dX10_boatIs_13 : decode cX10_boatIs 13 = .ok (.ireturn, 1) := by decide +kernel
theorem dX10_listenerIs_0 : decode cX10_listenerIs 0 = .ok (.aload_n 0, 1) := by decide +kernel
theorem dX10_listenerIs_1 : decode cX10_listenerIs 1 = .ok (.getfield 9, 3) := by decide +kernel
theorem dX10_listenerIs_4 : decode cX10_listenerIs 4 = .ok (.bipush 48, 2) := by decide +kernel
theorem dX10_listenerIs_6 : decode cX10_listenerIs 6 = .ok (.iconst 3, 1) := by decide +kernel
theorem dX10_listenerIs_7 : decode cX10_listenerIs 7 = .ok (.iload_n 1, 1) := by decide +kernel
theorem dX10_listenerIs_8 : decode cX10_listenerIs 8 = .ok (.imul, 1) := by decide +kernel
theorem dX10_listenerIs_9 : decode cX10_listenerIs 9 = .ok (.iadd, 1) := by decide +kernel
theorem dX10_listenerIs_10 : decode cX10_listenerIs 10 = .ok (.iload_n 2, 1) := by decide +kernel
theorem dX10_listenerIs_11 : decode cX10_listenerIs 11 = .ok (.iadd, 1) := by decide +kernel
theorem dX10_listenerIs_12 : decode cX10_listenerIs 12 = .ok (.iaload, 1) := by decide +kernel
theorem dX10_listenerIs_13 : decode cX10_listenerIs 13 = .ok (.ireturn, 1) := by decide +kernel
theorem dX10_boat_0 : decode cX10_boat 0 = .ok (.iload_n 1, 1) := by decide +kernel
theorem dX10_boat_1 : decode cX10_boat 1 = .ok (.iconst 0, 1) := by decide +kernel
theorem dX10_boat_2 : decode cX10_boat 2 = .ok (.bipush 69, 2) := by decide +kernel
theorem dX10_boat_4 : decode cX10_boat 4 = .ok (.invokestatic 72, 3) := by decide +kernel
theorem dX10_boat_7 : decode cX10_boat 7 = .ok (.ifCond .eq 10, 3) := by decide +kernel
theorem dX10_boat_10 : decode cX10_boat 10 = .ok (.iload_n 2, 1) := by decide +kernel
theorem dX10_boat_11 : decode cX10_boat 11 = .ok (.invokestatic 88, 3) := by decide +kernel
theorem dX10_boat_14 : decode cX10_boat 14 = .ok (.ifCond .ne 10, 3) := by decide +kernel
theorem dX10_boat_17 : decode cX10_boat 17 = .ok (.aload_n 0, 1) := by decide +kernel
theorem dX10_boat_18 : decode cX10_boat 18 = .ok (.ldc 83, 2) := by decide +kernel
theorem dX10_boat_20 : decode cX10_boat 20 = .ok (.invokevirtual 84, 3) := by decide +kernel
theorem dX10_boat_23 : decode cX10_boat 23 = .ok (.ireturn, 1) := by decide +kernel
theorem dX10_boat_24 : decode cX10_boat 24 = .ok (.aload_n 0, 1) := by decide +kernel
theorem dX10_boat_25 : decode cX10_boat 25 = .ok (.getfield 9, 3) := by decide +kernel
theorem dX10_boat_28 : decode cX10_boat 28 = .ok (.bipush 7, 2) := by decide +kernel
theorem dX10_boat_30 : decode cX10_boat 30 = .ok (.iaload, 1) := by decide +kernel
theorem dX10_boat_31 : decode cX10_boat 31 = .ok (.istore_n 3, 1) := by decide +kernel
theorem dX10_boat_32 : decode cX10_boat 32 = .ok (.iload_n 3, 1) := by decide +kernel
theorem dX10_boat_33 : decode cX10_boat 33 = .ok (.bipush 9, 2) := by decide +kernel
theorem dX10_boat_35 : decode cX10_boat 35 = .ok (.if_icmp .ne 10, 3) := by decide +kernel
theorem dX10_boat_38 : decode cX10_boat 38 = .ok (.aload_n 0, 1) := by decide +kernel
theorem dX10_boat_39 : decode cX10_boat 39 = .ok (.ldc 92, 2) := by decide +kernel
theorem dX10_boat_41 : decode cX10_boat 41 = .ok (.invokevirtual 84, 3) := by decide +kernel
theorem dX10_boat_44 : decode cX10_boat 44 = .ok (.ireturn, 1) := by decide +kernel
theorem dX10_boat_45 : decode cX10_boat 45 = .ok (.aload_n 0, 1) := by decide +kernel
theorem dX10_boat_46 : decode cX10_boat 46 = .ok (.getfield 9, 3) := by decide +kernel
theorem dX10_boat_49 : decode cX10_boat 49 = .ok (.bipush 12, 2) := by decide +kernel
theorem dX10_boat_51 : decode cX10_boat 51 = .ok (.iconst 4, 1) := by decide +kernel
theorem dX10_boat_52 : decode cX10_boat 52 = .ok (.iload_n 3, 1) := by decide +kernel
theorem dX10_boat_53 : decode cX10_boat 53 = .ok (.imul, 1) := by decide +kernel
theorem dX10_boat_54 : decode cX10_boat 54 = .ok (.iadd, 1) := by decide +kernel
theorem dX10_boat_55 : decode cX10_boat 55 = .ok (.iconst 0, 1) := by decide +kernel
theorem dX10_boat_56 : decode cX10_boat 56 = .ok (.iadd, 1) := by decide +kernel
theorem dX10_boat_57 : decode cX10_boat 57 = .ok (.iload_n 1, 1) := by decide +kernel
theorem dX10_boat_58 : decode cX10_boat 58 = .ok (.bipush 10, 2) := by decide +kernel
theorem dX10_boat_60 : decode cX10_boat 60 = .ok (.idiv, 1) := by decide +kernel
theorem dX10_boat_61 : decode cX10_boat 61 = .ok (.iastore, 1) := by decide +kernel
theorem dX10_boat_62 : decode cX10_boat 62 = .ok (.aload_n 0, 1) := by decide +kernel
theorem dX10_boat_63 : decode cX10_boat 63 = .ok (.getfield 9, 3) := by decide +kernel
theorem dX10_boat_66 : decode cX10_boat 66 = .ok (.bipush 12, 2) := by decide +kernel
theorem dX10_boat_68 : decode cX10_boat 68 = .ok (.iconst 4, 1) := by decide +kernel
theorem dX10_boat_69 : decode cX10_boat 69 = .ok (.iload_n 3, 1) := by decide +kernel
theorem dX10_boat_70 : decode cX10_boat 70 = .ok (.imul, 1) := by decide +kernel
theorem dX10_boat_71 : decode cX10_boat 71 = .ok (.iadd, 1) := by decide +kernel
theorem dX10_boat_72 : decode cX10_boat 72 = .ok (.iconst 1, 1) := by decide +kernel
theorem dX10_boat_73 : decode cX10_boat 73 = .ok (.iadd, 1) := by decide +kernel
theorem dX10_boat_74 : decode cX10_boat 74 = .ok (.iload_n 1, 1) := by decide +kernel
theorem dX10_boat_75 : decode cX10_boat 75 = .ok (.bipush 10, 2) := by decide +kernel
theorem dX10_boat_77 : decode cX10_boat 77 = .ok (.irem, 1) := by decide +kernel
theorem dX10_boat_78 : decode cX10_boat 78 = .ok (.iastore, 1) := by decide +kernel
theorem dX10_boat_79 : decode cX10_boat 79 = .ok (.aload_n 0, 1) := by decide +kernel
theorem dX10_boat_80 : decode cX10_boat 80 = .ok (.getfield 9, 3) := by decide +kernel
theorem dX10_boat_83 : decode cX10_boat 83 = .ok (.bipush 12, 2) := by decide +kernel
theorem dX10_boat_85 : decode cX10_boat 85 = .ok (.iconst 4, 1) := by decide +kernel
theorem dX10_boat_86 : decode cX10_boat 86 = .ok (.iload_n 3, 1) := by decide +kernel
theorem dX10_boat_87 : decode cX10_boat 87 = .ok (.imul, 1) := by decide +kernel
theorem dX10_boat_88 : decode cX10_boat 88 = .ok (.iadd, 1) := by decide +kernel
theorem dX10_boat_89 : decode cX10_boat 89 = .ok (.iconst 2, 1) := by decide +kernel
theorem dX10_boat_90 : decode cX10_boat 90 = .ok (.iadd, 1) := by decide +kernel
theorem dX10_boat_91 : decode cX10_boat 91 = .ok (.iload_n 2, 1) := by decide +kernel
theorem dX10_boat_92 : decode cX10_boat 92 = .ok (.iastore, 1) := by decide +kernel
theorem dX10_boat_93 : decode cX10_boat 93 = .ok (.aload_n 0, 1) := by decide +kernel
theorem dX10_boat_94 : decode cX10_boat 94 = .ok (.getfield 9, 3) := by decide +kernel
theorem dX10_boat_97 : decode cX10_boat 97 = .ok (.bipush 12, 2) := by decide +kernel
theorem dX10_boat_99 : decode cX10_boat 99 = .ok (.iconst 4, 1) := by decide +kernel
theorem dX10_boat_100 : decode cX10_boat 100 = .ok (.iload_n 3, 1) := by decide +kernel
theorem dX10_boat_101 : decode cX10_boat 101 = .ok (.imul, 1) := by decide +kernel
theorem dX10_boat_102 : decode cX10_boat 102 = .ok (.iadd, 1) := by decide +kernel
theorem dX10_boat_103 : decode cX10_boat 103 = .ok (.iconst 3, 1) := by decide +kernel
theorem dX10_boat_104 : decode cX10_boat 104 = .ok (.iadd, 1) := by decide +kernel
theorem dX10_boat_105 : decode cX10_boat 105 = .ok (.iconst 0, 1) := by decide +kernel
theorem dX10_boat_106 : decode cX10_boat 106 = .ok (.iastore, 1) := by decide +kernel
theorem dX10_boat_107 : decode cX10_boat 107 = .ok (.aload_n 0, 1) := by decide +kernel
theorem dX10_boat_108 : decode cX10_boat 108 = .ok (.getfield 9, 3) := by decide +kernel
theorem dX10_boat_111 : decode cX10_boat 111 = .ok (.bipush 7, 2) := by decide +kernel
theorem dX10_boat_113 : decode cX10_boat 113 = .ok (.dup2, 1) := by decide +kernel
theorem dX10_boat_114 : decode cX10_boat 114 = .ok (.iaload, 1) := by decide +kernel
theorem dX10_boat_115 : decode cX10_boat 115 = .ok (.iconst 1, 1) := by decide +kernel
theorem dX10_boat_116 : decode cX10_boat 116 = .ok (.iadd, 1) := by decide +kernel
theorem dX10_boat_117 : decode cX10_boat 117 = .ok (.iastore, 1) := by decide +kernel
theorem dX10_boat_118 : decode cX10_boat 118 = .ok (.iload_n 3, 1) := by decide +kernel
theorem dX10_boat_119 : decode cX10_boat 119 = .ok (.ireturn, 1) := by decide +kernel
theorem dX10_beat_0 : decode cX10_beat 0 = .ok (.aload_n 0, 1) := by decide +kernel
theorem dX10_beat_1 : decode cX10_beat 1 = .ok (.getfield 9, 3) := by decide +kernel
theorem dX10_beat_4 : decode cX10_beat 4 = .ok (.iconst 0, 1) := by decide +kernel
theorem dX10_beat_5 : decode cX10_beat 5 = .ok (.iaload, 1) := by decide +kernel
theorem dX10_beat_6 : decode cX10_beat 6 = .ok (.bipush 32, 2) := by decide +kernel
theorem dX10_beat_8 : decode cX10_beat 8 = .ok (.irem, 1) := by decide +kernel
theorem dX10_beat_9 : decode cX10_beat 9 = .ok (.ireturn, 1) := by decide +kernel
theorem dX10_sings_0 : decode cX10_sings 0 = .ok (.aload_n 0, 1) := by decide +kernel
theorem dX10_sings_1 : decode cX10_sings 1 = .ok (.iload_n 1, 1) := by decide +kernel
theorem dX10_sings_2 : decode cX10_sings 2 = .ok (.iconst 3, 1) := by decide +kernel
theorem dX10_sings_3 : decode cX10_sings 3 = .ok (.invokevirtual 93, 3) := by decide +kernel
theorem dX10_sings_6 : decode cX10_sings 6 = .ok (.aload_n 0, 1) := by decide +kernel
theorem dX10_sings_7 : decode cX10_sings 7 = .ok (.invokevirtual 96, 3) := by decide +kernel
theorem dX10_sings_10 : decode cX10_sings 10 = .ok (.ishr, 1) := by decide +kernel
theorem dX10_sings_11 : decode cX10_sings 11 = .ok (.iconst 1, 1) := by decide +kernel
theorem dX10_sings_12 : decode cX10_sings 12 = .ok (.iand, 1) := by decide +kernel
theorem dX10_sings_13 : decode cX10_sings 13 = .ok (.iconst 1, 1) := by decide +kernel
theorem dX10_sings_14 : decode cX10_sings 14 = .ok (.if_icmp .ne 7, 3) := by decide +kernel
theorem dX10_sings_17 : decode cX10_sings 17 = .ok (.iconst 1, 1) := by decide +kernel
theorem dX10_sings_18 : decode cX10_sings 18 = .ok (.goto 4, 3) := by decide +kernel
theorem dX10_sings_21 : decode cX10_sings 21 = .ok (.iconst 0, 1) := by decide +kernel
theorem dX10_sings_22 : decode cX10_sings 22 = .ok (.ireturn, 1) := by decide +kernel
theorem dX10_ofBoat_0 : decode cX10_ofBoat 0 = .ok (.aload_n 0, 1) := by decide +kernel
theorem dX10_ofBoat_1 : decode cX10_ofBoat 1 = .ok (.iload_n 1, 1) := by decide +kernel
theorem dX10_ofBoat_2 : decode cX10_ofBoat 2 = .ok (.bipush 7, 2) := by decide +kernel
theorem dX10_ofBoat_4 : decode cX10_ofBoat 4 = .ok (.invokevirtual 100, 3) := by decide +kernel
theorem dX10_ofBoat_7 : decode cX10_ofBoat 7 = .ok (.ifCond .eq 12, 3) := by decide +kernel
theorem dX10_ofBoat_10 : decode cX10_ofBoat 10 = .ok (.iload_n 2, 1) := by decide +kernel
theorem dX10_ofBoat_11 : decode cX10_ofBoat 11 = .ok (.iconst 0, 1) := by decide +kernel
theorem dX10_ofBoat_12 : decode cX10_ofBoat 12 = .ok (.iconst 4, 1) := by decide +kernel
theorem dX10_ofBoat_13 : decode cX10_ofBoat 13 = .ok (.invokestatic 72, 3) := by decide +kernel
theorem dX10_ofBoat_16 : decode cX10_ofBoat 16 = .ok (.ifCond .ne 10, 3) := by decide +kernel
theorem dX10_ofBoat_19 : decode cX10_ofBoat 19 = .ok (.aload_n 0, 1) := by decide +kernel
theorem dX10_ofBoat_20 : decode cX10_ofBoat 20 = .ok (.ldc 83, 2) := by decide +kernel
theorem dX10_ofBoat_22 : decode cX10_ofBoat 22 = .ok (.invokevirtual 84, 3) := by decide +kernel
theorem dX10_ofBoat_25 : decode cX10_ofBoat 25 = .ok (.ireturn, 1) := by decide +kernel
theorem dX10_ofBoat_26 : decode cX10_ofBoat 26 = .ok (.iload_n 2, 1) := by decide +kernel
theorem dX10_ofBoat_27 : decode cX10_ofBoat 27 = .ok (.iconst 4, 1) := by decide +kernel
theorem dX10_ofBoat_28 : decode cX10_ofBoat 28 = .ok (.if_icmp .ne 19, 3) := by decide +kernel
theorem dX10_ofBoat_31 : decode cX10_ofBoat 31 = .ok (.aload_n 0, 1) := by decide +kernel
theorem dX10_ofBoat_32 : decode cX10_ofBoat 32 = .ok (.iload_n 1, 1) := by decide +kernel
theorem dX10_ofBoat_33 : decode cX10_ofBoat 33 = .ok (.invokevirtual 104, 3) := by decide +kernel
theorem dX10_ofBoat_36 : decode cX10_ofBoat 36 = .ok (.ifCond .eq 7, 3) := by decide +kernel
theorem dX10_ofBoat_39 : decode cX10_ofBoat 39 = .ok (.iconst 1, 1) := by decide +kernel
theorem dX10_ofBoat_40 : decode cX10_ofBoat 40 = .ok (.goto 13, 3) := by decide +kernel
theorem dX10_ofBoat_43 : decode cX10_ofBoat 43 = .ok (.iconst 0, 1) := by decide +kernel
theorem dX10_ofBoat_44 : decode cX10_ofBoat 44 = .ok (.goto 9, 3) := by decide +kernel
theorem dX10_ofBoat_47 : decode cX10_ofBoat 47 = .ok (.aload_n 0, 1) := by decide +kernel
theorem dX10_ofBoat_48 : decode cX10_ofBoat 48 = .ok (.iload_n 1, 1) := by decide +kernel
theorem dX10_ofBoat_49 : decode cX10_ofBoat 49 = .ok (.iload_n 2, 1) := by decide +kernel
theorem dX10_ofBoat_50 : decode cX10_ofBoat 50 = .ok (.invokevirtual 93, 3) := by decide +kernel
theorem dX10_ofBoat_53 : decode cX10_ofBoat 53 = .ok (.ireturn, 1) := by decide +kernel
theorem dX10_change_0 : decode cX10_change 0 = .ok (.iload_n 2, 1) := by decide +kernel
theorem dX10_change_1 : decode cX10_change 1 = .ok (.iconst 2, 1) := by decide +kernel
theorem dX10_change_2 : decode cX10_change 2 = .ok (.if_icmp .ne 10, 3) := by decide +kernel
theorem dX10_change_5 : decode cX10_change 5 = .ok (.iload_n 3, 1) := by decide +kernel
theorem dX10_change_6 : decode cX10_change 6 = .ok (.invokestatic 88, 3) := by decide +kernel
theorem dX10_change_9 : decode cX10_change 9 = .ok (.ifCond .ne 8, 3) := by decide +kernel
theorem dX10_change_12 : decode cX10_change 12 = .ok (.iload_n 2, 1) := by decide +kernel
theorem dX10_change_13 : decode cX10_change 13 = .ok (.iconst 3, 1) := by decide +kernel
theorem dX10_change_14 : decode cX10_change 14 = .ok (.if_icmp .ne 7, 3) := by decide +kernel
theorem dX10_change_17 : decode cX10_change 17 = .ok (.iconst 1, 1) := by decide +kernel
theorem dX10_change_18 : decode cX10_change 18 = .ok (.goto 4, 3) := by decide +kernel
theorem dX10_change_21 : decode cX10_change 21 = .ok (.iconst 0, 1) := by decide +kernel
theorem dX10_change_22 : decode cX10_change 22 = .ok (.istore 4, 2) := by decide +kernel
theorem dX10_change_24 : decode cX10_change 24 = .ok (.aload_n 0, 1) := by decide +kernel
theorem dX10_change_25 : decode cX10_change 25 = .ok (.iload_n 1, 1) := by decide +kernel
theorem dX10_change_26 : decode cX10_change 26 = .ok (.bipush 7, 2) := by decide +kernel
theorem dX10_change_28 : decode cX10_change 28 = .ok (.invokevirtual 100, 3) := by decide +kernel
theorem dX10_change_31 : decode cX10_change 31 = .ok (.ifCond .eq 24, 3) := by decide +kernel
theorem dX10_change_34 : decode cX10_change 34 = .ok (.iload 4, 2) := by decide +kernel
theorem dX10_change_36 : decode cX10_change 36 = .ok (.ifCond .eq 19, 3) := by decide +kernel
theorem dX10_change_39 : decode cX10_change 39 = .ok (.aload_n 0, 1) := by decide +kernel
theorem dX10_change_40 : decode cX10_change 40 = .ok (.bipush 12, 2) := by decide +kernel
theorem dX10_change_42 : decode cX10_change 42 = .ok (.iconst 4, 1) := by decide +kernel
theorem dX10_change_43 : decode cX10_change 43 = .ok (.iload_n 1, 1) := by decide +kernel
theorem dX10_change_44 : decode cX10_change 44 = .ok (.imul, 1) := by decide +kernel
theorem dX10_change_45 : decode cX10_change 45 = .ok (.iadd, 1) := by decide +kernel
theorem dX10_change_46 : decode cX10_change 46 = .ok (.iload_n 2, 1) := by decide +kernel
theorem dX10_change_47 : decode cX10_change 47 = .ok (.iadd, 1) := by decide +kernel
theorem dX10_change_48 : decode cX10_change 48 = .ok (.iload_n 3, 1) := by decide +kernel
theorem dX10_change_49 : decode cX10_change 49 = .ok (.invokevirtual 80, 3) := by decide +kernel
theorem dX10_change_52 : decode cX10_change 52 = .ok (.goto 9, 3) := by decide +kernel
theorem dX10_change_55 : decode cX10_change 55 = .ok (.aload_n 0, 1) := by decide +kernel
theorem dX10_change_56 : decode cX10_change 56 = .ok (.ldc 83, 2) := by decide +kernel
theorem dX10_change_58 : decode cX10_change 58 = .ok (.invokevirtual 84, 3) := by decide +kernel
theorem dX10_change_61 : decode cX10_change 61 = .ok (.ireturn, 1) := by decide +kernel
theorem dX10_become_0 : decode cX10_become 0 = .ok (.aload_n 0, 1) := by decide +kernel
theorem dX10_become_1 : decode cX10_become 1 = .ok (.iload_n 1, 1) := by decide +kernel
theorem dX10_become_2 : decode cX10_become 2 = .ok (.bipush 7, 2) := by decide +kernel
theorem dX10_become_4 : decode cX10_become 4 = .ok (.invokevirtual 100, 3) := by decide +kernel
theorem dX10_become_7 : decode cX10_become 7 = .ok (.ifCond .eq 13, 3) := by decide +kernel
theorem dX10_become_10 : decode cX10_become 10 = .ok (.iload_n 2, 1) := by decide +kernel
theorem dX10_become_11 : decode cX10_become 11 = .ok (.iconst 0, 1) := by decide +kernel
theorem dX10_become_12 : decode cX10_become 12 = .ok (.bipush 69, 2) := by decide +kernel
theorem dX10_become_14 : decode cX10_become 14 = .ok (.invokestatic 72, 3) := by decide +kernel
theorem dX10_become_17 : decode cX10_become 17 = .ok (.ifCond .ne 10, 3) := by decide +kernel
theorem dX10_become_20 : decode cX10_become 20 = .ok (.aload_n 0, 1) := by decide +kernel
theorem dX10_become_21 : decode cX10_become 21 = .ok (.ldc 83, 2) := by decide +kernel
theorem dX10_become_23 : decode cX10_become 23 = .ok (.invokevirtual 84, 3) := by decide +kernel
theorem dX10_become_26 : decode cX10_become 26 = .ok (.ireturn, 1) := by decide +kernel
theorem dX10_become_27 : decode cX10_become 27 = .ok (.aload_n 0, 1) := by decide +kernel
theorem dX10_become_28 : decode cX10_become 28 = .ok (.getfield 9, 3) := by decide +kernel
theorem dX10_become_31 : decode cX10_become 31 = .ok (.bipush 12, 2) := by decide +kernel
theorem dX10_become_33 : decode cX10_become 33 = .ok (.iconst 4, 1) := by decide +kernel
theorem dX10_become_34 : decode cX10_become 34 = .ok (.iload_n 1, 1) := by decide +kernel
theorem dX10_become_35 : decode cX10_become 35 = .ok (.imul, 1) := by decide +kernel
theorem dX10_become_36 : decode cX10_become 36 = .ok (.iadd, 1) := by decide +kernel
theorem dX10_become_37 : decode cX10_become 37 = .ok (.iconst 1, 1) := by decide +kernel
theorem dX10_become_38 : decode cX10_become 38 = .ok (.iadd, 1) := by decide +kernel
theorem dX10_become_39 : decode cX10_become 39 = .ok (.iload_n 2, 1) := by decide +kernel
theorem dX10_become_40 : decode cX10_become 40 = .ok (.bipush 10, 2) := by decide +kernel
theorem dX10_become_42 : decode cX10_become 42 = .ok (.irem, 1) := by decide +kernel
theorem dX10_become_43 : decode cX10_become 43 = .ok (.iastore, 1) := by decide +kernel
theorem dX10_become_44 : decode cX10_become 44 = .ok (.aload_n 0, 1) := by decide +kernel
theorem dX10_become_45 : decode cX10_become 45 = .ok (.bipush 12, 2) := by decide +kernel
theorem dX10_become_47 : decode cX10_become 47 = .ok (.iconst 4, 1) := by decide +kernel
theorem dX10_become_48 : decode cX10_become 48 = .ok (.iload_n 1, 1) := by decide +kernel
theorem dX10_become_49 : decode cX10_become 49 = .ok (.imul, 1) := by decide +kernel
theorem dX10_become_50 : decode cX10_become 50 = .ok (.iadd, 1) := by decide +kernel
theorem dX10_become_51 : decode cX10_become 51 = .ok (.iconst 0, 1) := by decide +kernel
theorem dX10_become_52 : decode cX10_become 52 = .ok (.iadd, 1) := by decide +kernel
theorem dX10_become_53 : decode cX10_become 53 = .ok (.iload_n 2, 1) := by decide +kernel
theorem dX10_become_54 : decode cX10_become 54 = .ok (.bipush 10, 2) := by decide +kernel
theorem dX10_become_56 : decode cX10_become 56 = .ok (.idiv, 1) := by decide +kernel
theorem dX10_become_57 : decode cX10_become 57 = .ok (.invokevirtual 80, 3) := by decide +kernel
theorem dX10_become_60 : decode cX10_become 60 = .ok (.ireturn, 1) := by decide +kernel
theorem dX10_above_0 : decode cX10_above 0 = .ok (.iload_n 0, 1) := by decide +kernel
theorem dX10_above_1 : decode cX10_above 1 = .ok (.ifCond .ne 7, 3) := by decide +kernel
theorem dX10_above_4 : decode cX10_above 4 = .ok (.iconst (-1), 1) := by decide +kernel
theorem dX10_above_5 : decode cX10_above 5 = .ok (.goto 32, 3) := by decide +kernel
theorem dX10_above_8 : decode cX10_above 8 = .ok (.iload_n 0, 1) := by decide +kernel
theorem dX10_above_9 : decode cX10_above 9 = .ok (.iconst 4, 1) := by decide +kernel
theorem dX10_above_10 : decode cX10_above 10 = .ok (.if_icmp .ne 7, 3) := by decide +kernel
theorem dX10_above_13 : decode cX10_above 13 = .ok (.iconst 1, 1) := by decide +kernel
theorem dX10_above_14 : decode cX10_above 14 = .ok (.goto 23, 3) := by decide +kernel
theorem dX10_above_17 : decode cX10_above 17 = .ok (.iload_n 0, 1) := by decide +kernel
theorem dX10_above_18 : decode cX10_above 18 = .ok (.iconst 5, 1) := by decide +kernel
theorem dX10_above_19 : decode cX10_above 19 = .ok (.if_icmp .ne 7, 3) := by decide +kernel
theorem dX10_above_22 : decode cX10_above 22 = .ok (.iconst 2, 1) := by decide +kernel
theorem dX10_above_23 : decode cX10_above 23 = .ok (.goto 14, 3) := by decide +kernel
theorem dX10_above_26 : decode cX10_above 26 = .ok (.iload_n 0, 1) := by decide +kernel
theorem dX10_above_27 : decode cX10_above 27 = .ok (.bipush 6, 2) := by decide +kernel
theorem dX10_above_29 : decode cX10_above 29 = .ok (.if_icmp .ne 7, 3) := by decide +kernel
theorem dX10_above_32 : decode cX10_above 32 = .ok (.iconst 3, 1) := by decide +kernel
theorem dX10_above_33 : decode cX10_above 33 = .ok (.goto 4, 3) := by decide +kernel
theorem dX10_above_36 : decode cX10_above 36 = .ok (.iconst 0, 1) := by decide +kernel
theorem dX10_above_37 : decode cX10_above 37 = .ok (.ireturn, 1) := by decide +kernel
theorem dX10_as_0 : decode cX10_as 0 = .ok (.aload_n 0, 1) := by decide +kernel
theorem dX10_as_1 : decode cX10_as 1 = .ok (.iload_n 1, 1) := by decide +kernel
theorem dX10_as_2 : decode cX10_as 2 = .ok (.bipush 7, 2) := by decide +kernel
theorem dX10_as_4 : decode cX10_as 4 = .ok (.invokevirtual 100, 3) := by decide +kernel
theorem dX10_as_7 : decode cX10_as 7 = .ok (.ifCond .eq 13, 3) := by decide +kernel
theorem dX10_as_10 : decode cX10_as 10 = .ok (.iload_n 2, 1) := by decide +kernel
theorem dX10_as_11 : decode cX10_as 11 = .ok (.iconst 0, 1) := by decide +kernel
theorem dX10_as_12 : decode cX10_as 12 = .ok (.bipush 6, 2) := by decide +kernel
theorem dX10_as_14 : decode cX10_as 14 = .ok (.invokestatic 72, 3) := by decide +kernel
theorem dX10_as_17 : decode cX10_as 17 = .ok (.ifCond .ne 10, 3) := by decide +kernel
theorem dX10_as_20 : decode cX10_as 20 = .ok (.aload_n 0, 1) := by decide +kernel
theorem dX10_as_21 : decode cX10_as 21 = .ok (.ldc 83, 2) := by decide +kernel
theorem dX10_as_23 : decode cX10_as 23 = .ok (.invokevirtual 84, 3) := by decide +kernel
theorem dX10_as_26 : decode cX10_as 26 = .ok (.ireturn, 1) := by decide +kernel
theorem dX10_as_27 : decode cX10_as 27 = .ok (.aload_n 0, 1) := by decide +kernel
theorem dX10_as_28 : decode cX10_as 28 = .ok (.iload_n 1, 1) := by decide +kernel
theorem dX10_as_29 : decode cX10_as 29 = .ok (.iconst 0, 1) := by decide +kernel
theorem dX10_as_30 : decode cX10_as 30 = .ok (.invokevirtual 93, 3) := by decide +kernel
theorem dX10_as_33 : decode cX10_as 33 = .ok (.istore_n 3, 1) := by decide +kernel
theorem dX10_as_34 : decode cX10_as 34 = .ok (.iload_n 3, 1) := by decide +kernel
theorem dX10_as_35 : decode cX10_as 35 = .ok (.ifCond .lt 16, 3) := by decide +kernel
theorem dX10_as_38 : decode cX10_as 38 = .ok (.iload_n 3, 1) := by decide +kernel
theorem dX10_as_39 : decode cX10_as 39 = .ok (.iload_n 2, 1) := by decide +kernel
theorem dX10_as_40 : decode cX10_as 40 = .ok (.if_icmp .eq 11, 3) := by decide +kernel
theorem dX10_as_43 : decode cX10_as 43 = .ok (.iload_n 3, 1) := by decide +kernel
theorem dX10_as_44 : decode cX10_as 44 = .ok (.invokestatic 107, 3) := by decide +kernel
theorem dX10_as_47 : decode cX10_as 47 = .ok (.istore_n 3, 1) := by decide +kernel
theorem dX10_as_48 : decode cX10_as 48 = .ok (.goto (-14), 3) := by decide +kernel
theorem dX10_as_51 : decode cX10_as 51 = .ok (.iload_n 3, 1) := by decide +kernel
theorem dX10_as_52 : decode cX10_as 52 = .ok (.ifCond .ge 12, 3) := by decide +kernel
theorem dX10_as_55 : decode cX10_as 55 = .ok (.aload_n 0, 1) := by decide +kernel
theorem dX10_as_56 : decode cX10_as 56 = .ok (.ldc 110, 2) := by decide +kernel
theorem dX10_as_58 : decode cX10_as 58 = .ok (.invokevirtual 84, 3) := by decide +kernel
theorem dX10_as_61 : decode cX10_as 61 = .ok (.goto 9, 3) := by decide +kernel
theorem dX10_as_64 : decode cX10_as 64 = .ok (.aload_n 0, 1) := by decide +kernel
theorem dX10_as_65 : decode cX10_as 65 = .ok (.iload_n 1, 1) := by decide +kernel
theorem dX10_as_66 : decode cX10_as 66 = .ok (.iconst 1, 1) := by decide +kernel
theorem dX10_as_67 : decode cX10_as 67 = .ok (.invokevirtual 93, 3) := by decide +kernel
theorem dX10_as_70 : decode cX10_as 70 = .ok (.ireturn, 1) := by decide +kernel
theorem dX10_far_0 : decode cX10_far 0 = .ok (.iload_n 0, 1) := by decide +kernel
theorem dX10_far_1 : decode cX10_far 1 = .ok (.bipush 8, 2) := by decide +kernel
theorem dX10_far_3 : decode cX10_far 3 = .ok (.idiv, 1) := by decide +kernel
theorem dX10_far_4 : decode cX10_far 4 = .ok (.iload_n 1, 1) := by decide +kernel
theorem dX10_far_5 : decode cX10_far 5 = .ok (.bipush 8, 2) := by decide +kernel
theorem dX10_far_7 : decode cX10_far 7 = .ok (.idiv, 1) := by decide +kernel
theorem dX10_far_8 : decode cX10_far 8 = .ok (.isub, 1) := by decide +kernel
theorem dX10_far_9 : decode cX10_far 9 = .ok (.invokestatic 111, 3) := by decide +kernel
theorem dX10_far_12 : decode cX10_far 12 = .ok (.iload_n 0, 1) := by decide +kernel
theorem dX10_far_13 : decode cX10_far 13 = .ok (.bipush 8, 2) := by decide +kernel
theorem dX10_far_15 : decode cX10_far 15 = .ok (.irem, 1) := by decide +kernel
theorem dX10_far_16 : decode cX10_far 16 = .ok (.iload_n 1, 1) := by decide +kernel
theorem dX10_far_17 : decode cX10_far 17 = .ok (.bipush 8, 2) := by decide +kernel
theorem dX10_far_19 : decode cX10_far 19 = .ok (.irem, 1) := by decide +kernel
theorem dX10_far_20 : decode cX10_far 20 = .ok (.isub, 1) := by decide +kernel
theorem dX10_far_21 : decode cX10_far 21 = .ok (.invokestatic 111, 3) := by decide +kernel
theorem dX10_far_24 : decode cX10_far 24 = .ok (.invokestatic 69, 3) := by decide +kernel
theorem dX10_far_27 : decode cX10_far 27 = .ok (.ireturn, 1) := by decide +kernel
theorem dX10_forgetLags_0 : decode cX10_forgetLags 0 = .ok (.iconst 0, 1) := by decide +kernel
theorem dX10_forgetLags_1 : decode cX10_forgetLags 1 = .ok (.istore_n 1, 1) := by decide +kernel
theorem dX10_forgetLags_2 : decode cX10_forgetLags 2 = .ok (.iload_n 1, 1) := by decide +kernel
theorem dX10_forgetLags_3 : decode cX10_forgetLags 3 = .ok (.aload_n 0, 1) := by decide +kernel
theorem dX10_forgetLags_4 : decode cX10_forgetLags 4 = .ok (.getfield 22, 3) := by decide +kernel
theorem dX10_forgetLags_7 : decode cX10_forgetLags 7 = .ok (.arraylength, 1) := by decide +kernel
theorem dX10_forgetLags_8 : decode cX10_forgetLags 8 = .ok (.if_icmp .ge 16, 3) := by decide +kernel
theorem dX10_forgetLags_11 : decode cX10_forgetLags 11 = .ok (.aload_n 0, 1) := by decide +kernel
theorem dX10_forgetLags_12 : decode cX10_forgetLags 12 = .ok (.getfield 22, 3) := by decide +kernel
theorem dX10_forgetLags_15 : decode cX10_forgetLags 15 = .ok (.iload_n 1, 1) := by decide +kernel
theorem dX10_forgetLags_16 : decode cX10_forgetLags 16 = .ok (.iconst 0, 1) := by decide +kernel
theorem dX10_forgetLags_17 : decode cX10_forgetLags 17 = .ok (.iastore, 1) := by decide +kernel
theorem dX10_forgetLags_18 : decode cX10_forgetLags 18 = .ok (.iinc 1 1, 3) := by decide +kernel
theorem dX10_forgetLags_21 : decode cX10_forgetLags 21 = .ok (.goto (-19), 3) := by decide +kernel
theorem dX10_forgetLags_24 : decode cX10_forgetLags 24 = .ok (.return_, 1) := by decide +kernel
theorem dX10_lags_0 : decode cX10_lags 0 = .ok (.iload_n 1, 1) := by decide +kernel
theorem dX10_lags_1 : decode cX10_lags 1 = .ok (.iload_n 2, 1) := by decide +kernel
theorem dX10_lags_2 : decode cX10_lags 2 = .ok (.invokestatic 114, 3) := by decide +kernel
theorem dX10_lags_5 : decode cX10_lags 5 = .ok (.istore_n 3, 1) := by decide +kernel
theorem dX10_lags_6 : decode cX10_lags 6 = .ok (.bipush 8, 2) := by decide +kernel
theorem dX10_lags_8 : decode cX10_lags 8 = .ok (.aload_n 0, 1) := by decide +kernel
theorem dX10_lags_9 : decode cX10_lags 9 = .ok (.getfield 9, 3) := by decide +kernel
theorem dX10_lags_12 : decode cX10_lags 12 = .ok (.iconst 1, 1) := by decide +kernel
theorem dX10_lags_13 : decode cX10_lags 13 = .ok (.iaload, 1) := by decide +kernel
theorem dX10_lags_14 : decode cX10_lags 14 = .ok (.imul, 1) := by decide +kernel
theorem dX10_lags_15 : decode cX10_lags 15 = .ok (.iload_n 3, 1) := by decide +kernel
theorem dX10_lags_16 : decode cX10_lags 16 = .ok (.iadd, 1) := by decide +kernel
theorem dX10_lags_17 : decode cX10_lags 17 = .ok (.bipush 32, 2) := by decide +kernel
theorem dX10_lags_19 : decode cX10_lags 19 = .ok (.imul, 1) := by decide +kernel
theorem dX10_lags_20 : decode cX10_lags 20 = .ok (.aload_n 0, 1) := by decide +kernel
theorem dX10_lags_21 : decode cX10_lags 21 = .ok (.invokevirtual 96, 3) := by decide +kernel
theorem dX10_lags_24 : decode cX10_lags 24 = .ok (.iadd, 1) := by decide +kernel
theorem dX10_lags_25 : decode cX10_lags 25 = .ok (.istore 4, 2) := by decide +kernel
theorem dX10_lags_27 : decode cX10_lags 27 = .ok (.aload_n 0, 1) := by decide +kernel
theorem dX10_lags_28 : decode cX10_lags 28 = .ok (.getfield 22, 3) := by decide +kernel
theorem dX10_lags_31 : decode cX10_lags 31 = .ok (.iload 4, 2) := by decide +kernel
theorem dX10_lags_33 : decode cX10_lags 33 = .ok (.iaload, 1) := by decide +kernel
theorem dX10_lags_34 : decode cX10_lags 34 = .ok (.ifCond .ne 28, 3) := by decide +kernel
theorem dX10_lags_37 : decode cX10_lags 37 = .ok (.aload_n 0, 1) := by decide +kernel
theorem dX10_lags_38 : decode cX10_lags 38 = .ok (.getfield 22, 3) := by decide +kernel
theorem dX10_lags_41 : decode cX10_lags 41 = .ok (.iload 4, 2) := by decide +kernel
theorem dX10_lags_43 : decode cX10_lags 43 = .ok (.iconst 1, 1) := by decide +kernel
theorem dX10_lags_44 : decode cX10_lags 44 = .ok (.aload_n 0, 1) := by decide +kernel
theorem dX10_lags_45 : decode cX10_lags 45 = .ok (.iconst 0, 1) := by decide +kernel
theorem dX10_lags_46 : decode cX10_lags 46 = .ok (.iload_n 3, 1) := by decide +kernel
theorem dX10_lags_47 : decode cX10_lags 47 = .ok (.aload_n 0, 1) := by decide +kernel
theorem dX10_lags_48 : decode cX10_lags 48 = .ok (.getfield 9, 3) := by decide +kernel
theorem dX10_lags_51 : decode cX10_lags 51 = .ok (.iconst 1, 1) := by decide +kernel
theorem dX10_lags_52 : decode cX10_lags 52 = .ok (.iaload, 1) := by decide +kernel
theorem dX10_lags_53 : decode cX10_lags 53 = .ok (.aload_n 0, 1) := by decide +kernel
theorem dX10_lags_54 : decode cX10_lags 54 = .ok (.invokevirtual 96, 3) := by decide +kernel
theorem dX10_lags_57 : decode cX10_lags 57 = .ok (.invokevirtual 117, 3) := by decide +kernel
theorem dX10_lags_60 : decode cX10_lags 60 = .ok (.iadd, 1) := by decide +kernel
theorem dX10_lags_61 : decode cX10_lags 61 = .ok (.iastore, 1) := by decide +kernel
theorem dX10_lags_62 : decode cX10_lags 62 = .ok (.aload_n 0, 1) := by decide +kernel
theorem dX10_lags_63 : decode cX10_lags 63 = .ok (.getfield 22, 3) := by decide +kernel
theorem dX10_lags_66 : decode cX10_lags 66 = .ok (.iload 4, 2) := by decide +kernel
theorem dX10_lags_68 : decode cX10_lags 68 = .ok (.iaload, 1) := by decide +kernel
theorem dX10_lags_69 : decode cX10_lags 69 = .ok (.iconst 1, 1) := by decide +kernel
theorem dX10_lags_70 : decode cX10_lags 70 = .ok (.isub, 1) := by decide +kernel
theorem dX10_lags_71 : decode cX10_lags 71 = .ok (.ireturn, 1) := by decide +kernel
theorem dX10_comes_0 : decode cX10_comes 0 = .ok (.aload_n 0, 1) := by decide +kernel
theorem dX10_comes_1 : decode cX10_comes 1 = .ok (.iload_n 1, 1) := by decide +kernel
theorem dX10_comes_2 : decode cX10_comes 2 = .ok (.iconst 0, 1) := by decide +kernel
theorem dX10_comes_3 : decode cX10_comes 3 = .ok (.invokevirtual 93, 3) := by decide +kernel
theorem dX10_comes_6 : decode cX10_comes 6 = .ok (.istore_n 3, 1) := by decide +kernel
theorem dX10_comes_7 : decode cX10_comes 7 = .ok (.aload_n 0, 1) := by decide +kernel
theorem dX10_comes_8 : decode cX10_comes 8 = .ok (.aload_n 0, 1) := by decide +kernel
theorem dX10_comes_9 : decode cX10_comes 9 = .ok (.iload_n 1, 1) := by decide +kernel
theorem dX10_comes_10 : decode cX10_comes 10 = .ok (.iconst 2, 1) := by decide +kernel
theorem dX10_comes_11 : decode cX10_comes 11 = .ok (.invokevirtual 93, 3) := by decide +kernel
theorem dX10_comes_14 : decode cX10_comes 14 = .ok (.iload_n 2, 1) := by decide +kernel
theorem dX10_comes_15 : decode cX10_comes 15 = .ok (.invokevirtual 121, 3) := by decide +kernel
theorem dX10_comes_18 : decode cX10_comes 18 = .ok (.iload_n 3, 1) := by decide +kernel
theorem dX10_comes_19 : decode cX10_comes 19 = .ok (.iconst 5, 1) := by decide +kernel
theorem dX10_comes_20 : decode cX10_comes 20 = .ok (.if_icmp .ne 14, 3) := by decide +kernel
theorem dX10_comes_23 : decode cX10_comes 23 = .ok (.aload_n 0, 1) := by decide +kernel
theorem dX10_comes_24 : decode cX10_comes 24 = .ok (.iload_n 1, 1) := by decide +kernel
theorem dX10_comes_25 : decode cX10_comes 25 = .ok (.iconst 1, 1) := by decide +kernel
theorem dX10_comes_26 : decode cX10_comes 26 = .ok (.invokevirtual 93, 3) := by decide +kernel
theorem dX10_comes_29 : decode cX10_comes 29 = .ok (.iconst 3, 1) := by decide +kernel
theorem dX10_comes_30 : decode cX10_comes 30 = .ok (.idiv, 1) := by decide +kernel
theorem dX10_comes_31 : decode cX10_comes 31 = .ok (.goto 18, 3) := by decide +kernel
theorem dX10_comes_34 : decode cX10_comes 34 = .ok (.iload_n 3, 1) := by decide +kernel
theorem dX10_comes_35 : decode cX10_comes 35 = .ok (.iconst 4, 1) := by decide +kernel
theorem dX10_comes_36 : decode cX10_comes 36 = .ok (.if_icmp .ne 12, 3) := by decide +kernel
theorem dX10_comes_39 : decode cX10_comes 39 = .ok (.aload_n 0, 1) := by decide +kernel
theorem dX10_comes_40 : decode cX10_comes 40 = .ok (.iload_n 1, 1) := by decide +kernel
theorem dX10_comes_41 : decode cX10_comes 41 = .ok (.iconst 1, 1) := by decide +kernel
theorem dX10_comes_42 : decode cX10_comes 42 = .ok (.invokevirtual 93, 3) := by decide +kernel
theorem dX10_comes_45 : decode cX10_comes 45 = .ok (.goto 4, 3) := by decide +kernel
theorem dX10_comes_48 : decode cX10_comes 48 = .ok (.iconst 0, 1) := by decide +kernel
theorem dX10_comes_49 : decode cX10_comes 49 = .ok (.iadd, 1) := by decide +kernel
theorem dX10_comes_50 : decode cX10_comes 50 = .ok (.ireturn, 1) := by decide +kernel
theorem dX10_lag_0 : decode cX10_lag 0 = .ok (.aload_n 0, 1) := by decide +kernel
theorem dX10_lag_1 : decode cX10_lag 1 = .ok (.iload_n 1, 1) := by decide +kernel
theorem dX10_lag_2 : decode cX10_lag 2 = .ok (.bipush 7, 2) := by decide +kernel
theorem dX10_lag_4 : decode cX10_lag 4 = .ok (.invokevirtual 100, 3) := by decide +kernel
theorem dX10_lag_7 : decode cX10_lag 7 = .ok (.ifCond .eq 19, 3) := by decide +kernel
theorem dX10_lag_10 : decode cX10_lag 10 = .ok (.iload_n 2, 1) := by decide +kernel
theorem dX10_lag_11 : decode cX10_lag 11 = .ok (.invokestatic 88, 3) := by decide +kernel
theorem dX10_lag_14 : decode cX10_lag 14 = .ok (.ifCond .eq 12, 3) := by decide +kernel
theorem dX10_lag_17 : decode cX10_lag 17 = .ok (.aload_n 0, 1) := by decide +kernel
theorem dX10_lag_18 : decode cX10_lag 18 = .ok (.iload_n 1, 1) := by decide +kernel
theorem dX10_lag_19 : decode cX10_lag 19 = .ok (.iload_n 2, 1) := by decide +kernel
theorem dX10_lag_20 : decode cX10_lag 20 = .ok (.invokevirtual 124, 3) := by decide +kernel
theorem dX10_lag_23 : decode cX10_lag 23 = .ok (.goto 9, 3) := by decide +kernel
theorem dX10_lag_26 : decode cX10_lag 26 = .ok (.aload_n 0, 1) := by decide +kernel
theorem dX10_lag_27 : decode cX10_lag 27 = .ok (.ldc 83, 2) := by decide +kernel
theorem dX10_lag_29 : decode cX10_lag 29 = .ok (.invokevirtual 84, 3) := by decide +kernel
theorem dX10_lag_32 : decode cX10_lag 32 = .ok (.ireturn, 1) := by decide +kernel
theorem dX10_listener_0 : decode cX10_listener 0 = .ok (.iload_n 1, 1) := by decide +kernel
theorem dX10_listener_1 : decode cX10_listener 1 = .ok (.invokestatic 88, 3) := by decide +kernel
theorem dX10_listener_4 : decode cX10_listener 4 = .ok (.ifCond .ne 10, 3) := by decide +kernel
theorem dX10_listener_7 : decode cX10_listener 7 = .ok (.aload_n 0, 1) := by decide +kernel
theorem dX10_listener_8 : decode cX10_listener 8 = .ok (.ldc 83, 2) := by decide +kernel
theorem dX10_listener_10 : decode cX10_listener 10 = .ok (.invokevirtual 84, 3) := by decide +kernel
theorem dX10_listener_13 : decode cX10_listener 13 = .ok (.ireturn, 1) := by decide +kernel
theorem dX10_listener_14 : decode cX10_listener 14 = .ok (.aload_n 0, 1) := by decide +kernel
theorem dX10_listener_15 : decode cX10_listener 15 = .ok (.getfield 9, 3) := by decide +kernel
theorem dX10_listener_18 : decode cX10_listener 18 = .ok (.bipush 8, 2) := by decide +kernel
theorem dX10_listener_20 : decode cX10_listener 20 = .ok (.iaload, 1) := by decide +kernel
theorem dX10_listener_21 : decode cX10_listener 21 = .ok (.istore_n 2, 1) := by decide +kernel
theorem dX10_listener_22 : decode cX10_listener 22 = .ok (.iload_n 2, 1) := by decide +kernel
theorem dX10_listener_23 : decode cX10_listener 23 = .ok (.bipush 6, 2) := by decide +kernel
theorem dX10_listener_25 : decode cX10_listener 25 = .ok (.if_icmp .ne 10, 3) := by decide +kernel
theorem dX10_listener_28 : decode cX10_listener 28 = .ok (.aload_n 0, 1) := by decide +kernel
theorem dX10_listener_29 : decode cX10_listener 29 = .ok (.ldc 92, 2) := by decide +kernel
theorem dX10_listener_31 : decode cX10_listener 31 = .ok (.invokevirtual 84, 3) := by decide +kernel
theorem dX10_listener_34 : decode cX10_listener 34 = .ok (.ireturn, 1) := by decide +kernel
theorem dX10_listener_35 : decode cX10_listener 35 = .ok (.aload_n 0, 1) := by decide +kernel
theorem dX10_listener_36 : decode cX10_listener 36 = .ok (.getfield 9, 3) := by decide +kernel
theorem dX10_listener_39 : decode cX10_listener 39 = .ok (.bipush 48, 2) := by decide +kernel
theorem dX10_listener_41 : decode cX10_listener 41 = .ok (.iconst 3, 1) := by decide +kernel
theorem dX10_listener_42 : decode cX10_listener 42 = .ok (.iload_n 2, 1) := by decide +kernel
theorem dX10_listener_43 : decode cX10_listener 43 = .ok (.imul, 1) := by decide +kernel
theorem dX10_listener_44 : decode cX10_listener 44 = .ok (.iadd, 1) := by decide +kernel
theorem dX10_listener_45 : decode cX10_listener 45 = .ok (.iconst 0, 1) := by decide +kernel
theorem dX10_listener_46 : decode cX10_listener 46 = .ok (.iadd, 1) := by decide +kernel
theorem dX10_listener_47 : decode cX10_listener 47 = .ok (.iload_n 1, 1) := by decide +kernel
theorem dX10_listener_48 : decode cX10_listener 48 = .ok (.iastore, 1) := by decide +kernel
theorem dX10_listener_49 : decode cX10_listener 49 = .ok (.aload_n 0, 1) := by decide +kernel
theorem dX10_listener_50 : decode cX10_listener 50 = .ok (.getfield 9, 3) := by decide +kernel
theorem dX10_listener_53 : decode cX10_listener 53 = .ok (.bipush 48, 2) := by decide +kernel
theorem dX10_listener_55 : decode cX10_listener 55 = .ok (.iconst 3, 1) := by decide +kernel
theorem dX10_listener_56 : decode cX10_listener 56 = .ok (.iload_n 2, 1) := by decide +kernel
theorem dX10_listener_57 : decode cX10_listener 57 = .ok (.imul, 1) := by decide +kernel
theorem dX10_listener_58 : decode cX10_listener 58 = .ok (.iadd, 1) := by decide +kernel
theorem dX10_listener_59 : decode cX10_listener 59 = .ok (.iconst 1, 1) := by decide +kernel
theorem dX10_listener_60 : decode cX10_listener 60 = .ok (.iadd, 1) := by decide +kernel
theorem dX10_listener_61 : decode cX10_listener 61 = .ok (.iconst 0, 1) := by decide +kernel
theorem dX10_listener_62 : decode cX10_listener 62 = .ok (.iastore, 1) := by decide +kernel
theorem dX10_listener_63 : decode cX10_listener 63 = .ok (.aload_n 0, 1) := by decide +kernel
theorem dX10_listener_64 : decode cX10_listener 64 = .ok (.getfield 9, 3) := by decide +kernel
theorem dX10_listener_67 : decode cX10_listener 67 = .ok (.bipush 48, 2) := by decide +kernel
theorem dX10_listener_69 : decode cX10_listener 69 = .ok (.iconst 3, 1) := by decide +kernel
theorem dX10_listener_70 : decode cX10_listener 70 = .ok (.iload_n 2, 1) := by decide +kernel
theorem dX10_listener_71 : decode cX10_listener 71 = .ok (.imul, 1) := by decide +kernel
theorem dX10_listener_72 : decode cX10_listener 72 = .ok (.iadd, 1) := by decide +kernel
theorem dX10_listener_73 : decode cX10_listener 73 = .ok (.iconst 2, 1) := by decide +kernel
theorem dX10_listener_74 : decode cX10_listener 74 = .ok (.iadd, 1) := by decide +kernel
theorem dX10_listener_75 : decode cX10_listener 75 = .ok (.bipush 50, 2) := by decide +kernel
theorem dX10_listener_77 : decode cX10_listener 77 = .ok (.iastore, 1) := by decide +kernel
theorem dX10_listener_78 : decode cX10_listener 78 = .ok (.aload_n 0, 1) := by decide +kernel
theorem dX10_listener_79 : decode cX10_listener 79 = .ok (.getfield 9, 3) := by decide +kernel
theorem dX10_listener_82 : decode cX10_listener 82 = .ok (.bipush 8, 2) := by decide +kernel
theorem dX10_listener_84 : decode cX10_listener 84 = .ok (.dup2, 1) := by decide +kernel
theorem dX10_listener_85 : decode cX10_listener 85 = .ok (.iaload, 1) := by decide +kernel
theorem dX10_listener_86 : decode cX10_listener 86 = .ok (.iconst 1, 1) := by decide +kernel
theorem dX10_listener_87 : decode cX10_listener 87 = .ok (.iadd, 1) := by decide +kernel
theorem dX10_listener_88 : decode cX10_listener 88 = .ok (.iastore, 1) := by decide +kernel
theorem dX10_listener_89 : decode cX10_listener 89 = .ok (.iload_n 2, 1) := by decide +kernel
theorem dX10_listener_90 : decode cX10_listener 90 = .ok (.ireturn, 1) := by decide +kernel
theorem dX10_singers_0 : decode cX10_singers 0 = .ok (.iconst 0, 1) := by decide +kernel
theorem dX10_singers_1 : decode cX10_singers 1 = .ok (.istore_n 1, 1) := by decide +kernel
theorem dX10_singers_2 : decode cX10_singers 2 = .ok (.iconst 0, 1) := by decide +kernel
theorem dX10_singers_3 : decode cX10_singers 3 = .ok (.istore_n 2, 1) := by decide +kernel
theorem dX10_singers_4 : decode cX10_singers 4 = .ok (.iload_n 2, 1) := by decide +kernel
theorem dX10_singers_5 : decode cX10_singers 5 = .ok (.aload_n 0, 1) := by decide +kernel
theorem dX10_singers_6 : decode cX10_singers 6 = .ok (.getfield 9, 3) := by decide +kernel
theorem dX10_singers_9 : decode cX10_singers 9 = .ok (.bipush 7, 2) := by decide +kernel
theorem dX10_singers_11 : decode cX10_singers 11 = .ok (.iaload, 1) := by decide +kernel
theorem dX10_singers_12 : decode cX10_singers 12 = .ok (.if_icmp .ge 27, 3) := by decide +kernel
theorem dX10_singers_15 : decode cX10_singers 15 = .ok (.iload_n 1, 1) := by decide +kernel
theorem dX10_singers_16 : decode cX10_singers 16 = .ok (.aload_n 0, 1) := by decide +kernel
theorem dX10_singers_17 : decode cX10_singers 17 = .ok (.iload_n 2, 1) := by decide +kernel
theorem dX10_singers_18 : decode cX10_singers 18 = .ok (.invokevirtual 104, 3) := by decide +kernel
theorem dX10_singers_21 : decode cX10_singers 21 = .ok (.ifCond .eq 9, 3) := by decide +kernel
theorem dX10_singers_24 : decode cX10_singers 24 = .ok (.iconst 1, 1) := by decide +kernel
theorem dX10_singers_25 : decode cX10_singers 25 = .ok (.iload_n 2, 1) := by decide +kernel
theorem dX10_singers_26 : decode cX10_singers 26 = .ok (.ishl, 1) := by decide +kernel
theorem dX10_singers_27 : decode cX10_singers 27 = .ok (.goto 4, 3) := by decide +kernel
theorem dX10_singers_30 : decode cX10_singers 30 = .ok (.iconst 0, 1) := by decide +kernel
theorem dX10_singers_31 : decode cX10_singers 31 = .ok (.ior, 1) := by decide +kernel
theorem dX10_singers_32 : decode cX10_singers 32 = .ok (.istore_n 1, 1) := by decide +kernel
theorem dX10_singers_33 : decode cX10_singers 33 = .ok (.iinc 2 1, 3) := by decide +kernel
theorem dX10_singers_36 : decode cX10_singers 36 = .ok (.goto (-32), 3) := by decide +kernel
theorem dX10_singers_39 : decode cX10_singers 39 = .ok (.iload_n 1, 1) := by decide +kernel
theorem dX10_singers_40 : decode cX10_singers 40 = .ok (.ireturn, 1) := by decide +kernel
theorem dX10_bits_0 : decode cX10_bits 0 = .ok (.iconst 0, 1) := by decide +kernel
theorem dX10_bits_1 : decode cX10_bits 1 = .ok (.istore_n 1, 1) := by decide +kernel
theorem dX10_bits_2 : decode cX10_bits 2 = .ok (.iload_n 0, 1) := by decide +kernel
theorem dX10_bits_3 : decode cX10_bits 3 = .ok (.istore_n 2, 1) := by decide +kernel
theorem dX10_bits_4 : decode cX10_bits 4 = .ok (.iload_n 2, 1) := by decide +kernel
theorem dX10_bits_5 : decode cX10_bits 5 = .ok (.ifCond .eq 15, 3) := by decide +kernel
theorem dX10_bits_8 : decode cX10_bits 8 = .ok (.iinc 1 1, 3) := by decide +kernel
theorem dX10_bits_11 : decode cX10_bits 11 = .ok (.iload_n 2, 1) := by decide +kernel
theorem dX10_bits_12 : decode cX10_bits 12 = .ok (.iload_n 2, 1) := by decide +kernel
theorem dX10_bits_13 : decode cX10_bits 13 = .ok (.iconst 1, 1) := by decide +kernel
theorem dX10_bits_14 : decode cX10_bits 14 = .ok (.isub, 1) := by decide +kernel
theorem dX10_bits_15 : decode cX10_bits 15 = .ok (.iand, 1) := by decide +kernel
theorem dX10_bits_16 : decode cX10_bits 16 = .ok (.istore_n 2, 1) := by decide +kernel
theorem dX10_bits_17 : decode cX10_bits 17 = .ok (.goto (-13), 3) := by decide +kernel
theorem dX10_bits_20 : decode cX10_bits 20 = .ok (.iload_n 1, 1) := by decide +kernel
theorem dX10_bits_21 : decode cX10_bits 21 = .ok (.ireturn, 1) := by decide +kernel
theorem dX10_isTogether_0 : decode cX10_isTogether 0 = .ok (.iconst (-1), 1) := by decide +kernel
theorem dX10_isTogether_1 : decode cX10_isTogether 1 = .ok (.istore_n 3, 1) := by decide +kernel
theorem dX10_isTogether_2 : decode cX10_isTogether 2 = .ok (.iload_n 2, 1) := by decide +kernel
theorem dX10_isTogether_3 : decode cX10_isTogether 3 = .ok (.invokestatic 127, 3) := by decide +kernel
theorem dX10_isTogether_6 : decode cX10_isTogether 6 = .ok (.iconst 1, 1) := by decide +kernel
theorem dX10_isTogether_7 : decode cX10_isTogether 7 = .ok (.if_icmp .le 7, 3) := by decide +kernel
theorem dX10_isTogether_10 : decode cX10_isTogether 10 = .ok (.iconst 1, 1) := by decide +kernel
theorem dX10_isTogether_11 : decode cX10_isTogether 11 = .ok (.goto 4, 3) := by decide +kernel
theorem dX10_isTogether_14 : decode cX10_isTogether 14 = .ok (.iconst 0, 1) := by decide +kernel
theorem dX10_isTogether_15 : decode cX10_isTogether 15 = .ok (.istore 4, 2) := by decide +kernel
theorem dX10_isTogether_17 : decode cX10_isTogether 17 = .ok (.iconst 0, 1) := by decide +kernel
theorem dX10_isTogether_18 : decode cX10_isTogether 18 = .ok (.istore 5, 2) := by decide +kernel
theorem dX10_isTogether_20 : decode cX10_isTogether 20 = .ok (.iload 5, 2) := by decide +kernel
theorem dX10_isTogether_22 : decode cX10_isTogether 22 = .ok (.aload_n 0, 1) := by decide +kernel
theorem dX10_isTogether_23 : decode cX10_isTogether 23 = .ok (.getfield 9, 3) := by decide +kernel
theorem dX10_isTogether_26 : decode cX10_isTogether 26 = .ok (.bipush 7, 2) := by decide +kernel
theorem dX10_isTogether_28 : decode cX10_isTogether 28 = .ok (.iaload, 1) := by decide +kernel
theorem dX10_isTogether_29 : decode cX10_isTogether 29 = .ok (.if_icmp .ge 53, 3) := by decide +kernel
theorem dX10_isTogether_32 : decode cX10_isTogether 32 = .ok (.iload 4, 2) := by decide +kernel
theorem dX10_isTogether_34 : decode cX10_isTogether 34 = .ok (.ifCond .eq 48, 3) := by decide +kernel
theorem dX10_isTogether_37 : decode cX10_isTogether 37 = .ok (.iload_n 2, 1) := by decide +kernel
theorem dX10_isTogether_38 : decode cX10_isTogether 38 = .ok (.iload 5, 2) := by decide +kernel
theorem dX10_isTogether_40 : decode cX10_isTogether 40 = .ok (.ishr, 1) := by decide +kernel
theorem dX10_isTogether_41 : decode cX10_isTogether 41 = .ok (.iconst 1, 1) := by decide +kernel
theorem dX10_isTogether_42 : decode cX10_isTogether 42 = .ok (.iand, 1) := by decide +kernel
theorem dX10_isTogether_43 : decode cX10_isTogether 43 = .ok (.iconst 1, 1) := by decide +kernel
theorem dX10_isTogether_44 : decode cX10_isTogether 44 = .ok (.if_icmp .ne 32, 3) := by decide +kernel
theorem dX10_isTogether_47 : decode cX10_isTogether 47 = .ok (.aload_n 0, 1) := by decide +kernel
theorem dX10_isTogether_48 : decode cX10_isTogether 48 = .ok (.iload 5, 2) := by decide +kernel
theorem dX10_isTogether_50 : decode cX10_isTogether 50 = .ok (.iload_n 1, 1) := by decide +kernel
theorem dX10_isTogether_51 : decode cX10_isTogether 51 = .ok (.invokevirtual 124, 3) := by decide +kernel
theorem dX10_isTogether_54 : decode cX10_isTogether 54 = .ok (.istore 6, 2) := by decide +kernel
theorem dX10_isTogether_56 : decode cX10_isTogether 56 = .ok (.iload_n 3, 1) := by decide +kernel
theorem dX10_isTogether_57 : decode cX10_isTogether 57 = .ok (.ifCond .lt 9, 3) := by decide +kernel
theorem dX10_isTogether_60 : decode cX10_isTogether 60 = .ok (.iload_n 3, 1) := by decide +kernel
theorem dX10_isTogether_61 : decode cX10_isTogether 61 = .ok (.iload 6, 2) := by decide +kernel
theorem dX10_isTogether_63 : decode cX10_isTogether 63 = .ok (.if_icmp .ne 7, 3) := by decide +kernel
theorem dX10_isTogether_66 : decode cX10_isTogether 66 = .ok (.iconst 1, 1) := by decide +kernel
theorem dX10_isTogether_67 : decode cX10_isTogether 67 = .ok (.goto 4, 3) := by decide +kernel
theorem dX10_isTogether_70 : decode cX10_isTogether 70 = .ok (.iconst 0, 1) := by decide +kernel
theorem dX10_isTogether_71 : decode cX10_isTogether 71 = .ok (.istore 4, 2) := by decide +kernel
theorem dX10_isTogether_73 : decode cX10_isTogether 73 = .ok (.iload 6, 2) := by decide +kernel
theorem dX10_isTogether_75 : decode cX10_isTogether 75 = .ok (.istore_n 3, 1) := by decide +kernel
theorem dX10_isTogether_76 : decode cX10_isTogether 76 = .ok (.iinc 5 1, 3) := by decide +kernel
theorem dX10_isTogether_79 : decode cX10_isTogether 79 = .ok (.goto (-59), 3) := by decide +kernel
theorem dX10_isTogether_82 : decode cX10_isTogether 82 = .ok (.iload 4, 2) := by decide +kernel
theorem dX10_isTogether_84 : decode cX10_isTogether 84 = .ok (.ireturn, 1) := by decide +kernel
theorem dX10_ofOne_0 : decode cX10_ofOne 0 = .ok (.iload_n 2, 1) := by decide +kernel
theorem dX10_ofOne_1 : decode cX10_ofOne 1 = .ok (.iconst 3, 1) := by decide +kernel
theorem dX10_ofOne_2 : decode cX10_ofOne 2 = .ok (.if_icmp .ne 28, 3) := by decide +kernel
theorem dX10_ofOne_5 : decode cX10_ofOne 5 = .ok (.aload_n 0, 1) := by decide +kernel
theorem dX10_ofOne_6 : decode cX10_ofOne 6 = .ok (.aload_n 0, 1) := by decide +kernel
theorem dX10_ofOne_7 : decode cX10_ofOne 7 = .ok (.iload_n 1, 1) := by decide +kernel
theorem dX10_ofOne_8 : decode cX10_ofOne 8 = .ok (.iconst 0, 1) := by decide +kernel
theorem dX10_ofOne_9 : decode cX10_ofOne 9 = .ok (.invokevirtual 130, 3) := by decide +kernel
theorem dX10_ofOne_12 : decode cX10_ofOne 12 = .ok (.aload_n 0, 1) := by decide +kernel
theorem dX10_ofOne_13 : decode cX10_ofOne 13 = .ok (.invokevirtual 133, 3) := by decide +kernel
theorem dX10_ofOne_16 : decode cX10_ofOne 16 = .ok (.invokevirtual 136, 3) := by decide +kernel
theorem dX10_ofOne_19 : decode cX10_ofOne 19 = .ok (.ifCond .eq 7, 3) := by decide +kernel
theorem dX10_ofOne_22 : decode cX10_ofOne 22 = .ok (.iconst 1, 1) := by decide +kernel
theorem dX10_ofOne_23 : decode cX10_ofOne 23 = .ok (.goto 13, 3) := by decide +kernel
theorem dX10_ofOne_26 : decode cX10_ofOne 26 = .ok (.iconst 0, 1) := by decide +kernel
theorem dX10_ofOne_27 : decode cX10_ofOne 27 = .ok (.goto 9, 3) := by decide +kernel
theorem dX10_ofOne_30 : decode cX10_ofOne 30 = .ok (.aload_n 0, 1) := by decide +kernel
theorem dX10_ofOne_31 : decode cX10_ofOne 31 = .ok (.iload_n 1, 1) := by decide +kernel
theorem dX10_ofOne_32 : decode cX10_ofOne 32 = .ok (.iload_n 2, 1) := by decide +kernel
theorem dX10_ofOne_33 : decode cX10_ofOne 33 = .ok (.invokevirtual 130, 3) := by decide +kernel
theorem dX10_ofOne_36 : decode cX10_ofOne 36 = .ok (.ireturn, 1) := by decide +kernel
theorem dX10_ofListener_0 : decode cX10_ofListener 0 = .ok (.aload_n 0, 1) := by decide +kernel
theorem dX10_ofListener_1 : decode cX10_ofListener 1 = .ok (.iload_n 1, 1) := by decide +kernel
theorem dX10_ofListener_2 : decode cX10_ofListener 2 = .ok (.bipush 8, 2) := by decide +kernel
theorem dX10_ofListener_4 : decode cX10_ofListener 4 = .ok (.invokevirtual 100, 3) := by decide +kernel
theorem dX10_ofListener_7 : decode cX10_ofListener 7 = .ok (.ifCond .eq 21, 3) := by decide +kernel
theorem dX10_ofListener_10 : decode cX10_ofListener 10 = .ok (.iload_n 2, 1) := by decide +kernel
theorem dX10_ofListener_11 : decode cX10_ofListener 11 = .ok (.iconst 0, 1) := by decide +kernel
theorem dX10_ofListener_12 : decode cX10_ofListener 12 = .ok (.iconst 3, 1) := by decide +kernel
theorem dX10_ofListener_13 : decode cX10_ofListener 13 = .ok (.invokestatic 72, 3) := by decide +kernel
theorem dX10_ofListener_16 : decode cX10_ofListener 16 = .ok (.ifCond .eq 12, 3) := by decide +kernel
theorem dX10_ofListener_19 : decode cX10_ofListener 19 = .ok (.aload_n 0, 1) := by decide +kernel
theorem dX10_ofListener_20 : decode cX10_ofListener 20 = .ok (.iload_n 1, 1) := by decide +kernel
theorem dX10_ofListener_21 : decode cX10_ofListener 21 = .ok (.iload_n 2, 1) := by decide +kernel
theorem dX10_ofListener_22 : decode cX10_ofListener 22 = .ok (.invokevirtual 139, 3) := by decide +kernel
theorem dX10_ofListener_25 : decode cX10_ofListener 25 = .ok (.goto 9, 3) := by decide +kernel
theorem dX10_ofListener_28 : decode cX10_ofListener 28 = .ok (.aload_n 0, 1) := by decide +kernel
theorem dX10_ofListener_29 : decode cX10_ofListener 29 = .ok (.ldc 83, 2) := by decide +kernel
theorem dX10_ofListener_31 : decode cX10_ofListener 31 = .ok (.invokevirtual 84, 3) := by decide +kernel
theorem dX10_ofListener_34 : decode cX10_ofListener 34 = .ok (.ireturn, 1) := by decide +kernel
theorem dX10_row_0 : decode cX10_row 0 = .ok (.aload_n 0, 1) := by decide +kernel
theorem dX10_row_1 : decode cX10_row 1 = .ok (.iload_n 1, 1) := by decide +kernel
theorem dX10_row_2 : decode cX10_row 2 = .ok (.bipush 8, 2) := by decide +kernel
theorem dX10_row_4 : decode cX10_row 4 = .ok (.invokevirtual 100, 3) := by decide +kernel
theorem dX10_row_7 : decode cX10_row 7 = .ok (.ifCond .eq 26, 3) := by decide +kernel
theorem dX10_row_10 : decode cX10_row 10 = .ok (.iload_n 2, 1) := by decide +kernel
theorem dX10_row_11 : decode cX10_row 11 = .ok (.invokestatic 88, 3) := by decide +kernel
theorem dX10_row_14 : decode cX10_row 14 = .ok (.ifCond .eq 19, 3) := by decide +kernel
theorem dX10_row_17 : decode cX10_row 17 = .ok (.aload_n 0, 1) := by decide +kernel
theorem dX10_row_18 : decode cX10_row 18 = .ok (.bipush 48, 2) := by decide +kernel
theorem dX10_row_20 : decode cX10_row 20 = .ok (.iconst 3, 1) := by decide +kernel
theorem dX10_row_21 : decode cX10_row 21 = .ok (.iload_n 1, 1) := by decide +kernel
theorem dX10_row_22 : decode cX10_row 22 = .ok (.imul, 1) := by decide +kernel
theorem dX10_row_23 : decode cX10_row 23 = .ok (.iadd, 1) := by decide +kernel
theorem dX10_row_24 : decode cX10_row 24 = .ok (.iconst 0, 1) := by decide +kernel
theorem dX10_row_25 : decode cX10_row 25 = .ok (.iadd, 1) := by decide +kernel
theorem dX10_row_26 : decode cX10_row 26 = .ok (.iload_n 2, 1) := by decide +kernel
theorem dX10_row_27 : decode cX10_row 27 = .ok (.invokevirtual 80, 3) := by decide +kernel
theorem dX10_row_30 : decode cX10_row 30 = .ok (.goto 9, 3) := by decide +kernel
theorem dX10_row_33 : decode cX10_row 33 = .ok (.aload_n 0, 1) := by decide +kernel
theorem dX10_row_34 : decode cX10_row 34 = .ok (.ldc 83, 2) := by decide +kernel
theorem dX10_row_36 : decode cX10_row 36 = .ok (.invokevirtual 84, 3) := by decide +kernel
theorem dX10_row_39 : decode cX10_row 39 = .ok (.ireturn, 1) := by decide +kernel
theorem dX10_feed_0 : decode cX10_feed 0 = .ok (.iload_n 3, 1) := by decide +kernel
theorem dX10_feed_1 : decode cX10_feed 1 = .ok (.iconst 1, 1) := by decide +kernel
theorem dX10_feed_2 : decode cX10_feed 2 = .ok (.bipush 8, 2) := by decide +kernel
theorem dX10_feed_4 : decode cX10_feed 4 = .ok (.invokestatic 72, 3) := by decide +kernel
theorem dX10_feed_7 : decode cX10_feed 7 = .ok (.ifCond .ne 10, 3) := by decide +kernel
theorem dX10_feed_10 : decode cX10_feed 10 = .ok (.aload_n 0, 1) := by decide +kernel
theorem dX10_feed_11 : decode cX10_feed 11 = .ok (.ldc 83, 2) := by decide +kernel
theorem dX10_feed_13 : decode cX10_feed 13 = .ok (.invokevirtual 84, 3) := by decide +kernel
theorem dX10_feed_16 : decode cX10_feed 16 = .ok (.ireturn, 1) := by decide +kernel
theorem dX10_feed_17 : decode cX10_feed 17 = .ok (.aload_n 0, 1) := by decide +kernel
theorem dX10_feed_18 : decode cX10_feed 18 = .ok (.getfield 9, 3) := by decide +kernel
theorem dX10_feed_21 : decode cX10_feed 21 = .ok (.bipush 9, 2) := by decide +kernel
theorem dX10_feed_23 : decode cX10_feed 23 = .ok (.iaload, 1) := by decide +kernel
theorem dX10_feed_24 : decode cX10_feed 24 = .ok (.iload_n 3, 1) := by decide +kernel
theorem dX10_feed_25 : decode cX10_feed 25 = .ok (.iadd, 1) := by decide +kernel
theorem dX10_feed_26 : decode cX10_feed 26 = .ok (.bipush 50, 2) := by decide +kernel
theorem dX10_feed_28 : decode cX10_feed 28 = .ok (.if_icmp .le 10, 3) := by decide +kernel
theorem dX10_feed_31 : decode cX10_feed 31 = .ok (.aload_n 0, 1) := by decide +kernel
theorem dX10_feed_32 : decode cX10_feed 32 = .ok (.ldc 92, 2) := by decide +kernel
theorem dX10_feed_34 : decode cX10_feed 34 = .ok (.invokevirtual 84, 3) := by decide +kernel
theorem dX10_feed_37 : decode cX10_feed 37 = .ok (.ireturn, 1) := by decide +kernel
theorem dX10_feed_38 : decode cX10_feed 38 = .ok (.iconst 0, 1) := by decide +kernel
theorem dX10_feed_39 : decode cX10_feed 39 = .ok (.istore 4, 2) := by decide +kernel
theorem dX10_feed_41 : decode cX10_feed 41 = .ok (.iload 4, 2) := by decide +kernel
theorem dX10_feed_43 : decode cX10_feed 43 = .ok (.iload_n 3, 1) := by decide +kernel
theorem dX10_feed_44 : decode cX10_feed 44 = .ok (.if_icmp .ge 47, 3) := by decide +kernel
theorem dX10_feed_47 : decode cX10_feed 47 = .ok (.aload_n 0, 1) := by decide +kernel
theorem dX10_feed_48 : decode cX10_feed 48 = .ok (.getfield 9, 3) := by decide +kernel
theorem dX10_feed_51 : decode cX10_feed 51 = .ok (.bipush 66, 2) := by decide +kernel
theorem dX10_feed_53 : decode cX10_feed 53 = .ok (.aload_n 0, 1) := by decide +kernel
theorem dX10_feed_54 : decode cX10_feed 54 = .ok (.getfield 9, 3) := by decide +kernel
theorem dX10_feed_57 : decode cX10_feed 57 = .ok (.bipush 9, 2) := by decide +kernel
theorem dX10_feed_59 : decode cX10_feed 59 = .ok (.iaload, 1) := by decide +kernel
theorem dX10_feed_60 : decode cX10_feed 60 = .ok (.iadd, 1) := by decide +kernel
theorem dX10_feed_61 : decode cX10_feed 61 = .ok (.lload_n 1, 1) := by decide +kernel
theorem dX10_feed_62 : decode cX10_feed 62 = .ok (.bipush 8, 2) := by decide +kernel
theorem dX10_feed_64 : decode cX10_feed 64 = .ok (.iload 4, 2) := by decide +kernel
theorem dX10_feed_66 : decode cX10_feed 66 = .ok (.imul, 1) := by decide +kernel
theorem dX10_feed_67 : decode cX10_feed 67 = .ok (.lshr, 1) := by decide +kernel
theorem dX10_feed_68 : decode cX10_feed 68 = .ok (.ldc2_w 142, 3) := by decide +kernel
theorem dX10_feed_71 : decode cX10_feed 71 = .ok (.land, 1) := by decide +kernel
theorem dX10_feed_72 : decode cX10_feed 72 = .ok (.l2i, 1) := by decide +kernel
theorem dX10_feed_73 : decode cX10_feed 73 = .ok (.iastore, 1) := by decide +kernel
theorem dX10_feed_74 : decode cX10_feed 74 = .ok (.aload_n 0, 1) := by decide +kernel
theorem dX10_feed_75 : decode cX10_feed 75 = .ok (.getfield 9, 3) := by decide +kernel
theorem dX10_feed_78 : decode cX10_feed 78 = .ok (.bipush 9, 2) := by decide +kernel
theorem dX10_feed_80 : decode cX10_feed 80 = .ok (.dup2, 1) := by decide +kernel
theorem dX10_feed_81 : decode cX10_feed 81 = .ok (.iaload, 1) := by decide +kernel
theorem dX10_feed_82 : decode cX10_feed 82 = .ok (.iconst 1, 1) := by decide +kernel
theorem dX10_feed_83 : decode cX10_feed 83 = .ok (.iadd, 1) := by decide +kernel
theorem dX10_feed_84 : decode cX10_feed 84 = .ok (.iastore, 1) := by decide +kernel
theorem dX10_feed_85 : decode cX10_feed 85 = .ok (.iinc 4 1, 3) := by decide +kernel
theorem dX10_feed_88 : decode cX10_feed 88 = .ok (.goto (-47), 3) := by decide +kernel
theorem dX10_feed_91 : decode cX10_feed 91 = .ok (.aload_n 0, 1) := by decide +kernel
theorem dX10_feed_92 : decode cX10_feed 92 = .ok (.getfield 9, 3) := by decide +kernel
theorem dX10_feed_95 : decode cX10_feed 95 = .ok (.bipush 9, 2) := by decide +kernel
theorem dX10_feed_97 : decode cX10_feed 97 = .ok (.iaload, 1) := by decide +kernel
theorem dX10_feed_98 : decode cX10_feed 98 = .ok (.ireturn, 1) := by decide +kernel
theorem dX10_here_0 : decode cX10_here 0 = .ok (.aload_n 0, 1) := by decide +kernel
theorem dX10_here_1 : decode cX10_here 1 = .ok (.getfield 144, 3) := by decide +kernel
theorem dX10_here_4 : decode cX10_here 4 = .ok (.ifCond .ne 32, 3) := by decide +kernel
theorem dX10_here_7 : decode cX10_here 7 = .ok (.aload_n 0, 1) := by decide +kernel
theorem dX10_here_8 : decode cX10_here 8 = .ok (.getfield 148, 3) := by decide +kernel
theorem dX10_here_11 : decode cX10_here 11 = .ok (.aload_n 0, 1) := by decide +kernel
theorem dX10_here_12 : decode cX10_here 12 = .ok (.getfield 9, 3) := by decide +kernel
theorem dX10_here_15 : decode cX10_here 15 = .ok (.bipush 9, 2) := by decide +kernel
theorem dX10_here_17 : decode cX10_here 17 = .ok (.iaload, 1) := by decide +kernel
theorem dX10_here_18 : decode cX10_here 18 = .ok (.if_icmp .ge 18, 3) := by decide +kernel
theorem dX10_here_21 : decode cX10_here 21 = .ok (.aload_n 0, 1) := by decide +kernel
theorem dX10_here_22 : decode cX10_here 22 = .ok (.getfield 9, 3) := by decide +kernel
theorem dX10_here_25 : decode cX10_here 25 = .ok (.bipush 66, 2) := by decide +kernel
theorem dX10_here_27 : decode cX10_here 27 = .ok (.aload_n 0, 1) := by decide +kernel
theorem dX10_here_28 : decode cX10_here 28 = .ok (.getfield 148, 3) := by decide +kernel
theorem dX10_here_31 : decode cX10_here 31 = .ok (.iadd, 1) := by decide +kernel
theorem dX10_here_32 : decode cX10_here 32 = .ok (.iaload, 1) := by decide +kernel
theorem dX10_here_33 : decode cX10_here 33 = .ok (.goto 4, 3) := by decide +kernel
theorem dX10_here_36 : decode cX10_here 36 = .ok (.iconst (-1), 1) := by decide +kernel
theorem dX10_here_37 : decode cX10_here 37 = .ok (.ireturn, 1) := by decide +kernel
theorem dX10_takes_0 : decode cX10_takes 0 = .ok (.aload_n 0, 1) := by decide +kernel
theorem dX10_takes_1 : decode cX10_takes 1 = .ok (.invokevirtual 152, 3) := by decide +kernel
theorem dX10_takes_4 : decode cX10_takes 4 = .ok (.iload_n 1, 1) := by decide +kernel
theorem dX10_takes_5 : decode cX10_takes 5 = .ok (.if_icmp .ne 7, 3) := by decide +kernel
theorem dX10_takes_8 : decode cX10_takes 8 = .ok (.iconst 1, 1) := by decide +kernel
theorem dX10_takes_9 : decode cX10_takes 9 = .ok (.goto 4, 3) := by decide +kernel
theorem dX10_takes_12 : decode cX10_takes 12 = .ok (.iconst 0, 1) := by decide +kernel
theorem dX10_takes_13 : decode cX10_takes 13 = .ok (.istore_n 2, 1) := by decide +kernel
theorem dX10_takes_14 : decode cX10_takes 14 = .ok (.aload_n 0, 1) := by decide +kernel
theorem dX10_takes_15 : decode cX10_takes 15 = .ok (.dup, 1) := by decide +kernel
theorem dX10_takes_16 : decode cX10_takes 16 = .ok (.getfield 148, 3) := by decide +kernel
theorem dX10_takes_19 : decode cX10_takes 19 = .ok (.iload_n 2, 1) := by decide +kernel
theorem dX10_takes_20 : decode cX10_takes 20 = .ok (.ifCond .eq 7, 3) := by decide +kernel
theorem dX10_takes_23 : decode cX10_takes 23 = .ok (.iconst 1, 1) := by decide +kernel
theorem dX10_takes_24 : decode cX10_takes 24 = .ok (.goto 4, 3) := by decide +kernel
theorem dX10_takes_27 : decode cX10_takes 27 = .ok (.iconst 0, 1) := by decide +kernel
theorem dX10_takes_28 : decode cX10_takes 28 = .ok (.iadd, 1) := by decide +kernel
theorem dX10_takes_29 : decode cX10_takes 29 = .ok (.putfield 148, 3) := by decide +kernel
theorem dX10_takes_32 : decode cX10_takes 32 = .ok (.iload_n 2, 1) := by decide +kernel
theorem dX10_takes_33 : decode cX10_takes 33 = .ok (.ireturn, 1) := by decide +kernel
theorem dX10_codes_0 : decode cX10_codes 0 = .ok (.aload_n 0, 1) := by decide +kernel
theorem dX10_codes_1 : decode cX10_codes 1 = .ok (.getfield 144, 3) := by decide +kernel
theorem dX10_codes_4 : decode cX10_codes 4 = .ok (.ifCond .ne 23, 3) := by decide +kernel
theorem dX10_codes_7 : decode cX10_codes 7 = .ok (.aload_n 0, 1) := by decide +kernel
theorem dX10_codes_8 : decode cX10_codes 8 = .ok (.getfield 35, 3) := by decide +kernel
theorem dX10_codes_11 : decode cX10_codes 11 = .ok (.aload_n 0, 1) := by decide +kernel
theorem dX10_codes_12 : decode cX10_codes 12 = .ok (.getfield 155, 3) := by decide +kernel
theorem dX10_codes_15 : decode cX10_codes 15 = .ok (.iload_n 1, 1) := by decide +kernel
theorem dX10_codes_16 : decode cX10_codes 16 = .ok (.iastore, 1) := by decide +kernel
theorem dX10_codes_17 : decode cX10_codes 17 = .ok (.aload_n 0, 1) := by decide +kernel
theorem dX10_codes_18 : decode cX10_codes 18 = .ok (.dup, 1) := by decide +kernel
theorem dX10_codes_19 : decode cX10_codes 19 = .ok (.getfield 155, 3) := by decide +kernel
theorem dX10_codes_22 : decode cX10_codes 22 = .ok (.iconst 1, 1) := by decide +kernel
theorem dX10_codes_23 : decode cX10_codes 23 = .ok (.iadd, 1) := by decide +kernel
theorem dX10_codes_24 : decode cX10_codes 24 = .ok (.putfield 155, 3) := by decide +kernel
theorem dX10_codes_27 : decode cX10_codes 27 = .ok (.return_, 1) := by decide +kernel
theorem dX10_either_0 : decode cX10_either 0 = .ok (.aload_n 0, 1) := by decide +kernel
theorem dX10_either_1 : decode cX10_either 1 = .ok (.invokevirtual 158, 3) := by decide +kernel
theorem dX10_either_4 : decode cX10_either 4 = .ok (.aload_n 0, 1) := by decide +kernel
theorem dX10_either_5 : decode cX10_either 5 = .ok (.bipush 124, 2) := by decide +kernel
theorem dX10_either_7 : decode cX10_either 7 = .ok (.invokevirtual 161, 3) := by decide +kernel
theorem dX10_either_10 : decode cX10_either 10 = .ok (.ifCond .eq 17, 3) := by decide +kernel
theorem dX10_either_13 : decode cX10_either 13 = .ok (.aload_n 0, 1) := by decide +kernel
theorem dX10_either_14 : decode cX10_either 14 = .ok (.invokevirtual 158, 3) := by decide +kernel
theorem dX10_either_17 : decode cX10_either 17 = .ok (.aload_n 0, 1) := by decide +kernel
theorem dX10_either_18 : decode cX10_either 18 = .ok (.sipush 20000, 3) := by decide +kernel
theorem dX10_either_21 : decode cX10_either 21 = .ok (.invokevirtual 164, 3) := by decide +kernel
theorem dX10_either_24 : decode cX10_either 24 = .ok (.goto (-20), 3) := by decide +kernel
theorem dX10_either_27 : decode cX10_either 27 = .ok (.return_, 1) := by decide +kernel
theorem dX10_both_0 : decode cX10_both 0 = .ok (.aload_n 0, 1) := by decide +kernel
theorem dX10_both_1 : decode cX10_both 1 = .ok (.invokevirtual 168, 3) := by decide +kernel
theorem dX10_both_4 : decode cX10_both 4 = .ok (.aload_n 0, 1) := by decide +kernel
theorem dX10_both_5 : decode cX10_both 5 = .ok (.bipush 38, 2) := by decide +kernel
theorem dX10_both_7 : decode cX10_both 7 = .ok (.invokevirtual 161, 3) := by decide +kernel
theorem dX10_both_10 : decode cX10_both 10 = .ok (.ifCond .eq 17, 3) := by decide +kernel
theorem dX10_both_13 : decode cX10_both 13 = .ok (.aload_n 0, 1) := by decide +kernel
theorem dX10_both_14 : decode cX10_both 14 = .ok (.invokevirtual 168, 3) := by decide +kernel
theorem dX10_both_17 : decode cX10_both 17 = .ok (.aload_n 0, 1) := by decide +kernel
theorem dX10_both_18 : decode cX10_both 18 = .ok (.sipush 20001, 3) := by decide +kernel
theorem dX10_both_21 : decode cX10_both 21 = .ok (.invokevirtual 164, 3) := by decide +kernel
theorem dX10_both_24 : decode cX10_both 24 = .ok (.goto (-20), 3) := by decide +kernel
theorem dX10_both_27 : decode cX10_both 27 = .ok (.return_, 1) := by decide +kernel
theorem dX10_compared_0 : decode cX10_compared 0 = .ok (.aload_n 0, 1) := by decide +kernel
theorem dX10_compared_1 : decode cX10_compared 1 = .ok (.invokevirtual 171, 3) := by decide +kernel
theorem dX10_compared_4 : decode cX10_compared 4 = .ok (.aload_n 0, 1) := by decide +kernel
theorem dX10_compared_5 : decode cX10_compared 5 = .ok (.bipush 60, 2) := by decide +kernel
theorem dX10_compared_7 : decode cX10_compared 7 = .ok (.invokevirtual 161, 3) := by decide +kernel
theorem dX10_compared_10 : decode cX10_compared 10 = .ok (.ifCond .eq 9, 3) := by decide +kernel
theorem dX10_compared_13 : decode cX10_compared 13 = .ok (.sipush 20002, 3) := by decide +kernel
theorem dX10_compared_16 : decode cX10_compared 16 = .ok (.goto 34, 3) := by decide +kernel
theorem dX10_compared_19 : decode cX10_compared 19 = .ok (.aload_n 0, 1) := by decide +kernel
theorem dX10_compared_20 : decode cX10_compared 20 = .ok (.bipush 61, 2) := by decide +kernel
theorem dX10_compared_22 : decode cX10_compared 22 = .ok (.invokevirtual 161, 3) := by decide +kernel
theorem dX10_compared_25 : decode cX10_compared 25 = .ok (.ifCond .eq 9, 3) := by decide +kernel
theorem dX10_compared_28 : decode cX10_compared 28 = .ok (.sipush 20003, 3) := by decide +kernel
theorem dX10_compared_31 : decode cX10_compared 31 = .ok (.goto 19, 3) := by decide +kernel
theorem dX10_compared_34 : decode cX10_compared 34 = .ok (.aload_n 0, 1) := by decide +kernel
theorem dX10_compared_35 : decode cX10_compared 35 = .ok (.bipush 62, 2) := by decide +kernel
theorem dX10_compared_37 : decode cX10_compared 37 = .ok (.invokevirtual 161, 3) := by decide +kernel
theorem dX10_compared_40 : decode cX10_compared 40 = .ok (.ifCond .eq 9, 3) := by decide +kernel
theorem dX10_compared_43 : decode cX10_compared 43 = .ok (.sipush 20004, 3) := by decide +kernel
theorem dX10_compared_46 : decode cX10_compared 46 = .ok (.goto 4, 3) := by decide +kernel
theorem dX10_compared_49 : decode cX10_compared 49 = .ok (.iconst 0, 1) := by decide +kernel
theorem dX10_compared_50 : decode cX10_compared 50 = .ok (.istore_n 1, 1) := by decide +kernel
theorem dX10_compared_51 : decode cX10_compared 51 = .ok (.iload_n 1, 1) := by decide +kernel
theorem dX10_compared_52 : decode cX10_compared 52 = .ok (.ifCond .le 12, 3) := by decide +kernel
theorem dX10_compared_55 : decode cX10_compared 55 = .ok (.aload_n 0, 1) := by decide +kernel
theorem dX10_compared_56 : decode cX10_compared 56 = .ok (.invokevirtual 171, 3) := by decide +kernel
theorem dX10_compared_59 : decode cX10_compared 59 = .ok (.aload_n 0, 1) := by decide +kernel
theorem dX10_compared_60 : decode cX10_compared 60 = .ok (.iload_n 1, 1) := by decide +kernel
theorem dX10_compared_61 : decode cX10_compared 61 = .ok (.invokevirtual 164, 3) := by decide +kernel
theorem dX10_compared_64 : decode cX10_compared 64 = .ok (.return_, 1) := by decide +kernel
theorem dX10_sum_0 : decode cX10_sum 0 = .ok (.aload_n 0, 1) := by decide +kernel
theorem dX10_sum_1 : decode cX10_sum 1 = .ok (.invokevirtual 174, 3) := by decide +kernel
theorem dX10_sum_4 : decode cX10_sum 4 = .ok (.aload_n 0, 1) := by decide +kernel
theorem dX10_sum_5 : decode cX10_sum 5 = .ok (.bipush 43, 2) := by decide +kernel
theorem dX10_sum_7 : decode cX10_sum 7 = .ok (.invokevirtual 161, 3) := by decide +kernel
theorem dX10_sum_10 : decode cX10_sum 10 = .ok (.ifCond .eq 9, 3) := by decide +kernel
theorem dX10_sum_13 : decode cX10_sum 13 = .ok (.sipush 20005, 3) := by decide +kernel
theorem dX10_sum_16 : decode cX10_sum 16 = .ok (.goto 19, 3) := by decide +kernel
theorem dX10_sum_19 : decode cX10_sum 19 = .ok (.aload_n 0, 1) := by decide +kernel
theorem dX10_sum_20 : decode cX10_sum 20 = .ok (.bipush 45, 2) := by decide +kernel
theorem dX10_sum_22 : decode cX10_sum 22 = .ok (.invokevirtual 161, 3) := by decide +kernel
theorem dX10_sum_25 : decode cX10_sum 25 = .ok (.ifCond .eq 9, 3) := by decide +kernel
theorem dX10_sum_28 : decode cX10_sum 28 = .ok (.sipush 20006, 3) := by decide +kernel
theorem dX10_sum_31 : decode cX10_sum 31 = .ok (.goto 4, 3) := by decide +kernel
theorem dX10_sum_34 : decode cX10_sum 34 = .ok (.iconst 0, 1) := by decide +kernel
theorem dX10_sum_35 : decode cX10_sum 35 = .ok (.istore_n 1, 1) := by decide +kernel
theorem dX10_sum_36 : decode cX10_sum 36 = .ok (.iload_n 1, 1) := by decide +kernel
theorem dX10_sum_37 : decode cX10_sum 37 = .ok (.ifCond .le 47, 3) := by decide +kernel
theorem dX10_sum_40 : decode cX10_sum 40 = .ok (.aload_n 0, 1) := by decide +kernel
theorem dX10_sum_41 : decode cX10_sum 41 = .ok (.invokevirtual 174, 3) := by decide +kernel
theorem dX10_sum_44 : decode cX10_sum 44 = .ok (.aload_n 0, 1) := by decide +kernel
theorem dX10_sum_45 : decode cX10_sum 45 = .ok (.iload_n 1, 1) := by decide +kernel
theorem dX10_sum_46 : decode cX10_sum 46 = .ok (.invokevirtual 164, 3) := by decide +kernel
theorem dX10_sum_49 : decode cX10_sum 49 = .ok (.aload_n 0, 1) := by decide +kernel
theorem dX10_sum_50 : decode cX10_sum 50 = .ok (.bipush 43, 2) := by decide +kernel
theorem dX10_sum_52 : decode cX10_sum 52 = .ok (.invokevirtual 161, 3) := by decide +kernel
theorem dX10_sum_55 : decode cX10_sum 55 = .ok (.ifCond .eq 9, 3) := by decide +kernel
theorem dX10_sum_58 : decode cX10_sum 58 = .ok (.sipush 20005, 3) := by decide +kernel
theorem dX10_sum_61 : decode cX10_sum 61 = .ok (.goto 19, 3) := by decide +kernel
theorem dX10_sum_64 : decode cX10_sum 64 = .ok (.aload_n 0, 1) := by decide +kernel
theorem dX10_sum_65 : decode cX10_sum 65 = .ok (.bipush 45, 2) := by decide +kernel
theorem dX10_sum_67 : decode cX10_sum 67 = .ok (.invokevirtual 161, 3) := by decide +kernel
theorem dX10_sum_70 : decode cX10_sum 70 = .ok (.ifCond .eq 9, 3) := by decide +kernel
theorem dX10_sum_73 : decode cX10_sum 73 = .ok (.sipush 20006, 3) := by decide +kernel
theorem dX10_sum_76 : decode cX10_sum 76 = .ok (.goto 4, 3) := by decide +kernel
theorem dX10_sum_79 : decode cX10_sum 79 = .ok (.iconst 0, 1) := by decide +kernel
theorem dX10_sum_80 : decode cX10_sum 80 = .ok (.istore_n 1, 1) := by decide +kernel
theorem dX10_sum_81 : decode cX10_sum 81 = .ok (.goto (-45), 3) := by decide +kernel
theorem dX10_sum_84 : decode cX10_sum 84 = .ok (.return_, 1) := by decide +kernel
theorem dX10_product_0 : decode cX10_product 0 = .ok (.aload_n 0, 1) := by decide +kernel
theorem dX10_product_1 : decode cX10_product 1 = .ok (.invokevirtual 177, 3) := by decide +kernel
theorem dX10_product_4 : decode cX10_product 4 = .ok (.aload_n 0, 1) := by decide +kernel
theorem dX10_product_5 : decode cX10_product 5 = .ok (.bipush 42, 2) := by decide +kernel
theorem dX10_product_7 : decode cX10_product 7 = .ok (.invokevirtual 161, 3) := by decide +kernel
theorem dX10_product_10 : decode cX10_product 10 = .ok (.ifCond .eq 9, 3) := by decide +kernel
theorem dX10_product_13 : decode cX10_product 13 = .ok (.sipush 20007, 3) := by decide +kernel
theorem dX10_product_16 : decode cX10_product 16 = .ok (.goto 34, 3) := by decide +kernel
theorem dX10_product_19 : decode cX10_product 19 = .ok (.aload_n 0, 1) := by decide +kernel
theorem dX10_product_20 : decode cX10_product 20 = .ok (.bipush 47, 2) := by decide +kernel
theorem dX10_product_22 : decode cX10_product 22 = .ok (.invokevirtual 161, 3) := by decide +kernel
theorem dX10_product_25 : decode cX10_product 25 = .ok (.ifCond .eq 9, 3) := by decide +kernel
theorem dX10_product_28 : decode cX10_product 28 = .ok (.sipush 20008, 3) := by decide +kernel
theorem dX10_product_31 : decode cX10_product 31 = .ok (.goto 19, 3) := by decide +kernel
theorem dX10_product_34 : decode cX10_product 34 = .ok (.aload_n 0, 1) := by decide +kernel
theorem dX10_product_35 : decode cX10_product 35 = .ok (.bipush 37, 2) := by decide +kernel
theorem dX10_product_37 : decode cX10_product 37 = .ok (.invokevirtual 161, 3) := by decide +kernel
theorem dX10_product_40 : decode cX10_product 40 = .ok (.ifCond .eq 9, 3) := by decide +kernel
theorem dX10_product_43 : decode cX10_product 43 = .ok (.sipush 20009, 3) := by decide +kernel
theorem dX10_product_46 : decode cX10_product 46 = .ok (.goto 4, 3) := by decide +kernel
theorem dX10_product_49 : decode cX10_product 49 = .ok (.iconst 0, 1) := by decide +kernel
theorem dX10_product_50 : decode cX10_product 50 = .ok (.istore_n 1, 1) := by decide +kernel
theorem dX10_product_51 : decode cX10_product 51 = .ok (.iload_n 1, 1) := by decide +kernel
theorem dX10_product_52 : decode cX10_product 52 = .ok (.ifCond .le 62, 3) := by decide +kernel
theorem dX10_product_55 : decode cX10_product 55 = .ok (.aload_n 0, 1) := by decide +kernel
theorem dX10_product_56 : decode cX10_product 56 = .ok (.invokevirtual 177, 3) := by decide +kernel
theorem dX10_product_59 : decode cX10_product 59 = .ok (.aload_n 0, 1) := by decide +kernel
theorem dX10_product_60 : decode cX10_product 60 = .ok (.iload_n 1, 1) := by decide +kernel
theorem dX10_product_61 : decode cX10_product 61 = .ok (.invokevirtual 164, 3) := by decide +kernel
theorem dX10_product_64 : decode cX10_product 64 = .ok (.aload_n 0, 1) := by decide +kernel
theorem dX10_product_65 : decode cX10_product 65 = .ok (.bipush 42, 2) := by decide +kernel
theorem dX10_product_67 : decode cX10_product 67 = .ok (.invokevirtual 161, 3) := by decide +kernel
theorem dX10_product_70 : decode cX10_product 70 = .ok (.ifCond .eq 9, 3) := by decide +kernel
theorem dX10_product_73 : decode cX10_product 73 = .ok (.sipush 20007, 3) := by decide +kernel
theorem dX10_product_76 : decode cX10_product 76 = .ok (.goto 34, 3) := by decide +kernel
theorem dX10_product_79 : decode cX10_product 79 = .ok (.aload_n 0, 1) := by decide +kernel
theorem dX10_product_80 : decode cX10_product 80 = .ok (.bipush 47, 2) := by decide +kernel
theorem dX10_product_82 : decode cX10_product 82 = .ok (.invokevirtual 161, 3) := by decide +kernel
theorem dX10_product_85 : decode cX10_product 85 = .ok (.ifCond .eq 9, 3) := by decide +kernel
theorem dX10_product_88 : decode cX10_product 88 = .ok (.sipush 20008, 3) := by decide +kernel
theorem dX10_product_91 : decode cX10_product 91 = .ok (.goto 19, 3) := by decide +kernel
theorem dX10_product_94 : decode cX10_product 94 = .ok (.aload_n 0, 1) := by decide +kernel
theorem dX10_product_95 : decode cX10_product 95 = .ok (.bipush 37, 2) := by decide +kernel
theorem dX10_product_97 : decode cX10_product 97 = .ok (.invokevirtual 161, 3) := by decide +kernel
theorem dX10_product_100 : decode cX10_product 100 = .ok (.ifCond .eq 9, 3) := by decide +kernel
theorem dX10_product_103 : decode cX10_product 103 = .ok (.sipush 20009, 3) := by decide +kernel
theorem dX10_product_106 : decode cX10_product 106 = .ok (.goto 4, 3) := by decide +kernel
theorem dX10_product_109 : decode cX10_product 109 = .ok (.iconst 0, 1) := by decide +kernel
theorem dX10_product_110 : decode cX10_product 110 = .ok (.istore_n 1, 1) := by decide +kernel
theorem dX10_product_111 : decode cX10_product 111 = .ok (.goto (-60), 3) := by decide +kernel
theorem dX10_product_114 : decode cX10_product 114 = .ok (.return_, 1) := by decide +kernel
theorem dX10_nameOf_0 : decode cX10_nameOf 0 = .ok (.iconst (-1), 1) := by decide +kernel
theorem dX10_nameOf_1 : decode cX10_nameOf 1 = .ok (.istore_n 2, 1) := by decide +kernel
theorem dX10_nameOf_2 : decode cX10_nameOf 2 = .ok (.iconst 0, 1) := by decide +kernel
theorem dX10_nameOf_3 : decode cX10_nameOf 3 = .ok (.istore_n 3, 1) := by decide +kernel
theorem dX10_nameOf_4 : decode cX10_nameOf 4 = .ok (.iload_n 3, 1) := by decide +kernel
theorem dX10_nameOf_5 : decode cX10_nameOf 5 = .ok (.aload_n 0, 1) := by decide +kernel
theorem dX10_nameOf_6 : decode cX10_nameOf 6 = .ok (.getfield 31, 3) := by decide +kernel
theorem dX10_nameOf_9 : decode cX10_nameOf 9 = .ok (.aload_n 0, 1) := by decide +kernel
theorem dX10_nameOf_10 : decode cX10_nameOf 10 = .ok (.getfield 180, 3) := by decide +kernel
theorem dX10_nameOf_13 : decode cX10_nameOf 13 = .ok (.aaload, 1) := by decide +kernel
theorem dX10_nameOf_14 : decode cX10_nameOf 14 = .ok (.invokevirtual 183, 3) := by decide +kernel
theorem dX10_nameOf_17 : decode cX10_nameOf 17 = .ok (.if_icmp .ge 32, 3) := by decide +kernel
theorem dX10_nameOf_20 : decode cX10_nameOf 20 = .ok (.aload_n 0, 1) := by decide +kernel
theorem dX10_nameOf_21 : decode cX10_nameOf 21 = .ok (.getfield 31, 3) := by decide +kernel
theorem dX10_nameOf_24 : decode cX10_nameOf 24 = .ok (.aload_n 0, 1) := by decide +kernel
theorem dX10_nameOf_25 : decode cX10_nameOf 25 = .ok (.getfield 180, 3) := by decide +kernel
theorem dX10_nameOf_28 : decode cX10_nameOf 28 = .ok (.aaload, 1) := by decide +kernel
theorem dX10_nameOf_29 : decode cX10_nameOf 29 = .ok (.iload_n 3, 1) := by decide +kernel
theorem dX10_nameOf_30 : decode cX10_nameOf 30 = .ok (.invokevirtual 186, 3) := by decide +kernel
theorem dX10_nameOf_33 : decode cX10_nameOf 33 = .ok (.iload_n 1, 1) := by decide +kernel
theorem dX10_nameOf_34 : decode cX10_nameOf 34 = .ok (.if_icmp .ne 7, 3) := by decide +kernel
theorem dX10_nameOf_37 : decode cX10_nameOf 37 = .ok (.iload_n 3, 1) := by decide +kernel
theorem dX10_nameOf_38 : decode cX10_nameOf 38 = .ok (.goto 4, 3) := by decide +kernel
theorem dX10_nameOf_41 : decode cX10_nameOf 41 = .ok (.iload_n 2, 1) := by decide +kernel
theorem dX10_nameOf_42 : decode cX10_nameOf 42 = .ok (.istore_n 2, 1) := by decide +kernel
theorem dX10_nameOf_43 : decode cX10_nameOf 43 = .ok (.iinc 3 1, 3) := by decide +kernel
theorem dX10_nameOf_46 : decode cX10_nameOf 46 = .ok (.goto (-42), 3) := by decide +kernel
theorem dX10_nameOf_49 : decode cX10_nameOf 49 = .ok (.iload_n 2, 1) := by decide +kernel
theorem dX10_nameOf_50 : decode cX10_nameOf 50 = .ok (.ireturn, 1) := by decide +kernel
theorem dX10_one_0 : decode cX10_one 0 = .ok (.aload_n 0, 1) := by decide +kernel
theorem dX10_one_1 : decode cX10_one 1 = .ok (.invokevirtual 152, 3) := by decide +kernel
theorem dX10_one_4 : decode cX10_one 4 = .ok (.istore_n 1, 1) := by decide +kernel
theorem dX10_one_5 : decode cX10_one 5 = .ok (.iload_n 1, 1) := by decide +kernel
theorem dX10_one_6 : decode cX10_one 6 = .ok (.bipush 33, 2) := by decide +kernel
theorem dX10_one_8 : decode cX10_one 8 = .ok (.if_icmp .eq 9, 3) := by decide +kernel
theorem dX10_one_11 : decode cX10_one 11 = .ok (.iload_n 1, 1) := by decide +kernel
theorem dX10_one_12 : decode cX10_one 12 = .ok (.bipush 40, 2) := by decide +kernel
theorem dX10_one_14 : decode cX10_one 14 = .ok (.if_icmp .ne 102, 3) := by decide +kernel
theorem dX10_one_17 : decode cX10_one 17 = .ok (.aload_n 0, 1) := by decide +kernel
theorem dX10_one_18 : decode cX10_one 18 = .ok (.aload_n 0, 1) := by decide +kernel
theorem dX10_one_19 : decode cX10_one 19 = .ok (.getfield 190, 3) := by decide +kernel
theorem dX10_one_22 : decode cX10_one 22 = .ok (.iconst 5, 1) := by decide +kernel
theorem dX10_one_23 : decode cX10_one 23 = .ok (.if_icmp .ne 7, 3) := by decide +kernel
theorem dX10_one_26 : decode cX10_one 26 = .ok (.iconst 1, 1) := by decide +kernel
theorem dX10_one_27 : decode cX10_one 27 = .ok (.goto 4, 3) := by decide +kernel
theorem dX10_one_30 : decode cX10_one 30 = .ok (.iconst 0, 1) := by decide +kernel
theorem dX10_one_31 : decode cX10_one 31 = .ok (.putfield 144, 3) := by decide +kernel
theorem dX10_one_34 : decode cX10_one 34 = .ok (.aload_n 0, 1) := by decide +kernel
theorem dX10_one_35 : decode cX10_one 35 = .ok (.getfield 144, 3) := by decide +kernel
theorem dX10_one_38 : decode cX10_one 38 = .ok (.ifCond .ne 209, 3) := by decide +kernel
theorem dX10_one_41 : decode cX10_one 41 = .ok (.aload_n 0, 1) := by decide +kernel
theorem dX10_one_42 : decode cX10_one 42 = .ok (.dup, 1) := by decide +kernel
theorem dX10_one_43 : decode cX10_one 43 = .ok (.getfield 190, 3) := by decide +kernel
theorem dX10_one_46 : decode cX10_one 46 = .ok (.iconst 1, 1) := by decide +kernel
theorem dX10_one_47 : decode cX10_one 47 = .ok (.iadd, 1) := by decide +kernel
theorem dX10_one_48 : decode cX10_one 48 = .ok (.putfield 190, 3) := by decide +kernel
theorem dX10_one_51 : decode cX10_one 51 = .ok (.aload_n 0, 1) := by decide +kernel
theorem dX10_one_52 : decode cX10_one 52 = .ok (.dup, 1) := by decide +kernel
theorem dX10_one_53 : decode cX10_one 53 = .ok (.getfield 148, 3) := by decide +kernel
theorem dX10_one_56 : decode cX10_one 56 = .ok (.iconst 1, 1) := by decide +kernel
theorem dX10_one_57 : decode cX10_one 57 = .ok (.iadd, 1) := by decide +kernel
theorem dX10_one_58 : decode cX10_one 58 = .ok (.putfield 148, 3) := by decide +kernel
theorem dX10_one_61 : decode cX10_one 61 = .ok (.iload_n 1, 1) := by decide +kernel
theorem dX10_one_62 : decode cX10_one 62 = .ok (.bipush 33, 2) := by decide +kernel
theorem dX10_one_64 : decode cX10_one 64 = .ok (.if_icmp .ne 17, 3) := by decide +kernel
theorem dX10_one_67 : decode cX10_one 67 = .ok (.aload_n 0, 1) := by decide +kernel
theorem dX10_one_68 : decode cX10_one 68 = .ok (.invokevirtual 177, 3) := by decide +kernel
theorem dX10_one_71 : decode cX10_one 71 = .ok (.aload_n 0, 1) := by decide +kernel
theorem dX10_one_72 : decode cX10_one 72 = .ok (.sipush 20010, 3) := by decide +kernel
theorem dX10_one_75 : decode cX10_one 75 = .ok (.invokevirtual 164, 3) := by decide +kernel
theorem dX10_one_78 : decode cX10_one 78 = .ok (.goto 25, 3) := by decide +kernel
theorem dX10_one_81 : decode cX10_one 81 = .ok (.aload_n 0, 1) := by decide +kernel
theorem dX10_one_82 : decode cX10_one 82 = .ok (.invokevirtual 193, 3) := by decide +kernel
theorem dX10_one_85 : decode cX10_one 85 = .ok (.aload_n 0, 1) := by decide +kernel
theorem dX10_one_86 : decode cX10_one 86 = .ok (.aload_n 0, 1) := by decide +kernel
theorem dX10_one_87 : decode cX10_one 87 = .ok (.bipush 41, 2) := by decide +kernel
theorem dX10_one_89 : decode cX10_one 89 = .ok (.invokevirtual 161, 3) := by decide +kernel
theorem dX10_one_92 : decode cX10_one 92 = .ok (.ifCond .ne 7, 3) := by decide +kernel
theorem dX10_one_95 : decode cX10_one 95 = .ok (.iconst 1, 1) := by decide +kernel
theorem dX10_one_96 : decode cX10_one 96 = .ok (.goto 4, 3) := by decide +kernel
theorem dX10_one_99 : decode cX10_one 99 = .ok (.iconst 0, 1) := by decide +kernel
theorem dX10_one_100 : decode cX10_one 100 = .ok (.putfield 144, 3) := by decide +kernel
theorem dX10_one_103 : decode cX10_one 103 = .ok (.aload_n 0, 1) := by decide +kernel
theorem dX10_one_104 : decode cX10_one 104 = .ok (.dup, 1) := by decide +kernel
theorem dX10_one_105 : decode cX10_one 105 = .ok (.getfield 190, 3) := by decide +kernel
theorem dX10_one_108 : decode cX10_one 108 = .ok (.iconst 1, 1) := by decide +kernel
theorem dX10_one_109 : decode cX10_one 109 = .ok (.isub, 1) := by decide +kernel
theorem dX10_one_110 : decode cX10_one 110 = .ok (.putfield 190, 3) := by decide +kernel
theorem dX10_one_113 : decode cX10_one 113 = .ok (.goto 134, 3) := by decide +kernel
theorem dX10_one_116 : decode cX10_one 116 = .ok (.iload_n 1, 1) := by decide +kernel
theorem dX10_one_117 : decode cX10_one 117 = .ok (.bipush 48, 2) := by decide +kernel
theorem dX10_one_119 : decode cX10_one 119 = .ok (.bipush 57, 2) := by decide +kernel
theorem dX10_one_121 : decode cX10_one 121 = .ok (.invokestatic 72, 3) := by decide +kernel
theorem dX10_one_124 : decode cX10_one 124 = .ok (.ifCond .eq 63, 3) := by decide +kernel
theorem dX10_one_127 : decode cX10_one 127 = .ok (.iconst 0, 1) := by decide +kernel
theorem dX10_one_128 : decode cX10_one 128 = .ok (.istore_n 2, 1) := by decide +kernel
theorem dX10_one_129 : decode cX10_one 129 = .ok (.iconst 0, 1) := by decide +kernel
theorem dX10_one_130 : decode cX10_one 130 = .ok (.istore_n 3, 1) := by decide +kernel
theorem dX10_one_131 : decode cX10_one 131 = .ok (.iload_n 3, 1) := by decide +kernel
theorem dX10_one_132 : decode cX10_one 132 = .ok (.iconst 4, 1) := by decide +kernel
theorem dX10_one_133 : decode cX10_one 133 = .ok (.if_icmp .ge 46, 3) := by decide +kernel
theorem dX10_one_136 : decode cX10_one 136 = .ok (.aload_n 0, 1) := by decide +kernel
theorem dX10_one_137 : decode cX10_one 137 = .ok (.invokevirtual 152, 3) := by decide +kernel
theorem dX10_one_140 : decode cX10_one 140 = .ok (.bipush 48, 2) := by decide +kernel
theorem dX10_one_142 : decode cX10_one 142 = .ok (.bipush 57, 2) := by decide +kernel
theorem dX10_one_144 : decode cX10_one 144 = .ok (.invokestatic 72, 3) := by decide +kernel
theorem dX10_one_147 : decode cX10_one 147 = .ok (.ifCond .eq 32, 3) := by decide +kernel
theorem dX10_one_150 : decode cX10_one 150 = .ok (.bipush 10, 2) := by decide +kernel
theorem dX10_one_152 : decode cX10_one 152 = .ok (.iload_n 2, 1) := by decide +kernel
theorem dX10_one_153 : decode cX10_one 153 = .ok (.imul, 1) := by decide +kernel
theorem dX10_one_154 : decode cX10_one 154 = .ok (.aload_n 0, 1) := by decide +kernel
theorem dX10_one_155 : decode cX10_one 155 = .ok (.invokevirtual 152, 3) := by decide +kernel
theorem dX10_one_158 : decode cX10_one 158 = .ok (.iadd, 1) := by decide +kernel
theorem dX10_one_159 : decode cX10_one 159 = .ok (.bipush 48, 2) := by decide +kernel
theorem dX10_one_161 : decode cX10_one 161 = .ok (.isub, 1) := by decide +kernel
theorem dX10_one_162 : decode cX10_one 162 = .ok (.istore_n 2, 1) := by decide +kernel
theorem dX10_one_163 : decode cX10_one 163 = .ok (.aload_n 0, 1) := by decide +kernel
theorem dX10_one_164 : decode cX10_one 164 = .ok (.dup, 1) := by decide +kernel
theorem dX10_one_165 : decode cX10_one 165 = .ok (.getfield 148, 3) := by decide +kernel
theorem dX10_one_168 : decode cX10_one 168 = .ok (.iconst 1, 1) := by decide +kernel
theorem dX10_one_169 : decode cX10_one 169 = .ok (.iadd, 1) := by decide +kernel
theorem dX10_one_170 : decode cX10_one 170 = .ok (.putfield 148, 3) := by decide +kernel
theorem dX10_one_173 : decode cX10_one 173 = .ok (.iinc 3 1, 3) := by decide +kernel
theorem dX10_one_176 : decode cX10_one 176 = .ok (.goto (-45), 3) := by decide +kernel
theorem dX10_one_179 : decode cX10_one 179 = .ok (.aload_n 0, 1) := by decide +kernel
theorem dX10_one_180 : decode cX10_one 180 = .ok (.iload_n 2, 1) := by decide +kernel
theorem dX10_one_181 : decode cX10_one 181 = .ok (.invokevirtual 164, 3) := by decide +kernel
theorem dX10_one_184 : decode cX10_one 184 = .ok (.goto 63, 3) := by decide +kernel
theorem dX10_one_187 : decode cX10_one 187 = .ok (.iload_n 1, 1) := by decide +kernel
theorem dX10_one_188 : decode cX10_one 188 = .ok (.ifCond .ge 7, 3) := by decide +kernel
theorem dX10_one_191 : decode cX10_one 191 = .ok (.iconst (-1), 1) := by decide +kernel
theorem dX10_one_192 : decode cX10_one 192 = .ok (.goto 8, 3) := by decide +kernel
theorem dX10_one_195 : decode cX10_one 195 = .ok (.aload_n 0, 1) := by decide +kernel
theorem dX10_one_196 : decode cX10_one 196 = .ok (.iload_n 1, 1) := by decide +kernel
theorem dX10_one_197 : decode cX10_one 197 = .ok (.invokevirtual 196, 3) := by decide +kernel
theorem dX10_one_200 : decode cX10_one 200 = .ok (.istore_n 2, 1) := by decide +kernel
theorem dX10_one_201 : decode cX10_one 201 = .ok (.aload_n 0, 1) := by decide +kernel
theorem dX10_one_202 : decode cX10_one 202 = .ok (.aload_n 0, 1) := by decide +kernel
theorem dX10_one_203 : decode cX10_one 203 = .ok (.getfield 144, 3) := by decide +kernel
theorem dX10_one_206 : decode cX10_one 206 = .ok (.ifCond .ne 7, 3) := by decide +kernel
theorem dX10_one_209 : decode cX10_one 209 = .ok (.iload_n 2, 1) := by decide +kernel
theorem dX10_one_210 : decode cX10_one 210 = .ok (.ifCond .ge 7, 3) := by decide +kernel
theorem dX10_one_213 : decode cX10_one 213 = .ok (.iconst 1, 1) := by decide +kernel
theorem dX10_one_214 : decode cX10_one 214 = .ok (.goto 4, 3) := by decide +kernel
theorem dX10_one_217 : decode cX10_one 217 = .ok (.iconst 0, 1) := by decide +kernel
theorem dX10_one_218 : decode cX10_one 218 = .ok (.putfield 144, 3) := by decide +kernel
theorem dX10_one_221 : decode cX10_one 221 = .ok (.aload_n 0, 1) := by decide +kernel
theorem dX10_one_222 : decode cX10_one 222 = .ok (.getfield 144, 3) := by decide +kernel
theorem dX10_one_225 : decode cX10_one 225 = .ok (.ifCond .ne 22, 3) := by decide +kernel
theorem dX10_one_228 : decode cX10_one 228 = .ok (.aload_n 0, 1) := by decide +kernel
theorem dX10_one_229 : decode cX10_one 229 = .ok (.sipush 10000, 3) := by decide +kernel
theorem dX10_one_232 : decode cX10_one 232 = .ok (.iload_n 2, 1) := by decide +kernel
theorem dX10_one_233 : decode cX10_one 233 = .ok (.iadd, 1) := by decide +kernel
theorem dX10_one_234 : decode cX10_one 234 = .ok (.invokevirtual 164, 3) := by decide +kernel
theorem dX10_one_237 : decode cX10_one 237 = .ok (.aload_n 0, 1) := by decide +kernel
theorem dX10_one_238 : decode cX10_one 238 = .ok (.dup, 1) := by decide +kernel
theorem dX10_one_239 : decode cX10_one 239 = .ok (.getfield 148, 3) := by decide +kernel
theorem dX10_one_242 : decode cX10_one 242 = .ok (.iconst 1, 1) := by decide +kernel
theorem dX10_one_243 : decode cX10_one 243 = .ok (.iadd, 1) := by decide +kernel
theorem dX10_one_244 : decode cX10_one 244 = .ok (.putfield 148, 3) := by decide +kernel
theorem dX10_one_247 : decode cX10_one 247 = .ok (.return_, 1) := by decide +kernel
theorem dX10_text_0 : decode cX10_text 0 = .ok (.iload_n 1, 1) := by decide +kernel
theorem dX10_text_1 : decode cX10_text 1 = .ok (.iconst 0, 1) := by decide +kernel
theorem dX10_text_2 : decode cX10_text 2 = .ok (.iconst 1, 1) := by decide +kernel
theorem dX10_text_3 : decode cX10_text 3 = .ok (.invokestatic 72, 3) := by decide +kernel
theorem dX10_text_6 : decode cX10_text 6 = .ok (.ifCond .ne 10, 3) := by decide +kernel
theorem dX10_text_9 : decode cX10_text 9 = .ok (.aload_n 0, 1) := by decide +kernel
theorem dX10_text_10 : decode cX10_text 10 = .ok (.ldc 83, 2) := by decide +kernel
theorem dX10_text_12 : decode cX10_text 12 = .ok (.invokevirtual 84, 3) := by decide +kernel
theorem dX10_text_15 : decode cX10_text 15 = .ok (.ireturn, 1) := by decide +kernel
theorem dX10_text_16 : decode cX10_text 16 = .ok (.aload_n 0, 1) := by decide +kernel
theorem dX10_text_17 : decode cX10_text 17 = .ok (.iload_n 1, 1) := by decide +kernel
theorem dX10_text_18 : decode cX10_text 18 = .ok (.putfield 180, 3) := by decide +kernel
theorem dX10_text_21 : decode cX10_text 21 = .ok (.aload_n 0, 1) := by decide +kernel
theorem dX10_text_22 : decode cX10_text 22 = .ok (.iconst 0, 1) := by decide +kernel
theorem dX10_text_23 : decode cX10_text 23 = .ok (.putfield 148, 3) := by decide +kernel
theorem dX10_text_26 : decode cX10_text 26 = .ok (.aload_n 0, 1) := by decide +kernel
theorem dX10_text_27 : decode cX10_text 27 = .ok (.iconst 0, 1) := by decide +kernel
theorem dX10_text_28 : decode cX10_text 28 = .ok (.putfield 190, 3) := by decide +kernel
theorem dX10_text_31 : decode cX10_text 31 = .ok (.aload_n 0, 1) := by decide +kernel
theorem dX10_text_32 : decode cX10_text 32 = .ok (.iconst 0, 1) := by decide +kernel
theorem dX10_text_33 : decode cX10_text 33 = .ok (.putfield 144, 3) := by decide +kernel
theorem dX10_text_36 : decode cX10_text 36 = .ok (.aload_n 0, 1) := by decide +kernel
theorem dX10_text_37 : decode cX10_text 37 = .ok (.iconst 0, 1) := by decide +kernel
theorem dX10_text_38 : decode cX10_text 38 = .ok (.putfield 155, 3) := by decide +kernel
theorem dX10_text_41 : decode cX10_text 41 = .ok (.aload_n 0, 1) := by decide +kernel
theorem dX10_text_42 : decode cX10_text 42 = .ok (.invokevirtual 193, 3) := by decide +kernel
theorem dX10_text_45 : decode cX10_text 45 = .ok (.aload_n 0, 1) := by decide +kernel
theorem dX10_text_46 : decode cX10_text 46 = .ok (.aload_n 0, 1) := by decide +kernel
theorem dX10_text_47 : decode cX10_text 47 = .ok (.getfield 144, 3) := by decide +kernel
theorem dX10_text_50 : decode cX10_text 50 = .ok (.ifCond .ne 17, 3) := by decide +kernel
theorem dX10_text_53 : decode cX10_text 53 = .ok (.aload_n 0, 1) := by decide +kernel
theorem dX10_text_54 : decode cX10_text 54 = .ok (.getfield 148, 3) := by decide +kernel
theorem dX10_text_57 : decode cX10_text 57 = .ok (.aload_n 0, 1) := by decide +kernel
theorem dX10_text_58 : decode cX10_text 58 = .ok (.getfield 9, 3) := by decide +kernel
theorem dX10_text_61 : decode cX10_text 61 = .ok (.bipush 9, 2) := by decide +kernel
theorem dX10_text_63 : decode cX10_text 63 = .ok (.iaload, 1) := by decide +kernel
theorem dX10_text_64 : decode cX10_text 64 = .ok (.if_icmp .ge 7, 3) := by decide +kernel
theorem dX10_text_67 : decode cX10_text 67 = .ok (.iconst 1, 1) := by decide +kernel
theorem dX10_text_68 : decode cX10_text 68 = .ok (.goto 4, 3) := by decide +kernel
theorem dX10_text_71 : decode cX10_text 71 = .ok (.iconst 0, 1) := by decide +kernel
theorem dX10_text_72 : decode cX10_text 72 = .ok (.putfield 144, 3) := by decide +kernel
theorem dX10_text_75 : decode cX10_text 75 = .ok (.aload_n 0, 1) := by decide +kernel
theorem dX10_text_76 : decode cX10_text 76 = .ok (.getfield 9, 3) := by decide +kernel
theorem dX10_text_79 : decode cX10_text 79 = .ok (.bipush 9, 2) := by decide +kernel
theorem dX10_text_81 : decode cX10_text 81 = .ok (.iconst 0, 1) := by decide +kernel
theorem dX10_text_82 : decode cX10_text 82 = .ok (.iastore, 1) := by decide +kernel
theorem dX10_text_83 : decode cX10_text 83 = .ok (.aload_n 0, 1) := by decide +kernel
theorem dX10_text_84 : decode cX10_text 84 = .ok (.getfield 144, 3) := by decide +kernel
theorem dX10_text_87 : decode cX10_text 87 = .ok (.ifCond .eq 11, 3) := by decide +kernel
theorem dX10_text_90 : decode cX10_text 90 = .ok (.bipush (-10), 2) := by decide +kernel
theorem dX10_text_92 : decode cX10_text 92 = .ok (.aload_n 0, 1) := by decide +kernel
theorem dX10_text_93 : decode cX10_text 93 = .ok (.getfield 148, 3) := by decide +kernel
theorem dX10_text_96 : decode cX10_text 96 = .ok (.isub, 1) := by decide +kernel
theorem dX10_text_97 : decode cX10_text 97 = .ok (.ireturn, 1) := by decide +kernel
theorem dX10_text_98 : decode cX10_text 98 = .ok (.aload_n 0, 1) := by decide +kernel
theorem dX10_text_99 : decode cX10_text 99 = .ok (.getfield 9, 3) := by decide +kernel
theorem dX10_text_102 : decode cX10_text 102 = .ok (.sipush 136, 3) := by decide +kernel
theorem dX10_text_105 : decode cX10_text 105 = .ok (.bipush 52, 2) := by decide +kernel
theorem dX10_text_107 : decode cX10_text 107 = .ok (.aload_n 0, 1) := by decide +kernel
theorem dX10_text_108 : decode cX10_text 108 = .ok (.getfield 180, 3) := by decide +kernel
theorem dX10_text_111 : decode cX10_text 111 = .ok (.imul, 1) := by decide +kernel
theorem dX10_text_112 : decode cX10_text 112 = .ok (.iadd, 1) := by decide +kernel
theorem dX10_text_113 : decode cX10_text 113 = .ok (.aload_n 0, 1) := by decide +kernel
theorem dX10_text_114 : decode cX10_text 114 = .ok (.getfield 155, 3) := by decide +kernel
theorem dX10_text_117 : decode cX10_text 117 = .ok (.iastore, 1) := by decide +kernel
theorem dX10_text_118 : decode cX10_text 118 = .ok (.iconst 0, 1) := by decide +kernel
theorem dX10_text_119 : decode cX10_text 119 = .ok (.istore_n 2, 1) := by decide +kernel
theorem dX10_text_120 : decode cX10_text 120 = .ok (.iload_n 2, 1) := by decide +kernel
theorem dX10_text_121 : decode cX10_text 121 = .ok (.aload_n 0, 1) := by decide +kernel
theorem dX10_text_122 : decode cX10_text 122 = .ok (.getfield 155, 3) := by decide +kernel
theorem dX10_text_125 : decode cX10_text 125 = .ok (.if_icmp .ge 35, 3) := by decide +kernel
theorem dX10_text_128 : decode cX10_text 128 = .ok (.aload_n 0, 1) := by decide +kernel
theorem dX10_text_129 : decode cX10_text 129 = .ok (.getfield 9, 3) := by decide +kernel
theorem dX10_text_132 : decode cX10_text 132 = .ok (.sipush 136, 3) := by decide +kernel
theorem dX10_text_135 : decode cX10_text 135 = .ok (.bipush 52, 2) := by decide +kernel
theorem dX10_text_137 : decode cX10_text 137 = .ok (.aload_n 0, 1) := by decide +kernel
theorem dX10_text_138 : decode cX10_text 138 = .ok (.getfield 180, 3) := by decide +kernel
theorem dX10_text_141 : decode cX10_text 141 = .ok (.imul, 1) := by decide +kernel
theorem dX10_text_142 : decode cX10_text 142 = .ok (.iadd, 1) := by decide +kernel
theorem dX10_text_143 : decode cX10_text 143 = .ok (.iconst 1, 1) := by decide +kernel
theorem dX10_text_144 : decode cX10_text 144 = .ok (.iadd, 1) := by decide +kernel
theorem dX10_text_145 : decode cX10_text 145 = .ok (.iload_n 2, 1) := by decide +kernel
theorem dX10_text_146 : decode cX10_text 146 = .ok (.iadd, 1) := by decide +kernel
theorem dX10_text_147 : decode cX10_text 147 = .ok (.aload_n 0, 1) := by decide +kernel
theorem dX10_text_148 : decode cX10_text 148 = .ok (.getfield 35, 3) := by decide +kernel
theorem dX10_text_151 : decode cX10_text 151 = .ok (.iload_n 2, 1) := by decide +kernel
theorem dX10_text_152 : decode cX10_text 152 = .ok (.iaload, 1) := by decide +kernel
theorem dX10_text_153 : decode cX10_text 153 = .ok (.iastore, 1) := by decide +kernel
theorem dX10_text_154 : decode cX10_text 154 = .ok (.iinc 2 1, 3) := by decide +kernel
theorem dX10_text_157 : decode cX10_text 157 = .ok (.goto (-37), 3) := by decide +kernel
theorem dX10_text_160 : decode cX10_text 160 = .ok (.aload_n 0, 1) := by decide +kernel
theorem dX10_text_161 : decode cX10_text 161 = .ok (.invokevirtual 199, 3) := by decide +kernel
theorem dX10_text_164 : decode cX10_text 164 = .ok (.iconst 1, 1) := by decide +kernel
theorem dX10_text_165 : decode cX10_text 165 = .ok (.ireturn, 1) := by decide +kernel
theorem dX10_done_0 : decode cX10_done 0 = .ok (.iload_n 0, 1) := by decide +kernel
theorem dX10_done_1 : decode cX10_done 1 = .ok (.tableswitch 136 20000 20008 #[51, 65, 79, 90, 101, 112, 116, 120, 124], 51) := by decide +kernel
theorem dX10_done_52 : decode cX10_done 52 = .ok (.iload_n 1, 1) := by decide +kernel
theorem dX10_done_53 : decode cX10_done 53 = .ok (.ifCond .ne 7, 3) := by decide +kernel
theorem dX10_done_56 : decode cX10_done 56 = .ok (.iload_n 2, 1) := by decide +kernel
theorem dX10_done_57 : decode cX10_done 57 = .ok (.ifCond .eq 7, 3) := by decide +kernel
theorem dX10_done_60 : decode cX10_done 60 = .ok (.iconst 1, 1) := by decide +kernel
theorem dX10_done_61 : decode cX10_done 61 = .ok (.goto 4, 3) := by decide +kernel
theorem dX10_done_64 : decode cX10_done 64 = .ok (.iconst 0, 1) := by decide +kernel
theorem dX10_done_65 : decode cX10_done 65 = .ok (.ireturn, 1) := by decide +kernel
theorem dX10_done_66 : decode cX10_done 66 = .ok (.iload_n 1, 1) := by decide +kernel
theorem dX10_done_67 : decode cX10_done 67 = .ok (.ifCond .eq 11, 3) := by decide +kernel
theorem dX10_done_70 : decode cX10_done 70 = .ok (.iload_n 2, 1) := by decide +kernel
theorem dX10_done_71 : decode cX10_done 71 = .ok (.ifCond .eq 7, 3) := by decide +kernel
theorem dX10_done_74 : decode cX10_done 74 = .ok (.iconst 1, 1) := by decide +kernel
theorem dX10_done_75 : decode cX10_done 75 = .ok (.goto 4, 3) := by decide +kernel
theorem dX10_done_78 : decode cX10_done 78 = .ok (.iconst 0, 1) := by decide +kernel
theorem dX10_done_79 : decode cX10_done 79 = .ok (.ireturn, 1) := by decide +kernel
theorem dX10_done_80 : decode cX10_done 80 = .ok (.iload_n 1, 1) := by decide +kernel
theorem dX10_done_81 : decode cX10_done 81 = .ok (.iload_n 2, 1) := by decide +kernel
theorem dX10_done_82 : decode cX10_done 82 = .ok (.if_icmp .ge 7, 3) := by decide +kernel
theorem dX10_done_85 : decode cX10_done 85 = .ok (.iconst 1, 1) := by decide +kernel
theorem dX10_done_86 : decode cX10_done 86 = .ok (.goto 4, 3) := by decide +kernel
theorem dX10_done_89 : decode cX10_done 89 = .ok (.iconst 0, 1) := by decide +kernel
theorem dX10_done_90 : decode cX10_done 90 = .ok (.ireturn, 1) := by decide +kernel
theorem dX10_done_91 : decode cX10_done 91 = .ok (.iload_n 1, 1) := by decide +kernel
theorem dX10_done_92 : decode cX10_done 92 = .ok (.iload_n 2, 1) := by decide +kernel
theorem dX10_done_93 : decode cX10_done 93 = .ok (.if_icmp .ne 7, 3) := by decide +kernel
theorem dX10_done_96 : decode cX10_done 96 = .ok (.iconst 1, 1) := by decide +kernel
theorem dX10_done_97 : decode cX10_done 97 = .ok (.goto 4, 3) := by decide +kernel
theorem dX10_done_100 : decode cX10_done 100 = .ok (.iconst 0, 1) := by decide +kernel
theorem dX10_done_101 : decode cX10_done 101 = .ok (.ireturn, 1) := by decide +kernel
theorem dX10_done_102 : decode cX10_done 102 = .ok (.iload_n 1, 1) := by decide +kernel
theorem dX10_done_103 : decode cX10_done 103 = .ok (.iload_n 2, 1) := by decide +kernel
theorem dX10_done_104 : decode cX10_done 104 = .ok (.if_icmp .le 7, 3) := by decide +kernel
theorem dX10_done_107 : decode cX10_done 107 = .ok (.iconst 1, 1) := by decide +kernel
theorem dX10_done_108 : decode cX10_done 108 = .ok (.goto 4, 3) := by decide +kernel
theorem dX10_done_111 : decode cX10_done 111 = .ok (.iconst 0, 1) := by decide +kernel
theorem dX10_done_112 : decode cX10_done 112 = .ok (.ireturn, 1) := by decide +kernel
theorem dX10_done_113 : decode cX10_done 113 = .ok (.iload_n 1, 1) := by decide +kernel
theorem dX10_done_114 : decode cX10_done 114 = .ok (.iload_n 2, 1) := by decide +kernel
theorem dX10_done_115 : decode cX10_done 115 = .ok (.iadd, 1) := by decide +kernel
theorem dX10_done_116 : decode cX10_done 116 = .ok (.ireturn, 1) := by decide +kernel
theorem dX10_done_117 : decode cX10_done 117 = .ok (.iload_n 1, 1) := by decide +kernel
theorem dX10_done_118 : decode cX10_done 118 = .ok (.iload_n 2, 1) := by decide +kernel
theorem dX10_done_119 : decode cX10_done 119 = .ok (.isub, 1) := by decide +kernel
theorem dX10_done_120 : decode cX10_done 120 = .ok (.ireturn, 1) := by decide +kernel
theorem dX10_done_121 : decode cX10_done 121 = .ok (.iload_n 1, 1) := by decide +kernel
theorem dX10_done_122 : decode cX10_done 122 = .ok (.iload_n 2, 1) := by decide +kernel
theorem dX10_done_123 : decode cX10_done 123 = .ok (.imul, 1) := by decide +kernel
theorem dX10_done_124 : decode cX10_done 124 = .ok (.ireturn, 1) := by decide +kernel
theorem dX10_done_125 : decode cX10_done 125 = .ok (.iload_n 2, 1) := by decide +kernel
theorem dX10_done_126 : decode cX10_done 126 = .ok (.ifCond .ne 7, 3) := by decide +kernel
theorem dX10_done_129 : decode cX10_done 129 = .ok (.iconst 0, 1) := by decide +kernel
theorem dX10_done_130 : decode cX10_done 130 = .ok (.goto 6, 3) := by decide +kernel
theorem dX10_done_133 : decode cX10_done 133 = .ok (.iload_n 1, 1) := by decide +kernel
theorem dX10_done_134 : decode cX10_done 134 = .ok (.iload_n 2, 1) := by decide +kernel
theorem dX10_done_135 : decode cX10_done 135 = .ok (.idiv, 1) := by decide +kernel
theorem dX10_done_136 : decode cX10_done 136 = .ok (.ireturn, 1) := by decide +kernel
theorem dX10_done_137 : decode cX10_done 137 = .ok (.iload_n 2, 1) := by decide +kernel
theorem dX10_done_138 : decode cX10_done 138 = .ok (.ifCond .ne 7, 3) := by decide +kernel
theorem dX10_done_141 : decode cX10_done 141 = .ok (.iconst 0, 1) := by decide +kernel
theorem dX10_done_142 : decode cX10_done 142 = .ok (.goto 6, 3) := by decide +kernel
theorem dX10_done_145 : decode cX10_done 145 = .ok (.iload_n 1, 1) := by decide +kernel
theorem dX10_done_146 : decode cX10_done 146 = .ok (.iload_n 2, 1) := by decide +kernel
theorem dX10_done_147 : decode cX10_done 147 = .ok (.irem, 1) := by decide +kernel
theorem dX10_done_148 : decode cX10_done 148 = .ok (.ireturn, 1) := by decide +kernel
theorem dX10_worked_0 : decode cX10_worked 0 = .ok (.iconst 0, 1) := by decide +kernel
theorem dX10_worked_1 : decode cX10_worked 1 = .ok (.istore_n 2, 1) := by decide +kernel
theorem dX10_worked_2 : decode cX10_worked 2 = .ok (.iload_n 1, 1) := by decide +kernel
theorem dX10_worked_3 : decode cX10_worked 3 = .ok (.istore_n 3, 1) := by decide +kernel
theorem dX10_worked_4 : decode cX10_worked 4 = .ok (.iload_n 3, 1) := by decide +kernel
theorem dX10_worked_5 : decode cX10_worked 5 = .ok (.iload_n 1, 1) := by decide +kernel
theorem dX10_worked_6 : decode cX10_worked 6 = .ok (.aload_n 0, 1) := by decide +kernel
theorem dX10_worked_7 : decode cX10_worked 7 = .ok (.getfield 9, 3) := by decide +kernel
theorem dX10_worked_10 : decode cX10_worked 10 = .ok (.iload_n 1, 1) := by decide +kernel
theorem dX10_worked_11 : decode cX10_worked 11 = .ok (.iconst 1, 1) := by decide +kernel
theorem dX10_worked_12 : decode cX10_worked 12 = .ok (.isub, 1) := by decide +kernel
theorem dX10_worked_13 : decode cX10_worked 13 = .ok (.iaload, 1) := by decide +kernel
theorem dX10_worked_14 : decode cX10_worked 14 = .ok (.iadd, 1) := by decide +kernel
theorem dX10_worked_15 : decode cX10_worked 15 = .ok (.if_icmp .ge 126, 3) := by decide +kernel
theorem dX10_worked_18 : decode cX10_worked 18 = .ok (.aload_n 0, 1) := by decide +kernel
theorem dX10_worked_19 : decode cX10_worked 19 = .ok (.getfield 9, 3) := by decide +kernel
theorem dX10_worked_22 : decode cX10_worked 22 = .ok (.iload_n 3, 1) := by decide +kernel
theorem dX10_worked_23 : decode cX10_worked 23 = .ok (.iaload, 1) := by decide +kernel
theorem dX10_worked_24 : decode cX10_worked 24 = .ok (.istore 4, 2) := by decide +kernel
theorem dX10_worked_26 : decode cX10_worked 26 = .ok (.iload 4, 2) := by decide +kernel
theorem dX10_worked_28 : decode cX10_worked 28 = .ok (.sipush 20000, 3) := by decide +kernel
theorem dX10_worked_31 : decode cX10_worked 31 = .ok (.if_icmp .ge 39, 3) := by decide +kernel
theorem dX10_worked_34 : decode cX10_worked 34 = .ok (.aload_n 0, 1) := by decide +kernel
theorem dX10_worked_35 : decode cX10_worked 35 = .ok (.getfield 41, 3) := by decide +kernel
theorem dX10_worked_38 : decode cX10_worked 38 = .ok (.iload_n 2, 1) := by decide +kernel
theorem dX10_worked_39 : decode cX10_worked 39 = .ok (.iload 4, 2) := by decide +kernel
theorem dX10_worked_41 : decode cX10_worked 41 = .ok (.sipush 10000, 3) := by decide +kernel
theorem dX10_worked_44 : decode cX10_worked 44 = .ok (.if_icmp .ge 8, 3) := by decide +kernel
theorem dX10_worked_47 : decode cX10_worked 47 = .ok (.iload 4, 2) := by decide +kernel
theorem dX10_worked_49 : decode cX10_worked 49 = .ok (.goto 14, 3) := by decide +kernel
theorem dX10_worked_52 : decode cX10_worked 52 = .ok (.aload_n 0, 1) := by decide +kernel
theorem dX10_worked_53 : decode cX10_worked 53 = .ok (.getfield 38, 3) := by decide +kernel
theorem dX10_worked_56 : decode cX10_worked 56 = .ok (.iload 4, 2) := by decide +kernel
theorem dX10_worked_58 : decode cX10_worked 58 = .ok (.sipush 10000, 3) := by decide +kernel
theorem dX10_worked_61 : decode cX10_worked 61 = .ok (.isub, 1) := by decide +kernel
theorem dX10_worked_62 : decode cX10_worked 62 = .ok (.iaload, 1) := by decide +kernel
theorem dX10_worked_63 : decode cX10_worked 63 = .ok (.iastore, 1) := by decide +kernel
theorem dX10_worked_64 : decode cX10_worked 64 = .ok (.iinc 2 1, 3) := by decide +kernel
theorem dX10_worked_67 : decode cX10_worked 67 = .ok (.goto 68, 3) := by decide +kernel
theorem dX10_worked_70 : decode cX10_worked 70 = .ok (.iload 4, 2) := by decide +kernel
theorem dX10_worked_72 : decode cX10_worked 72 = .ok (.sipush 20010, 3) := by decide +kernel
theorem dX10_worked_75 : decode cX10_worked 75 = .ok (.if_icmp .ne 30, 3) := by decide +kernel
theorem dX10_worked_78 : decode cX10_worked 78 = .ok (.aload_n 0, 1) := by decide +kernel
theorem dX10_worked_79 : decode cX10_worked 79 = .ok (.getfield 41, 3) := by decide +kernel
theorem dX10_worked_82 : decode cX10_worked 82 = .ok (.iload_n 2, 1) := by decide +kernel
theorem dX10_worked_83 : decode cX10_worked 83 = .ok (.iconst 1, 1) := by decide +kernel
theorem dX10_worked_84 : decode cX10_worked 84 = .ok (.isub, 1) := by decide +kernel
theorem dX10_worked_85 : decode cX10_worked 85 = .ok (.aload_n 0, 1) := by decide +kernel
theorem dX10_worked_86 : decode cX10_worked 86 = .ok (.getfield 41, 3) := by decide +kernel
theorem dX10_worked_89 : decode cX10_worked 89 = .ok (.iload_n 2, 1) := by decide +kernel
theorem dX10_worked_90 : decode cX10_worked 90 = .ok (.iconst 1, 1) := by decide +kernel
theorem dX10_worked_91 : decode cX10_worked 91 = .ok (.isub, 1) := by decide +kernel
theorem dX10_worked_92 : decode cX10_worked 92 = .ok (.iaload, 1) := by decide +kernel
theorem dX10_worked_93 : decode cX10_worked 93 = .ok (.ifCond .ne 7, 3) := by decide +kernel
theorem dX10_worked_96 : decode cX10_worked 96 = .ok (.iconst 1, 1) := by decide +kernel
theorem dX10_worked_97 : decode cX10_worked 97 = .ok (.goto 4, 3) := by decide +kernel
theorem dX10_worked_100 : decode cX10_worked 100 = .ok (.iconst 0, 1) := by decide +kernel
theorem dX10_worked_101 : decode cX10_worked 101 = .ok (.iastore, 1) := by decide +kernel
theorem dX10_worked_102 : decode cX10_worked 102 = .ok (.goto 33, 3) := by decide +kernel
theorem dX10_worked_105 : decode cX10_worked 105 = .ok (.iinc 2 (-1), 3) := by decide +kernel
theorem dX10_worked_108 : decode cX10_worked 108 = .ok (.aload_n 0, 1) := by decide +kernel
theorem dX10_worked_109 : decode cX10_worked 109 = .ok (.getfield 41, 3) := by decide +kernel
theorem dX10_worked_112 : decode cX10_worked 112 = .ok (.iload_n 2, 1) := by decide +kernel
theorem dX10_worked_113 : decode cX10_worked 113 = .ok (.iconst 1, 1) := by decide +kernel
theorem dX10_worked_114 : decode cX10_worked 114 = .ok (.isub, 1) := by decide +kernel
theorem dX10_worked_115 : decode cX10_worked 115 = .ok (.iload 4, 2) := by decide +kernel
theorem dX10_worked_117 : decode cX10_worked 117 = .ok (.aload_n 0, 1) := by decide +kernel
theorem dX10_worked_118 : decode cX10_worked 118 = .ok (.getfield 41, 3) := by decide +kernel
theorem dX10_worked_121 : decode cX10_worked 121 = .ok (.iload_n 2, 1) := by decide +kernel
theorem dX10_worked_122 : decode cX10_worked 122 = .ok (.iconst 1, 1) := by decide +kernel
theorem dX10_worked_123 : decode cX10_worked 123 = .ok (.isub, 1) := by decide +kernel
theorem dX10_worked_124 : decode cX10_worked 124 = .ok (.iaload, 1) := by decide +kernel
theorem dX10_worked_125 : decode cX10_worked 125 = .ok (.aload_n 0, 1) := by decide +kernel
theorem dX10_worked_126 : decode cX10_worked 126 = .ok (.getfield 41, 3) := by decide +kernel
theorem dX10_worked_129 : decode cX10_worked 129 = .ok (.iload_n 2, 1) := by decide +kernel
theorem dX10_worked_130 : decode cX10_worked 130 = .ok (.iaload, 1) := by decide +kernel
theorem dX10_worked_131 : decode cX10_worked 131 = .ok (.invokestatic 202, 3) := by decide +kernel
theorem dX10_worked_134 : decode cX10_worked 134 = .ok (.iastore, 1) := by decide +kernel
theorem dX10_worked_135 : decode cX10_worked 135 = .ok (.iinc 3 1, 3) := by decide +kernel
theorem dX10_worked_138 : decode cX10_worked 138 = .ok (.goto (-134), 3) := by decide +kernel
theorem dX10_worked_141 : decode cX10_worked 141 = .ok (.aload_n 0, 1) := by decide +kernel
theorem dX10_worked_142 : decode cX10_worked 142 = .ok (.getfield 41, 3) := by decide +kernel
theorem dX10_worked_145 : decode cX10_worked 145 = .ok (.iconst 0, 1) := by decide +kernel
theorem dX10_worked_146 : decode cX10_worked 146 = .ok (.iaload, 1) := by decide +kernel
theorem dX10_worked_147 : decode cX10_worked 147 = .ok (.ireturn, 1) := by decide +kernel
theorem dX10_hasText_0 : decode cX10_hasText 0 = .ok (.aload_n 0, 1) := by decide +kernel
theorem dX10_hasText_1 : decode cX10_hasText 1 = .ok (.getfield 9, 3) := by decide +kernel
theorem dX10_hasText_4 : decode cX10_hasText 4 = .ok (.sipush 136, 3) := by decide +kernel
theorem dX10_hasText_7 : decode cX10_hasText 7 = .ok (.bipush 52, 2) := by decide +kernel
theorem dX10_hasText_9 : decode cX10_hasText 9 = .ok (.iload_n 1, 1) := by decide +kernel
theorem dX10_hasText_10 : decode cX10_hasText 10 = .ok (.imul, 1) := by decide +kernel
theorem dX10_hasText_11 : decode cX10_hasText 11 = .ok (.iadd, 1) := by decide +kernel
theorem dX10_hasText_12 : decode cX10_hasText 12 = .ok (.iaload, 1) := by decide +kernel
theorem dX10_hasText_13 : decode cX10_hasText 13 = .ok (.ifCond .le 7, 3) := by decide +kernel
theorem dX10_hasText_16 : decode cX10_hasText 16 = .ok (.iconst 1, 1) := by decide +kernel
theorem dX10_hasText_17 : decode cX10_hasText 17 = .ok (.goto 4, 3) := by decide +kernel
theorem dX10_hasText_20 : decode cX10_hasText 20 = .ok (.iconst 0, 1) := by decide +kernel
theorem dX10_hasText_21 : decode cX10_hasText 21 = .ok (.ireturn, 1) := by decide +kernel
theorem dX10_given_0 : decode cX10_given 0 = .ok (.aload_n 0, 1) := by decide +kernel
theorem dX10_given_1 : decode cX10_given 1 = .ok (.getfield 38, 3) := by decide +kernel
theorem dX10_given_4 : decode cX10_given 4 = .ok (.iconst 0, 1) := by decide +kernel
theorem dX10_given_5 : decode cX10_given 5 = .ok (.iload_n 2, 1) := by decide +kernel
theorem dX10_given_6 : decode cX10_given 6 = .ok (.iastore, 1) := by decide +kernel
theorem dX10_given_7 : decode cX10_given 7 = .ok (.aload_n 0, 1) := by decide +kernel
theorem dX10_given_8 : decode cX10_given 8 = .ok (.getfield 38, 3) := by decide +kernel
theorem dX10_given_11 : decode cX10_given 11 = .ok (.iconst 1, 1) := by decide +kernel
theorem dX10_given_12 : decode cX10_given 12 = .ok (.iload_n 3, 1) := by decide +kernel
theorem dX10_given_13 : decode cX10_given 13 = .ok (.iastore, 1) := by decide +kernel
theorem dX10_given_14 : decode cX10_given 14 = .ok (.aload_n 0, 1) := by decide +kernel
theorem dX10_given_15 : decode cX10_given 15 = .ok (.getfield 38, 3) := by decide +kernel
theorem dX10_given_18 : decode cX10_given 18 = .ok (.iconst 2, 1) := by decide +kernel
theorem dX10_given_19 : decode cX10_given 19 = .ok (.iload 4, 2) := by decide +kernel
theorem dX10_given_21 : decode cX10_given 21 = .ok (.iastore, 1) := by decide +kernel
theorem dX10_given_22 : decode cX10_given 22 = .ok (.iload_n 1, 1) := by decide +kernel
theorem dX10_given_23 : decode cX10_given 23 = .ok (.iconst 1, 1) := by decide +kernel
theorem dX10_given_24 : decode cX10_given 24 = .ok (.if_icmp .ne 7, 3) := by decide +kernel
theorem dX10_given_27 : decode cX10_given 27 = .ok (.iload_n 3, 1) := by decide +kernel
theorem dX10_given_28 : decode cX10_given 28 = .ok (.goto 14, 3) := by decide +kernel
theorem dX10_given_31 : decode cX10_given 31 = .ok (.iload_n 3, 1) := by decide +kernel
theorem dX10_given_32 : decode cX10_given 32 = .ok (.ifCond .ne 7, 3) := by decide +kernel
theorem dX10_given_35 : decode cX10_given 35 = .ok (.iconst 0, 1) := by decide +kernel
theorem dX10_given_36 : decode cX10_given 36 = .ok (.goto 6, 3) := by decide +kernel
theorem dX10_given_39 : decode cX10_given 39 = .ok (.iload_n 2, 1) := by decide +kernel
theorem dX10_given_40 : decode cX10_given 40 = .ok (.iload_n 3, 1) := by decide +kernel
theorem dX10_given_41 : decode cX10_given 41 = .ok (.idiv, 1) := by decide +kernel
theorem dX10_given_42 : decode cX10_given 42 = .ok (.istore 5, 2) := by decide +kernel
theorem dX10_given_44 : decode cX10_given 44 = .ok (.aload_n 0, 1) := by decide +kernel
theorem dX10_given_45 : decode cX10_given 45 = .ok (.iload_n 1, 1) := by decide +kernel
theorem dX10_given_46 : decode cX10_given 46 = .ok (.invokevirtual 206, 3) := by decide +kernel
theorem dX10_given_49 : decode cX10_given 49 = .ok (.ifCond .eq 20, 3) := by decide +kernel
theorem dX10_given_52 : decode cX10_given 52 = .ok (.aload_n 0, 1) := by decide +kernel
theorem dX10_given_53 : decode cX10_given 53 = .ok (.sipush 136, 3) := by decide +kernel
theorem dX10_given_56 : decode cX10_given 56 = .ok (.bipush 52, 2) := by decide +kernel
theorem dX10_given_58 : decode cX10_given 58 = .ok (.iload_n 1, 1) := by decide +kernel
theorem dX10_given_59 : decode cX10_given 59 = .ok (.imul, 1) := by decide +kernel
theorem dX10_given_60 : decode cX10_given 60 = .ok (.iadd, 1) := by decide +kernel
theorem dX10_given_61 : decode cX10_given 61 = .ok (.iconst 1, 1) := by decide +kernel
theorem dX10_given_62 : decode cX10_given 62 = .ok (.iadd, 1) := by decide +kernel
theorem dX10_given_63 : decode cX10_given 63 = .ok (.invokevirtual 209, 3) := by decide +kernel
theorem dX10_given_66 : decode cX10_given 66 = .ok (.goto 5, 3) := by decide +kernel
theorem dX10_given_69 : decode cX10_given 69 = .ok (.iload 5, 2) := by decide +kernel
theorem dX10_given_71 : decode cX10_given 71 = .ok (.iconst 0, 1) := by decide +kernel
theorem dX10_given_72 : decode cX10_given 72 = .ok (.bipush 99, 2) := by decide +kernel
theorem dX10_given_74 : decode cX10_given 74 = .ok (.invokestatic 212, 3) := by decide +kernel
theorem dX10_given_77 : decode cX10_given 77 = .ok (.ireturn, 1) := by decide +kernel
theorem dX10_law_0 : decode cX10_law 0 = .ok (.iload_n 1, 1) := by decide +kernel
theorem dX10_law_1 : decode cX10_law 1 = .ok (.iconst 0, 1) := by decide +kernel
theorem dX10_law_2 : decode cX10_law 2 = .ok (.iconst 1, 1) := by decide +kernel
theorem dX10_law_3 : decode cX10_law 3 = .ok (.invokestatic 72, 3) := by decide +kernel
theorem dX10_law_6 : decode cX10_law 6 = .ok (.ifCond .eq 15, 3) := by decide +kernel
theorem dX10_law_9 : decode cX10_law 9 = .ok (.aload_n 0, 1) := by decide +kernel
theorem dX10_law_10 : decode cX10_law 10 = .ok (.iload_n 1, 1) := by decide +kernel
theorem dX10_law_11 : decode cX10_law 11 = .ok (.iload_n 2, 1) := by decide +kernel
theorem dX10_law_12 : decode cX10_law 12 = .ok (.iload_n 3, 1) := by decide +kernel
theorem dX10_law_13 : decode cX10_law 13 = .ok (.iload 4, 2) := by decide +kernel
theorem dX10_law_15 : decode cX10_law 15 = .ok (.invokevirtual 117, 3) := by decide +kernel
theorem dX10_law_18 : decode cX10_law 18 = .ok (.goto 9, 3) := by decide +kernel
theorem dX10_law_21 : decode cX10_law 21 = .ok (.aload_n 0, 1) := by decide +kernel
theorem dX10_law_22 : decode cX10_law 22 = .ok (.ldc 83, 2) := by decide +kernel
theorem dX10_law_24 : decode cX10_law 24 = .ok (.invokevirtual 84, 3) := by decide +kernel
theorem dX10_law_27 : decode cX10_law 27 = .ok (.ireturn, 1) := by decide +kernel
theorem dX10_drawn_0 : decode cX10_drawn 0 = .ok (.aload_n 0, 1) := by decide +kernel
theorem dX10_drawn_1 : decode cX10_drawn 1 = .ok (.getfield 9, 3) := by decide +kernel
theorem dX10_drawn_4 : decode cX10_drawn 4 = .ok (.bipush 11, 2) := by decide +kernel
theorem dX10_drawn_6 : decode cX10_drawn 6 = .ok (.aload_n 0, 1) := by decide +kernel
theorem dX10_drawn_7 : decode cX10_drawn 7 = .ok (.getfield 9, 3) := by decide +kernel
theorem dX10_drawn_10 : decode cX10_drawn 10 = .ok (.bipush 11, 2) := by decide +kernel
theorem dX10_drawn_12 : decode cX10_drawn 12 = .ok (.iaload, 1) := by decide +kernel
theorem dX10_drawn_13 : decode cX10_drawn 13 = .ok (.ldc 215, 2) := by decide +kernel
theorem dX10_drawn_15 : decode cX10_drawn 15 = .ok (.imul, 1) := by decide +kernel
theorem dX10_drawn_16 : decode cX10_drawn 16 = .ok (.sipush 12345, 3) := by decide +kernel
theorem dX10_drawn_19 : decode cX10_drawn 19 = .ok (.iadd, 1) := by decide +kernel
theorem dX10_drawn_20 : decode cX10_drawn 20 = .ok (.iastore, 1) := by decide +kernel
theorem dX10_drawn_21 : decode cX10_drawn 21 = .ok (.aload_n 0, 1) := by decide +kernel
theorem dX10_drawn_22 : decode cX10_drawn 22 = .ok (.getfield 9, 3) := by decide +kernel
theorem dX10_drawn_25 : decode cX10_drawn 25 = .ok (.bipush 11, 2) := by decide +kernel
theorem dX10_drawn_27 : decode cX10_drawn 27 = .ok (.iaload, 1) := by decide +kernel
theorem dX10_drawn_28 : decode cX10_drawn 28 = .ok (.bipush 8, 2) := by decide +kernel
theorem dX10_drawn_30 : decode cX10_drawn 30 = .ok (.iushr, 1) := by decide +kernel
theorem dX10_drawn_31 : decode cX10_drawn 31 = .ok (.iload_n 1, 1) := by decide +kernel
theorem dX10_drawn_32 : decode cX10_drawn 32 = .ok (.irem, 1) := by decide +kernel
theorem dX10_drawn_33 : decode cX10_drawn 33 = .ok (.ireturn, 1) := by decide +kernel
theorem dX10_next_0 : decode cX10_next 0 = .ok (.iload_n 0, 1) := by decide +kernel
theorem dX10_next_1 : decode cX10_next 1 = .ok (.bipush 8, 2) := by decide +kernel
theorem dX10_next_3 : decode cX10_next 3 = .ok (.idiv, 1) := by decide +kernel
theorem dX10_next_4 : decode cX10_next 4 = .ok (.iload_n 1, 1) := by decide +kernel
theorem dX10_next_5 : decode cX10_next 5 = .ok (.iconst 3, 1) := by decide +kernel
theorem dX10_next_6 : decode cX10_next 6 = .ok (.if_icmp .ne 7, 3) := by decide +kernel
theorem dX10_next_9 : decode cX10_next 9 = .ok (.iconst 1, 1) := by decide +kernel
theorem dX10_next_10 : decode cX10_next 10 = .ok (.goto 13, 3) := by decide +kernel
theorem dX10_next_13 : decode cX10_next 13 = .ok (.iload_n 1, 1) := by decide +kernel
theorem dX10_next_14 : decode cX10_next 14 = .ok (.iconst 1, 1) := by decide +kernel
theorem dX10_next_15 : decode cX10_next 15 = .ok (.if_icmp .ne 7, 3) := by decide +kernel
theorem dX10_next_18 : decode cX10_next 18 = .ok (.iconst (-1), 1) := by decide +kernel
theorem dX10_next_19 : decode cX10_next 19 = .ok (.goto 4, 3) := by decide +kernel
theorem dX10_next_22 : decode cX10_next 22 = .ok (.iconst 0, 1) := by decide +kernel
theorem dX10_next_23 : decode cX10_next 23 = .ok (.iadd, 1) := by decide +kernel
theorem dX10_next_24 : decode cX10_next 24 = .ok (.istore_n 2, 1) := by decide +kernel
theorem dX10_next_25 : decode cX10_next 25 = .ok (.iload_n 0, 1) := by decide +kernel
theorem dX10_next_26 : decode cX10_next 26 = .ok (.bipush 8, 2) := by decide +kernel
theorem dX10_next_28 : decode cX10_next 28 = .ok (.irem, 1) := by decide +kernel
theorem dX10_next_29 : decode cX10_next 29 = .ok (.iload_n 1, 1) := by decide +kernel
theorem dX10_next_30 : decode cX10_next 30 = .ok (.iconst 2, 1) := by decide +kernel
theorem dX10_next_31 : decode cX10_next 31 = .ok (.if_icmp .ne 7, 3) := by decide +kernel
theorem dX10_next_34 : decode cX10_next 34 = .ok (.iconst 1, 1) := by decide +kernel
theorem dX10_next_35 : decode cX10_next 35 = .ok (.goto 13, 3) := by decide +kernel
theorem dX10_next_38 : decode cX10_next 38 = .ok (.iload_n 1, 1) := by decide +kernel
theorem dX10_next_39 : decode cX10_next 39 = .ok (.iconst 4, 1) := by decide +kernel
theorem dX10_next_40 : decode cX10_next 40 = .ok (.if_icmp .ne 7, 3) := by decide +kernel
theorem dX10_next_43 : decode cX10_next 43 = .ok (.iconst (-1), 1) := by decide +kernel
theorem dX10_next_44 : decode cX10_next 44 = .ok (.goto 4, 3) := by decide +kernel
theorem dX10_next_47 : decode cX10_next 47 = .ok (.iconst 0, 1) := by decide +kernel
theorem dX10_next_48 : decode cX10_next 48 = .ok (.iadd, 1) := by decide +kernel
theorem dX10_next_49 : decode cX10_next 49 = .ok (.istore_n 3, 1) := by decide +kernel
theorem dX10_next_50 : decode cX10_next 50 = .ok (.iload_n 2, 1) := by decide +kernel
theorem dX10_next_51 : decode cX10_next 51 = .ok (.iconst 0, 1) := by decide +kernel
theorem dX10_next_52 : decode cX10_next 52 = .ok (.bipush 7, 2) := by decide +kernel
theorem dX10_next_54 : decode cX10_next 54 = .ok (.invokestatic 72, 3) := by decide +kernel
theorem dX10_next_57 : decode cX10_next 57 = .ok (.ifCond .eq 22, 3) := by decide +kernel
theorem dX10_next_60 : decode cX10_next 60 = .ok (.iload_n 3, 1) := by decide +kernel
theorem dX10_next_61 : decode cX10_next 61 = .ok (.iconst 0, 1) := by decide +kernel
theorem dX10_next_62 : decode cX10_next 62 = .ok (.bipush 7, 2) := by decide +kernel
theorem dX10_next_64 : decode cX10_next 64 = .ok (.invokestatic 72, 3) := by decide +kernel
theorem dX10_next_67 : decode cX10_next 67 = .ok (.ifCond .eq 12, 3) := by decide +kernel
theorem dX10_next_70 : decode cX10_next 70 = .ok (.bipush 8, 2) := by decide +kernel
theorem dX10_next_72 : decode cX10_next 72 = .ok (.iload_n 2, 1) := by decide +kernel
theorem dX10_next_73 : decode cX10_next 73 = .ok (.imul, 1) := by decide +kernel
theorem dX10_next_74 : decode cX10_next 74 = .ok (.iload_n 3, 1) := by decide +kernel
theorem dX10_next_75 : decode cX10_next 75 = .ok (.iadd, 1) := by decide +kernel
theorem dX10_next_76 : decode cX10_next 76 = .ok (.goto 4, 3) := by decide +kernel
theorem dX10_next_79 : decode cX10_next 79 = .ok (.iload_n 0, 1) := by decide +kernel
theorem dX10_next_80 : decode cX10_next 80 = .ok (.ireturn, 1) := by decide +kernel
theorem dX10_movesTo_0 : decode cX10_movesTo 0 = .ok (.aload_n 0, 1) := by decide +kernel
theorem dX10_movesTo_1 : decode cX10_movesTo 1 = .ok (.invokevirtual 96, 3) := by decide +kernel
theorem dX10_movesTo_4 : decode cX10_movesTo 4 = .ok (.istore_n 2, 1) := by decide +kernel
theorem dX10_movesTo_5 : decode cX10_movesTo 5 = .ok (.aload_n 0, 1) := by decide +kernel
theorem dX10_movesTo_6 : decode cX10_movesTo 6 = .ok (.iload_n 1, 1) := by decide +kernel
theorem dX10_movesTo_7 : decode cX10_movesTo 7 = .ok (.iconst 2, 1) := by decide +kernel
theorem dX10_movesTo_8 : decode cX10_movesTo 8 = .ok (.invokevirtual 93, 3) := by decide +kernel
theorem dX10_movesTo_11 : decode cX10_movesTo 11 = .ok (.istore_n 3, 1) := by decide +kernel
theorem dX10_movesTo_12 : decode cX10_movesTo 12 = .ok (.aload_n 0, 1) := by decide +kernel
theorem dX10_movesTo_13 : decode cX10_movesTo 13 = .ok (.iload_n 1, 1) := by decide +kernel
theorem dX10_movesTo_14 : decode cX10_movesTo 14 = .ok (.iconst 1, 1) := by decide +kernel
theorem dX10_movesTo_15 : decode cX10_movesTo 15 = .ok (.invokevirtual 93, 3) := by decide +kernel
theorem dX10_movesTo_18 : decode cX10_movesTo 18 = .ok (.istore 4, 2) := by decide +kernel
theorem dX10_movesTo_20 : decode cX10_movesTo 20 = .ok (.iload_n 3, 1) := by decide +kernel
theorem dX10_movesTo_21 : decode cX10_movesTo 21 = .ok (.aload_n 0, 1) := by decide +kernel
theorem dX10_movesTo_22 : decode cX10_movesTo 22 = .ok (.getfield 9, 3) := by decide +kernel
theorem dX10_movesTo_25 : decode cX10_movesTo 25 = .ok (.iconst 2, 1) := by decide +kernel
theorem dX10_movesTo_26 : decode cX10_movesTo 26 = .ok (.iload_n 2, 1) := by decide +kernel
theorem dX10_movesTo_27 : decode cX10_movesTo 27 = .ok (.bipush 8, 2) := by decide +kernel
theorem dX10_movesTo_29 : decode cX10_movesTo 29 = .ok (.idiv, 1) := by decide +kernel
theorem dX10_movesTo_30 : decode cX10_movesTo 30 = .ok (.iadd, 1) := by decide +kernel
theorem dX10_movesTo_31 : decode cX10_movesTo 31 = .ok (.iaload, 1) := by decide +kernel
theorem dX10_movesTo_32 : decode cX10_movesTo 32 = .ok (.invokestatic 216, 3) := by decide +kernel
theorem dX10_movesTo_35 : decode cX10_movesTo 35 = .ok (.istore 5, 2) := by decide +kernel
theorem dX10_movesTo_37 : decode cX10_movesTo 37 = .ok (.iload_n 2, 1) := by decide +kernel
theorem dX10_movesTo_38 : decode cX10_movesTo 38 = .ok (.iconst 2, 1) := by decide +kernel
theorem dX10_movesTo_39 : decode cX10_movesTo 39 = .ok (.irem, 1) := by decide +kernel
theorem dX10_movesTo_40 : decode cX10_movesTo 40 = .ok (.iconst 1, 1) := by decide +kernel
theorem dX10_movesTo_41 : decode cX10_movesTo 41 = .ok (.if_icmp .ne 8, 3) := by decide +kernel
theorem dX10_movesTo_44 : decode cX10_movesTo 44 = .ok (.iload 5, 2) := by decide +kernel
theorem dX10_movesTo_46 : decode cX10_movesTo 46 = .ok (.goto 4, 3) := by decide +kernel
theorem dX10_movesTo_49 : decode cX10_movesTo 49 = .ok (.iload_n 3, 1) := by decide +kernel
theorem dX10_movesTo_50 : decode cX10_movesTo 50 = .ok (.istore 6, 2) := by decide +kernel
theorem dX10_movesTo_52 : decode cX10_movesTo 52 = .ok (.iload_n 2, 1) := by decide +kernel
theorem dX10_movesTo_53 : decode cX10_movesTo 53 = .ok (.bipush 8, 2) := by decide +kernel
theorem dX10_movesTo_55 : decode cX10_movesTo 55 = .ok (.irem, 1) := by decide +kernel
theorem dX10_movesTo_56 : decode cX10_movesTo 56 = .ok (.bipush 7, 2) := by decide +kernel
theorem dX10_movesTo_58 : decode cX10_movesTo 58 = .ok (.if_icmp .ne 17, 3) := by decide +kernel
theorem dX10_movesTo_61 : decode cX10_movesTo 61 = .ok (.iload 6, 2) := by decide +kernel
theorem dX10_movesTo_63 : decode cX10_movesTo 63 = .ok (.iload 4, 2) := by decide +kernel
theorem dX10_movesTo_65 : decode cX10_movesTo 65 = .ok (.iconst 4, 1) := by decide +kernel
theorem dX10_movesTo_66 : decode cX10_movesTo 66 = .ok (.irem, 1) := by decide +kernel
theorem dX10_movesTo_67 : decode cX10_movesTo 67 = .ok (.iconst 1, 1) := by decide +kernel
theorem dX10_movesTo_68 : decode cX10_movesTo 68 = .ok (.iadd, 1) := by decide +kernel
theorem dX10_movesTo_69 : decode cX10_movesTo 69 = .ok (.invokestatic 216, 3) := by decide +kernel
theorem dX10_movesTo_72 : decode cX10_movesTo 72 = .ok (.goto 5, 3) := by decide +kernel
theorem dX10_movesTo_75 : decode cX10_movesTo 75 = .ok (.iload 6, 2) := by decide +kernel
theorem dX10_movesTo_77 : decode cX10_movesTo 77 = .ok (.istore 7, 2) := by decide +kernel
theorem dX10_movesTo_79 : decode cX10_movesTo 79 = .ok (.aload_n 0, 1) := by decide +kernel
theorem dX10_movesTo_80 : decode cX10_movesTo 80 = .ok (.iload_n 1, 1) := by decide +kernel
theorem dX10_movesTo_81 : decode cX10_movesTo 81 = .ok (.iconst 0, 1) := by decide +kernel
theorem dX10_movesTo_82 : decode cX10_movesTo 82 = .ok (.invokevirtual 93, 3) := by decide +kernel
theorem dX10_movesTo_85 : decode cX10_movesTo 85 = .ok (.tableswitch 75 1 6 #[39, 41, 44, 39, 47, 60], 39) := by decide +kernel
theorem dX10_movesTo_124 : decode cX10_movesTo 124 = .ok (.iload_n 3, 1) := by decide +kernel
theorem dX10_movesTo_125 : decode cX10_movesTo 125 = .ok (.ireturn, 1) := by decide +kernel
theorem dX10_movesTo_126 : decode cX10_movesTo 126 = .ok (.iload 5, 2) := by decide +kernel
theorem dX10_movesTo_128 : decode cX10_movesTo 128 = .ok (.ireturn, 1) := by decide +kernel
theorem dX10_movesTo_129 : decode cX10_movesTo 129 = .ok (.iload 7, 2) := by decide +kernel
theorem dX10_movesTo_131 : decode cX10_movesTo 131 = .ok (.ireturn, 1) := by decide +kernel
theorem dX10_movesTo_132 : decode cX10_movesTo 132 = .ok (.iload_n 2, 1) := by decide +kernel
theorem dX10_movesTo_133 : decode cX10_movesTo 133 = .ok (.iload 4, 2) := by decide +kernel
theorem dX10_movesTo_135 : decode cX10_movesTo 135 = .ok (.if_icmp .ge 7, 3) := by decide +kernel
theorem dX10_movesTo_138 : decode cX10_movesTo 138 = .ok (.iload_n 3, 1) := by decide +kernel
theorem dX10_movesTo_139 : decode cX10_movesTo 139 = .ok (.goto 5, 3) := by decide +kernel
theorem dX10_movesTo_142 : decode cX10_movesTo 142 = .ok (.iload 5, 2) := by decide +kernel
theorem dX10_movesTo_144 : decode cX10_movesTo 144 = .ok (.ireturn, 1) := by decide +kernel
theorem dX10_movesTo_145 : decode cX10_movesTo 145 = .ok (.aload_n 0, 1) := by decide +kernel
theorem dX10_movesTo_146 : decode cX10_movesTo 146 = .ok (.iload_n 1, 1) := by decide +kernel
theorem dX10_movesTo_147 : decode cX10_movesTo 147 = .ok (.invokevirtual 104, 3) := by decide +kernel
theorem dX10_movesTo_150 : decode cX10_movesTo 150 = .ok (.ifCond .eq 8, 3) := by decide +kernel
theorem dX10_movesTo_153 : decode cX10_movesTo 153 = .ok (.iload 7, 2) := by decide +kernel
theorem dX10_movesTo_155 : decode cX10_movesTo 155 = .ok (.goto 4, 3) := by decide +kernel
theorem dX10_movesTo_158 : decode cX10_movesTo 158 = .ok (.iload_n 3, 1) := by decide +kernel
theorem dX10_movesTo_159 : decode cX10_movesTo 159 = .ok (.ireturn, 1) := by decide +kernel
theorem dX10_movesTo_160 : decode cX10_movesTo 160 = .ok (.iload 6, 2) := by decide +kernel
theorem dX10_movesTo_162 : decode cX10_movesTo 162 = .ok (.ireturn, 1) := by decide +kernel
theorem dX10_listen_0 : decode cX10_listen 0 = .ok (.iconst 0, 1) := by decide +kernel
theorem dX10_listen_1 : decode cX10_listen 1 = .ok (.istore_n 2, 1) := by decide +kernel
theorem dX10_listen_2 : decode cX10_listen 2 = .ok (.iload_n 2, 1) := by decide +kernel
theorem dX10_listen_3 : decode cX10_listen 3 = .ok (.aload_n 0, 1) := by decide +kernel
theorem dX10_listen_4 : decode cX10_listen 4 = .ok (.getfield 9, 3) := by decide +kernel
theorem dX10_listen_7 : decode cX10_listen 7 = .ok (.bipush 8, 2) := by decide +kernel
theorem dX10_listen_9 : decode cX10_listen 9 = .ok (.iaload, 1) := by decide +kernel
theorem dX10_listen_10 : decode cX10_listen 10 = .ok (.if_icmp .ge 127, 3) := by decide +kernel
theorem dX10_listen_13 : decode cX10_listen 13 = .ok (.bipush 48, 2) := by decide +kernel
theorem dX10_listen_15 : decode cX10_listen 15 = .ok (.iconst 3, 1) := by decide +kernel
theorem dX10_listen_16 : decode cX10_listen 16 = .ok (.iload_n 2, 1) := by decide +kernel
theorem dX10_listen_17 : decode cX10_listen 17 = .ok (.imul, 1) := by decide +kernel
theorem dX10_listen_18 : decode cX10_listen 18 = .ok (.iadd, 1) := by decide +kernel
theorem dX10_listen_19 : decode cX10_listen 19 = .ok (.istore_n 3, 1) := by decide +kernel
theorem dX10_listen_20 : decode cX10_listen 20 = .ok (.aload_n 0, 1) := by decide +kernel
theorem dX10_listen_21 : decode cX10_listen 21 = .ok (.aload_n 0, 1) := by decide +kernel
theorem dX10_listen_22 : decode cX10_listen 22 = .ok (.getfield 9, 3) := by decide +kernel
theorem dX10_listen_25 : decode cX10_listen 25 = .ok (.iload_n 3, 1) := by decide +kernel
theorem dX10_listen_26 : decode cX10_listen 26 = .ok (.iconst 0, 1) := by decide +kernel
theorem dX10_listen_27 : decode cX10_listen 27 = .ok (.iadd, 1) := by decide +kernel
theorem dX10_listen_28 : decode cX10_listen 28 = .ok (.iaload, 1) := by decide +kernel
theorem dX10_listen_29 : decode cX10_listen 29 = .ok (.iload_n 1, 1) := by decide +kernel
theorem dX10_listen_30 : decode cX10_listen 30 = .ok (.invokevirtual 136, 3) := by decide +kernel
theorem dX10_listen_33 : decode cX10_listen 33 = .ok (.ifCond .eq 7, 3) := by decide +kernel
theorem dX10_listen_36 : decode cX10_listen 36 = .ok (.iconst 1, 1) := by decide +kernel
theorem dX10_listen_37 : decode cX10_listen 37 = .ok (.goto 4, 3) := by decide +kernel
theorem dX10_listen_40 : decode cX10_listen 40 = .ok (.iconst 0, 1) := by decide +kernel
theorem dX10_listen_41 : decode cX10_listen 41 = .ok (.istore 4, 2) := by decide +kernel
theorem dX10_listen_43 : decode cX10_listen 43 = .ok (.aload_n 0, 1) := by decide +kernel
theorem dX10_listen_44 : decode cX10_listen 44 = .ok (.getfield 9, 3) := by decide +kernel
theorem dX10_listen_47 : decode cX10_listen 47 = .ok (.iload_n 3, 1) := by decide +kernel
theorem dX10_listen_48 : decode cX10_listen 48 = .ok (.iconst 2, 1) := by decide +kernel
theorem dX10_listen_49 : decode cX10_listen 49 = .ok (.iadd, 1) := by decide +kernel
theorem dX10_listen_50 : decode cX10_listen 50 = .ok (.iaload, 1) := by decide +kernel
theorem dX10_listen_51 : decode cX10_listen 51 = .ok (.aload_n 0, 1) := by decide +kernel
theorem dX10_listen_52 : decode cX10_listen 52 = .ok (.iconst 1, 1) := by decide +kernel
theorem dX10_listen_53 : decode cX10_listen 53 = .ok (.iload_n 1, 1) := by decide +kernel
theorem dX10_listen_54 : decode cX10_listen 54 = .ok (.invokestatic 127, 3) := by decide +kernel
theorem dX10_listen_57 : decode cX10_listen 57 = .ok (.iload 4, 2) := by decide +kernel
theorem dX10_listen_59 : decode cX10_listen 59 = .ok (.aload_n 0, 1) := by decide +kernel
theorem dX10_listen_60 : decode cX10_listen 60 = .ok (.invokevirtual 96, 3) := by decide +kernel
theorem dX10_listen_63 : decode cX10_listen 63 = .ok (.invokevirtual 117, 3) := by decide +kernel
theorem dX10_listen_66 : decode cX10_listen 66 = .ok (.invokestatic 63, 3) := by decide +kernel
theorem dX10_listen_69 : decode cX10_listen 69 = .ok (.istore 5, 2) := by decide +kernel
theorem dX10_listen_71 : decode cX10_listen 71 = .ok (.aload_n 0, 1) := by decide +kernel
theorem dX10_listen_72 : decode cX10_listen 72 = .ok (.getfield 9, 3) := by decide +kernel
theorem dX10_listen_75 : decode cX10_listen 75 = .ok (.iload_n 3, 1) := by decide +kernel
theorem dX10_listen_76 : decode cX10_listen 76 = .ok (.iconst 1, 1) := by decide +kernel
theorem dX10_listen_77 : decode cX10_listen 77 = .ok (.iadd, 1) := by decide +kernel
theorem dX10_listen_78 : decode cX10_listen 78 = .ok (.sipush 9999, 3) := by decide +kernel
theorem dX10_listen_81 : decode cX10_listen 81 = .ok (.aload_n 0, 1) := by decide +kernel
theorem dX10_listen_82 : decode cX10_listen 82 = .ok (.getfield 9, 3) := by decide +kernel
theorem dX10_listen_85 : decode cX10_listen 85 = .ok (.iload_n 3, 1) := by decide +kernel
theorem dX10_listen_86 : decode cX10_listen 86 = .ok (.iconst 1, 1) := by decide +kernel
theorem dX10_listen_87 : decode cX10_listen 87 = .ok (.iadd, 1) := by decide +kernel
theorem dX10_listen_88 : decode cX10_listen 88 = .ok (.iaload, 1) := by decide +kernel
theorem dX10_listen_89 : decode cX10_listen 89 = .ok (.iload 4, 2) := by decide +kernel
theorem dX10_listen_91 : decode cX10_listen 91 = .ok (.iadd, 1) := by decide +kernel
theorem dX10_listen_92 : decode cX10_listen 92 = .ok (.invokestatic 63, 3) := by decide +kernel
theorem dX10_listen_95 : decode cX10_listen 95 = .ok (.iastore, 1) := by decide +kernel
theorem dX10_listen_96 : decode cX10_listen 96 = .ok (.aload_n 0, 1) := by decide +kernel
theorem dX10_listen_97 : decode cX10_listen 97 = .ok (.getfield 9, 3) := by decide +kernel
theorem dX10_listen_100 : decode cX10_listen 100 = .ok (.iload_n 3, 1) := by decide +kernel
theorem dX10_listen_101 : decode cX10_listen 101 = .ok (.iconst 2, 1) := by decide +kernel
theorem dX10_listen_102 : decode cX10_listen 102 = .ok (.iadd, 1) := by decide +kernel
theorem dX10_listen_103 : decode cX10_listen 103 = .ok (.dup2, 1) := by decide +kernel
theorem dX10_listen_104 : decode cX10_listen 104 = .ok (.iaload, 1) := by decide +kernel
theorem dX10_listen_105 : decode cX10_listen 105 = .ok (.iload 5, 2) := by decide +kernel
theorem dX10_listen_107 : decode cX10_listen 107 = .ok (.isub, 1) := by decide +kernel
theorem dX10_listen_108 : decode cX10_listen 108 = .ok (.iastore, 1) := by decide +kernel
theorem dX10_listen_109 : decode cX10_listen 109 = .ok (.aload_n 0, 1) := by decide +kernel
theorem dX10_listen_110 : decode cX10_listen 110 = .ok (.getfield 9, 3) := by decide +kernel
theorem dX10_listen_113 : decode cX10_listen 113 = .ok (.bipush 6, 2) := by decide +kernel
theorem dX10_listen_115 : decode cX10_listen 115 = .ok (.ldc 219, 2) := by decide +kernel
theorem dX10_listen_117 : decode cX10_listen 117 = .ok (.aload_n 0, 1) := by decide +kernel
theorem dX10_listen_118 : decode cX10_listen 118 = .ok (.getfield 9, 3) := by decide +kernel
theorem dX10_listen_121 : decode cX10_listen 121 = .ok (.bipush 6, 2) := by decide +kernel
theorem dX10_listen_123 : decode cX10_listen 123 = .ok (.iaload, 1) := by decide +kernel
theorem dX10_listen_124 : decode cX10_listen 124 = .ok (.iload 5, 2) := by decide +kernel
theorem dX10_listen_126 : decode cX10_listen 126 = .ok (.iadd, 1) := by decide +kernel
theorem dX10_listen_127 : decode cX10_listen 127 = .ok (.invokestatic 63, 3) := by decide +kernel
theorem dX10_listen_130 : decode cX10_listen 130 = .ok (.iastore, 1) := by decide +kernel
theorem dX10_listen_131 : decode cX10_listen 131 = .ok (.iinc 2 1, 3) := by decide +kernel
theorem dX10_listen_134 : decode cX10_listen 134 = .ok (.goto (-132), 3) := by decide +kernel
theorem dX10_listen_137 : decode cX10_listen 137 = .ok (.return_, 1) := by decide +kernel
theorem dX10_moveAll_0 : decode cX10_moveAll 0 = .ok (.iconst 0, 1) := by decide +kernel
theorem dX10_moveAll_1 : decode cX10_moveAll 1 = .ok (.istore_n 1, 1) := by decide +kernel
theorem dX10_moveAll_2 : decode cX10_moveAll 2 = .ok (.iload_n 1, 1) := by decide +kernel
theorem dX10_moveAll_3 : decode cX10_moveAll 3 = .ok (.aload_n 0, 1) := by decide +kernel
theorem dX10_moveAll_4 : decode cX10_moveAll 4 = .ok (.getfield 9, 3) := by decide +kernel
theorem dX10_moveAll_7 : decode cX10_moveAll 7 = .ok (.bipush 7, 2) := by decide +kernel
theorem dX10_moveAll_9 : decode cX10_moveAll 9 = .ok (.iaload, 1) := by decide +kernel
theorem dX10_moveAll_10 : decode cX10_moveAll 10 = .ok (.if_icmp .ge 27, 3) := by decide +kernel
theorem dX10_moveAll_13 : decode cX10_moveAll 13 = .ok (.aload_n 0, 1) := by decide +kernel
theorem dX10_moveAll_14 : decode cX10_moveAll 14 = .ok (.getfield 9, 3) := by decide +kernel
theorem dX10_moveAll_17 : decode cX10_moveAll 17 = .ok (.bipush 12, 2) := by decide +kernel
theorem dX10_moveAll_19 : decode cX10_moveAll 19 = .ok (.iconst 4, 1) := by decide +kernel
theorem dX10_moveAll_20 : decode cX10_moveAll 20 = .ok (.iload_n 1, 1) := by decide +kernel
theorem dX10_moveAll_21 : decode cX10_moveAll 21 = .ok (.imul, 1) := by decide +kernel
theorem dX10_moveAll_22 : decode cX10_moveAll 22 = .ok (.iadd, 1) := by decide +kernel
theorem dX10_moveAll_23 : decode cX10_moveAll 23 = .ok (.iconst 2, 1) := by decide +kernel
theorem dX10_moveAll_24 : decode cX10_moveAll 24 = .ok (.iadd, 1) := by decide +kernel
theorem dX10_moveAll_25 : decode cX10_moveAll 25 = .ok (.aload_n 0, 1) := by decide +kernel
theorem dX10_moveAll_26 : decode cX10_moveAll 26 = .ok (.iload_n 1, 1) := by decide +kernel
theorem dX10_moveAll_27 : decode cX10_moveAll 27 = .ok (.invokevirtual 220, 3) := by decide +kernel
theorem dX10_moveAll_30 : decode cX10_moveAll 30 = .ok (.iastore, 1) := by decide +kernel
theorem dX10_moveAll_31 : decode cX10_moveAll 31 = .ok (.iinc 1 1, 3) := by decide +kernel
theorem dX10_moveAll_34 : decode cX10_moveAll 34 = .ok (.goto (-32), 3) := by decide +kernel
theorem dX10_moveAll_37 : decode cX10_moveAll 37 = .ok (.aload_n 0, 1) := by decide +kernel
theorem dX10_moveAll_38 : decode cX10_moveAll 38 = .ok (.getfield 9, 3) := by decide +kernel
theorem dX10_moveAll_41 : decode cX10_moveAll 41 = .ok (.iconst 0, 1) := by decide +kernel
theorem dX10_moveAll_42 : decode cX10_moveAll 42 = .ok (.dup2, 1) := by decide +kernel
theorem dX10_moveAll_43 : decode cX10_moveAll 43 = .ok (.iaload, 1) := by decide +kernel
theorem dX10_moveAll_44 : decode cX10_moveAll 44 = .ok (.iconst 1, 1) := by decide +kernel
theorem dX10_moveAll_45 : decode cX10_moveAll 45 = .ok (.iadd, 1) := by decide +kernel
theorem dX10_moveAll_46 : decode cX10_moveAll 46 = .ok (.iastore, 1) := by decide +kernel
theorem dX10_moveAll_47 : decode cX10_moveAll 47 = .ok (.return_, 1) := by decide +kernel
theorem dX10_beatsGo_0 : decode cX10_beatsGo 0 = .ok (.iconst 0, 1) := by decide +kernel
theorem dX10_beatsGo_1 : decode cX10_beatsGo 1 = .ok (.istore_n 3, 1) := by decide +kernel
theorem dX10_beatsGo_2 : decode cX10_beatsGo 2 = .ok (.iload_n 3, 1) := by decide +kernel
theorem dX10_beatsGo_3 : decode cX10_beatsGo 3 = .ok (.iload_n 1, 1) := by decide +kernel
theorem dX10_beatsGo_4 : decode cX10_beatsGo 4 = .ok (.if_icmp .ge 83, 3) := by decide +kernel
theorem dX10_beatsGo_7 : decode cX10_beatsGo 7 = .ok (.aload_n 0, 1) := by decide +kernel
theorem dX10_beatsGo_8 : decode cX10_beatsGo 8 = .ok (.invokevirtual 133, 3) := by decide +kernel
theorem dX10_beatsGo_11 : decode cX10_beatsGo 11 = .ok (.istore 4, 2) := by decide +kernel
theorem dX10_beatsGo_13 : decode cX10_beatsGo 13 = .ok (.iconst 0, 1) := by decide +kernel
theorem dX10_beatsGo_14 : decode cX10_beatsGo 14 = .ok (.istore 5, 2) := by decide +kernel
theorem dX10_beatsGo_16 : decode cX10_beatsGo 16 = .ok (.iload 5, 2) := by decide +kernel
theorem dX10_beatsGo_18 : decode cX10_beatsGo 18 = .ok (.aload_n 0, 1) := by decide +kernel
theorem dX10_beatsGo_19 : decode cX10_beatsGo 19 = .ok (.getfield 9, 3) := by decide +kernel
theorem dX10_beatsGo_22 : decode cX10_beatsGo 22 = .ok (.bipush 7, 2) := by decide +kernel
theorem dX10_beatsGo_24 : decode cX10_beatsGo 24 = .ok (.iaload, 1) := by decide +kernel
theorem dX10_beatsGo_25 : decode cX10_beatsGo 25 = .ok (.if_icmp .ge 46, 3) := by decide +kernel
theorem dX10_beatsGo_28 : decode cX10_beatsGo 28 = .ok (.iload_n 2, 1) := by decide +kernel
theorem dX10_beatsGo_29 : decode cX10_beatsGo 29 = .ok (.ifCond .eq 42, 3) := by decide +kernel
theorem dX10_beatsGo_32 : decode cX10_beatsGo 32 = .ok (.iload 4, 2) := by decide +kernel
theorem dX10_beatsGo_34 : decode cX10_beatsGo 34 = .ok (.aload_n 0, 1) := by decide +kernel
theorem dX10_beatsGo_35 : decode cX10_beatsGo 35 = .ok (.iload 5, 2) := by decide +kernel
theorem dX10_beatsGo_37 : decode cX10_beatsGo 37 = .ok (.invokevirtual 104, 3) := by decide +kernel
theorem dX10_beatsGo_40 : decode cX10_beatsGo 40 = .ok (.ifCond .eq 21, 3) := by decide +kernel
theorem dX10_beatsGo_43 : decode cX10_beatsGo 43 = .ok (.aload_n 0, 1) := by decide +kernel
theorem dX10_beatsGo_44 : decode cX10_beatsGo 44 = .ok (.bipush 6, 2) := by decide +kernel
theorem dX10_beatsGo_46 : decode cX10_beatsGo 46 = .ok (.invokevirtual 223, 3) := by decide +kernel
theorem dX10_beatsGo_49 : decode cX10_beatsGo 49 = .ok (.ifCond .ne 12, 3) := by decide +kernel
theorem dX10_beatsGo_52 : decode cX10_beatsGo 52 = .ok (.iconst 1, 1) := by decide +kernel
theorem dX10_beatsGo_53 : decode cX10_beatsGo 53 = .ok (.iload 5, 2) := by decide +kernel
theorem dX10_beatsGo_55 : decode cX10_beatsGo 55 = .ok (.ishl, 1) := by decide +kernel
theorem dX10_beatsGo_56 : decode cX10_beatsGo 56 = .ok (.iconst (-1), 1) := by decide +kernel
theorem dX10_beatsGo_57 : decode cX10_beatsGo 57 = .ok (.ixor, 1) := by decide +kernel
theorem dX10_beatsGo_58 : decode cX10_beatsGo 58 = .ok (.goto 4, 3) := by decide +kernel
theorem dX10_beatsGo_61 : decode cX10_beatsGo 61 = .ok (.iconst (-1), 1) := by decide +kernel
theorem dX10_beatsGo_62 : decode cX10_beatsGo 62 = .ok (.iand, 1) := by decide +kernel
theorem dX10_beatsGo_63 : decode cX10_beatsGo 63 = .ok (.istore 4, 2) := by decide +kernel
theorem dX10_beatsGo_65 : decode cX10_beatsGo 65 = .ok (.iinc 5 1, 3) := by decide +kernel
theorem dX10_beatsGo_68 : decode cX10_beatsGo 68 = .ok (.goto (-52), 3) := by decide +kernel
theorem dX10_beatsGo_71 : decode cX10_beatsGo 71 = .ok (.aload_n 0, 1) := by decide +kernel
theorem dX10_beatsGo_72 : decode cX10_beatsGo 72 = .ok (.iload 4, 2) := by decide +kernel
theorem dX10_beatsGo_74 : decode cX10_beatsGo 74 = .ok (.invokevirtual 226, 3) := by decide +kernel
theorem dX10_beatsGo_77 : decode cX10_beatsGo 77 = .ok (.aload_n 0, 1) := by decide +kernel
theorem dX10_beatsGo_78 : decode cX10_beatsGo 78 = .ok (.invokevirtual 229, 3) := by decide +kernel
theorem dX10_beatsGo_81 : decode cX10_beatsGo 81 = .ok (.iinc 3 1, 3) := by decide +kernel
theorem dX10_beatsGo_84 : decode cX10_beatsGo 84 = .ok (.goto (-82), 3) := by decide +kernel
theorem dX10_beatsGo_87 : decode cX10_beatsGo 87 = .ok (.return_, 1) := by decide +kernel
theorem dX10_go_0 : decode cX10_go 0 = .ok (.iload_n 1, 1) := by decide +kernel
theorem dX10_go_1 : decode cX10_go 1 = .ok (.iconst 1, 1) := by decide +kernel
theorem dX10_go_2 : decode cX10_go 2 = .ok (.sipush 128, 3) := by decide +kernel
theorem dX10_go_5 : decode cX10_go 5 = .ok (.invokestatic 72, 3) := by decide +kernel
theorem dX10_go_8 : decode cX10_go 8 = .ok (.ifCond .ne 10, 3) := by decide +kernel
theorem dX10_go_11 : decode cX10_go 11 = .ok (.aload_n 0, 1) := by decide +kernel
theorem dX10_go_12 : decode cX10_go 12 = .ok (.ldc 83, 2) := by decide +kernel
theorem dX10_go_14 : decode cX10_go 14 = .ok (.invokevirtual 84, 3) := by decide +kernel
theorem dX10_go_17 : decode cX10_go 17 = .ok (.ireturn, 1) := by decide +kernel
theorem dX10_go_18 : decode cX10_go 18 = .ok (.aload_n 0, 1) := by decide +kernel
theorem dX10_go_19 : decode cX10_go 19 = .ok (.getfield 9, 3) := by decide +kernel
theorem dX10_go_22 : decode cX10_go 22 = .ok (.iconst 0, 1) := by decide +kernel
theorem dX10_go_23 : decode cX10_go 23 = .ok (.iaload, 1) := by decide +kernel
theorem dX10_go_24 : decode cX10_go 24 = .ok (.iload_n 1, 1) := by decide +kernel
theorem dX10_go_25 : decode cX10_go 25 = .ok (.iadd, 1) := by decide +kernel
theorem dX10_go_26 : decode cX10_go 26 = .ok (.sipush 9999, 3) := by decide +kernel
theorem dX10_go_29 : decode cX10_go 29 = .ok (.if_icmp .le 10, 3) := by decide +kernel
theorem dX10_go_32 : decode cX10_go 32 = .ok (.aload_n 0, 1) := by decide +kernel
theorem dX10_go_33 : decode cX10_go 33 = .ok (.ldc 232, 2) := by decide +kernel
theorem dX10_go_35 : decode cX10_go 35 = .ok (.invokevirtual 84, 3) := by decide +kernel
theorem dX10_go_38 : decode cX10_go 38 = .ok (.ireturn, 1) := by decide +kernel
theorem dX10_go_39 : decode cX10_go 39 = .ok (.aload_n 0, 1) := by decide +kernel
theorem dX10_go_40 : decode cX10_go 40 = .ok (.iload_n 1, 1) := by decide +kernel
theorem dX10_go_41 : decode cX10_go 41 = .ok (.iload_n 2, 1) := by decide +kernel
theorem dX10_go_42 : decode cX10_go 42 = .ok (.invokevirtual 233, 3) := by decide +kernel
theorem dX10_go_45 : decode cX10_go 45 = .ok (.aload_n 0, 1) := by decide +kernel
theorem dX10_go_46 : decode cX10_go 46 = .ok (.getfield 9, 3) := by decide +kernel
theorem dX10_go_49 : decode cX10_go 49 = .ok (.bipush 6, 2) := by decide +kernel
theorem dX10_go_51 : decode cX10_go 51 = .ok (.iaload, 1) := by decide +kernel
theorem dX10_go_52 : decode cX10_go 52 = .ok (.ireturn, 1) := by decide +kernel
theorem dX10_beats_0 : decode cX10_beats 0 = .ok (.aload_n 0, 1) := by decide +kernel
theorem dX10_beats_1 : decode cX10_beats 1 = .ok (.iload_n 1, 1) := by decide +kernel
theorem dX10_beats_2 : decode cX10_beats 2 = .ok (.iconst 0, 1) := by decide +kernel
theorem dX10_beats_3 : decode cX10_beats 3 = .ok (.invokevirtual 237, 3) := by decide +kernel
theorem dX10_beats_6 : decode cX10_beats 6 = .ok (.ireturn, 1) := by decide +kernel
theorem dX10_loose_0 : decode cX10_loose 0 = .ok (.aload_n 0, 1) := by decide +kernel
theorem dX10_loose_1 : decode cX10_loose 1 = .ok (.iload_n 1, 1) := by decide +kernel
theorem dX10_loose_2 : decode cX10_loose 2 = .ok (.iconst 1, 1) := by decide +kernel
theorem dX10_loose_3 : decode cX10_loose 3 = .ok (.invokevirtual 237, 3) := by decide +kernel
theorem dX10_loose_6 : decode cX10_loose 6 = .ok (.ireturn, 1) := by decide +kernel
theorem dX10_isAhead_0 : decode cX10_isAhead 0 = .ok (.iload_n 0, 1) := by decide +kernel
theorem dX10_isAhead_1 : decode cX10_isAhead 1 = .ok (.iconst 0, 1) := by decide +kernel
theorem dX10_isAhead_2 : decode cX10_isAhead 2 = .ok (.sipush 128, 3) := by decide +kernel
theorem dX10_isAhead_5 : decode cX10_isAhead 5 = .ok (.invokestatic 72, 3) := by decide +kernel
theorem dX10_isAhead_8 : decode cX10_isAhead 8 = .ok (.ireturn, 1) := by decide +kernel
theorem dX10_then_0 : decode cX10_then 0 = .ok (.iload_n 1, 1) := by decide +kernel
theorem dX10_then_1 : decode cX10_then 1 = .ok (.invokestatic 241, 3) := by decide +kernel
theorem dX10_then_4 : decode cX10_then 4 = .ok (.ifCond .eq 13, 3) := by decide +kernel
theorem dX10_then_7 : decode cX10_then 7 = .ok (.aload_n 0, 1) := by decide +kernel
theorem dX10_then_8 : decode cX10_then 8 = .ok (.iload_n 2, 1) := by decide +kernel
theorem dX10_then_9 : decode cX10_then 9 = .ok (.bipush 7, 2) := by decide +kernel
theorem dX10_then_11 : decode cX10_then 11 = .ok (.invokevirtual 100, 3) := by decide +kernel
theorem dX10_then_14 : decode cX10_then 14 = .ok (.ifCond .ne 10, 3) := by decide +kernel
theorem dX10_then_17 : decode cX10_then 17 = .ok (.aload_n 0, 1) := by decide +kernel
theorem dX10_then_18 : decode cX10_then 18 = .ok (.ldc 83, 2) := by decide +kernel
theorem dX10_then_20 : decode cX10_then 20 = .ok (.invokevirtual 84, 3) := by decide +kernel
theorem dX10_then_23 : decode cX10_then 23 = .ok (.ireturn, 1) := by decide +kernel
theorem dX10_then_24 : decode cX10_then 24 = .ok (.aload_n 0, 1) := by decide +kernel
theorem dX10_then_25 : decode cX10_then 25 = .ok (.getfield 9, 3) := by decide +kernel
theorem dX10_then_28 : decode cX10_then 28 = .ok (.aload_n 0, 1) := by decide +kernel
theorem dX10_then_29 : decode cX10_then 29 = .ok (.getfield 16, 3) := by decide +kernel
theorem dX10_then_32 : decode cX10_then 32 = .ok (.invokestatic 76, 3) := by decide +kernel
theorem dX10_then_35 : decode cX10_then 35 = .ok (.aload_n 0, 1) := by decide +kernel
theorem dX10_then_36 : decode cX10_then 36 = .ok (.iload_n 1, 1) := by decide +kernel
theorem dX10_then_37 : decode cX10_then 37 = .ok (.iconst 0, 1) := by decide +kernel
theorem dX10_then_38 : decode cX10_then 38 = .ok (.invokevirtual 233, 3) := by decide +kernel
theorem dX10_then_41 : decode cX10_then 41 = .ok (.aload_n 0, 1) := by decide +kernel
theorem dX10_then_42 : decode cX10_then 42 = .ok (.aload_n 0, 1) := by decide +kernel
theorem dX10_then_43 : decode cX10_then 43 = .ok (.iload_n 2, 1) := by decide +kernel
theorem dX10_then_44 : decode cX10_then 44 = .ok (.iconst 2, 1) := by decide +kernel
theorem dX10_then_45 : decode cX10_then 45 = .ok (.invokevirtual 93, 3) := by decide +kernel
theorem dX10_then_48 : decode cX10_then 48 = .ok (.invokevirtual 244, 3) := by decide +kernel
theorem dX10_then_51 : decode cX10_then 51 = .ok (.ireturn, 1) := by decide +kernel
theorem dX10_thenListener_0 : decode cX10_thenListener 0 = .ok (.iload_n 1, 1) := by decide +kernel
theorem dX10_thenListener_1 : decode cX10_thenListener 1 = .ok (.invokestatic 241, 3) := by decide +kernel
theorem dX10_thenListener_4 : decode cX10_thenListener 4 = .ok (.ifCond .eq 22, 3) := by decide +kernel
theorem dX10_thenListener_7 : decode cX10_thenListener 7 = .ok (.aload_n 0, 1) := by decide +kernel
theorem dX10_thenListener_8 : decode cX10_thenListener 8 = .ok (.iload_n 2, 1) := by decide +kernel
theorem dX10_thenListener_9 : decode cX10_thenListener 9 = .ok (.bipush 8, 2) := by decide +kernel
theorem dX10_thenListener_11 : decode cX10_thenListener 11 = .ok (.invokevirtual 100, 3) := by decide +kernel
theorem dX10_thenListener_14 : decode cX10_thenListener 14 = .ok (.ifCond .eq 12, 3) := by decide +kernel
theorem dX10_thenListener_17 : decode cX10_thenListener 17 = .ok (.iload_n 3, 1) := by decide +kernel
theorem dX10_thenListener_18 : decode cX10_thenListener 18 = .ok (.iconst 0, 1) := by decide +kernel
theorem dX10_thenListener_19 : decode cX10_thenListener 19 = .ok (.iconst 3, 1) := by decide +kernel
theorem dX10_thenListener_20 : decode cX10_thenListener 20 = .ok (.invokestatic 72, 3) := by decide +kernel
theorem dX10_thenListener_23 : decode cX10_thenListener 23 = .ok (.ifCond .ne 10, 3) := by decide +kernel
theorem dX10_thenListener_26 : decode cX10_thenListener 26 = .ok (.aload_n 0, 1) := by decide +kernel
theorem dX10_thenListener_27 : decode cX10_thenListener 27 = .ok (.ldc 83, 2) := by decide +kernel
theorem dX10_thenListener_29 : decode cX10_thenListener 29 = .ok (.invokevirtual 84, 3) := by decide +kernel
theorem dX10_thenListener_32 : decode cX10_thenListener 32 = .ok (.ireturn, 1) := by decide +kernel
theorem dX10_thenListener_33 : decode cX10_thenListener 33 = .ok (.aload_n 0, 1) := by decide +kernel
theorem dX10_thenListener_34 : decode cX10_thenListener 34 = .ok (.getfield 9, 3) := by decide +kernel
theorem dX10_thenListener_37 : decode cX10_thenListener 37 = .ok (.aload_n 0, 1) := by decide +kernel
theorem dX10_thenListener_38 : decode cX10_thenListener 38 = .ok (.getfield 16, 3) := by decide +kernel
theorem dX10_thenListener_41 : decode cX10_thenListener 41 = .ok (.invokestatic 76, 3) := by decide +kernel
theorem dX10_thenListener_44 : decode cX10_thenListener 44 = .ok (.aload_n 0, 1) := by decide +kernel
theorem dX10_thenListener_45 : decode cX10_thenListener 45 = .ok (.iload_n 1, 1) := by decide +kernel
theorem dX10_thenListener_46 : decode cX10_thenListener 46 = .ok (.iconst 0, 1) := by decide +kernel
theorem dX10_thenListener_47 : decode cX10_thenListener 47 = .ok (.invokevirtual 233, 3) := by decide +kernel
theorem dX10_thenListener_50 : decode cX10_thenListener 50 = .ok (.aload_n 0, 1) := by decide +kernel
theorem dX10_thenListener_51 : decode cX10_thenListener 51 = .ok (.aload_n 0, 1) := by decide +kernel
theorem dX10_thenListener_52 : decode cX10_thenListener 52 = .ok (.iload_n 2, 1) := by decide +kernel
theorem dX10_thenListener_53 : decode cX10_thenListener 53 = .ok (.iload_n 3, 1) := by decide +kernel
theorem dX10_thenListener_54 : decode cX10_thenListener 54 = .ok (.invokevirtual 139, 3) := by decide +kernel
theorem dX10_thenListener_57 : decode cX10_thenListener 57 = .ok (.invokevirtual 244, 3) := by decide +kernel
theorem dX10_thenListener_60 : decode cX10_thenListener 60 = .ok (.ireturn, 1) := by decide +kernel
theorem dX10_scoreBy_0 : decode cX10_scoreBy 0 = .ok (.iconst 0, 1) := by decide +kernel
theorem dX10_scoreBy_1 : decode cX10_scoreBy 1 = .ok (.istore_n 3, 1) := by decide +kernel
theorem dX10_scoreBy_2 : decode cX10_scoreBy 2 = .ok (.iconst 0, 1) := by decide +kernel
theorem dX10_scoreBy_3 : decode cX10_scoreBy 3 = .ok (.istore 4, 2) := by decide +kernel
theorem dX10_scoreBy_5 : decode cX10_scoreBy 5 = .ok (.iload 4, 2) := by decide +kernel
theorem dX10_scoreBy_7 : decode cX10_scoreBy 7 = .ok (.iload_n 2, 1) := by decide +kernel
theorem dX10_scoreBy_8 : decode cX10_scoreBy 8 = .ok (.if_icmp .ge 33, 3) := by decide +kernel
theorem dX10_scoreBy_11 : decode cX10_scoreBy 11 = .ok (.iload_n 3, 1) := by decide +kernel
theorem dX10_scoreBy_12 : decode cX10_scoreBy 12 = .ok (.aload_n 0, 1) := by decide +kernel
theorem dX10_scoreBy_13 : decode cX10_scoreBy 13 = .ok (.iload_n 1, 1) := by decide +kernel
theorem dX10_scoreBy_14 : decode cX10_scoreBy 14 = .ok (.aload_n 0, 1) := by decide +kernel
theorem dX10_scoreBy_15 : decode cX10_scoreBy 15 = .ok (.invokevirtual 133, 3) := by decide +kernel
theorem dX10_scoreBy_18 : decode cX10_scoreBy 18 = .ok (.invokevirtual 136, 3) := by decide +kernel
theorem dX10_scoreBy_21 : decode cX10_scoreBy 21 = .ok (.ifCond .eq 7, 3) := by decide +kernel
theorem dX10_scoreBy_24 : decode cX10_scoreBy 24 = .ok (.iconst 1, 1) := by decide +kernel
theorem dX10_scoreBy_25 : decode cX10_scoreBy 25 = .ok (.goto 4, 3) := by decide +kernel
theorem dX10_scoreBy_28 : decode cX10_scoreBy 28 = .ok (.iconst 0, 1) := by decide +kernel
theorem dX10_scoreBy_29 : decode cX10_scoreBy 29 = .ok (.iadd, 1) := by decide +kernel
theorem dX10_scoreBy_30 : decode cX10_scoreBy 30 = .ok (.istore_n 3, 1) := by decide +kernel
theorem dX10_scoreBy_31 : decode cX10_scoreBy 31 = .ok (.aload_n 0, 1) := by decide +kernel
theorem dX10_scoreBy_32 : decode cX10_scoreBy 32 = .ok (.invokevirtual 229, 3) := by decide +kernel
theorem dX10_scoreBy_35 : decode cX10_scoreBy 35 = .ok (.iinc 4 1, 3) := by decide +kernel
theorem dX10_scoreBy_38 : decode cX10_scoreBy 38 = .ok (.goto (-33), 3) := by decide +kernel
theorem dX10_scoreBy_41 : decode cX10_scoreBy 41 = .ok (.aload_n 0, 1) := by decide +kernel
theorem dX10_scoreBy_42 : decode cX10_scoreBy 42 = .ok (.iload_n 3, 1) := by decide +kernel
theorem dX10_scoreBy_43 : decode cX10_scoreBy 43 = .ok (.invokevirtual 244, 3) := by decide +kernel
theorem dX10_scoreBy_46 : decode cX10_scoreBy 46 = .ok (.ireturn, 1) := by decide +kernel
theorem dX10_score_0 : decode cX10_score 0 = .ok (.iload_n 1, 1) := by decide +kernel
theorem dX10_score_1 : decode cX10_score 1 = .ok (.invokestatic 88, 3) := by decide +kernel
theorem dX10_score_4 : decode cX10_score 4 = .ok (.ifCond .eq 10, 3) := by decide +kernel
theorem dX10_score_7 : decode cX10_score 7 = .ok (.iload_n 2, 1) := by decide +kernel
theorem dX10_score_8 : decode cX10_score 8 = .ok (.invokestatic 241, 3) := by decide +kernel
theorem dX10_score_11 : decode cX10_score 11 = .ok (.ifCond .ne 10, 3) := by decide +kernel
theorem dX10_score_14 : decode cX10_score 14 = .ok (.aload_n 0, 1) := by decide +kernel
theorem dX10_score_15 : decode cX10_score 15 = .ok (.ldc 83, 2) := by decide +kernel
theorem dX10_score_17 : decode cX10_score 17 = .ok (.invokevirtual 84, 3) := by decide +kernel
theorem dX10_score_20 : decode cX10_score 20 = .ok (.ireturn, 1) := by decide +kernel
theorem dX10_score_21 : decode cX10_score 21 = .ok (.aload_n 0, 1) := by decide +kernel
theorem dX10_score_22 : decode cX10_score 22 = .ok (.getfield 9, 3) := by decide +kernel
theorem dX10_score_25 : decode cX10_score 25 = .ok (.aload_n 0, 1) := by decide +kernel
theorem dX10_score_26 : decode cX10_score 26 = .ok (.getfield 16, 3) := by decide +kernel
theorem dX10_score_29 : decode cX10_score 29 = .ok (.invokestatic 76, 3) := by decide +kernel
theorem dX10_score_32 : decode cX10_score 32 = .ok (.aload_n 0, 1) := by decide +kernel
theorem dX10_score_33 : decode cX10_score 33 = .ok (.iload_n 1, 1) := by decide +kernel
theorem dX10_score_34 : decode cX10_score 34 = .ok (.iload_n 2, 1) := by decide +kernel
theorem dX10_score_35 : decode cX10_score 35 = .ok (.invokevirtual 247, 3) := by decide +kernel
theorem dX10_score_38 : decode cX10_score 38 = .ok (.ireturn, 1) := by decide +kernel
theorem dX10_findScores_0 : decode cX10_findScores 0 = .ok (.aload_n 0, 1) := by decide +kernel
theorem dX10_findScores_1 : decode cX10_findScores 1 = .ok (.getfield 9, 3) := by decide +kernel
theorem dX10_findScores_4 : decode cX10_findScores 4 = .ok (.aload_n 0, 1) := by decide +kernel
theorem dX10_findScores_5 : decode cX10_findScores 5 = .ok (.getfield 16, 3) := by decide +kernel
theorem dX10_findScores_8 : decode cX10_findScores 8 = .ok (.invokestatic 76, 3) := by decide +kernel
theorem dX10_findScores_11 : decode cX10_findScores 11 = .ok (.iconst 0, 1) := by decide +kernel
theorem dX10_findScores_12 : decode cX10_findScores 12 = .ok (.istore_n 2, 1) := by decide +kernel
theorem dX10_findScores_13 : decode cX10_findScores 13 = .ok (.iconst 0, 1) := by decide +kernel
theorem dX10_findScores_14 : decode cX10_findScores 14 = .ok (.istore_n 3, 1) := by decide +kernel
theorem dX10_findScores_15 : decode cX10_findScores 15 = .ok (.iload_n 3, 1) := by decide +kernel
theorem dX10_findScores_16 : decode cX10_findScores 16 = .ok (.bipush 64, 2) := by decide +kernel
theorem dX10_findScores_18 : decode cX10_findScores 18 = .ok (.if_icmp .ge 32, 3) := by decide +kernel
theorem dX10_findScores_21 : decode cX10_findScores 21 = .ok (.aload_n 0, 1) := by decide +kernel
theorem dX10_findScores_22 : decode cX10_findScores 22 = .ok (.getfield 44, 3) := by decide +kernel
theorem dX10_findScores_25 : decode cX10_findScores 25 = .ok (.iload_n 3, 1) := by decide +kernel
theorem dX10_findScores_26 : decode cX10_findScores 26 = .ok (.aload_n 0, 1) := by decide +kernel
theorem dX10_findScores_27 : decode cX10_findScores 27 = .ok (.iload_n 3, 1) := by decide +kernel
theorem dX10_findScores_28 : decode cX10_findScores 28 = .ok (.iload_n 1, 1) := by decide +kernel
theorem dX10_findScores_29 : decode cX10_findScores 29 = .ok (.invokevirtual 247, 3) := by decide +kernel
theorem dX10_findScores_32 : decode cX10_findScores 32 = .ok (.iastore, 1) := by decide +kernel
theorem dX10_findScores_33 : decode cX10_findScores 33 = .ok (.iload_n 2, 1) := by decide +kernel
theorem dX10_findScores_34 : decode cX10_findScores 34 = .ok (.aload_n 0, 1) := by decide +kernel
theorem dX10_findScores_35 : decode cX10_findScores 35 = .ok (.getfield 44, 3) := by decide +kernel
theorem dX10_findScores_38 : decode cX10_findScores 38 = .ok (.iload_n 3, 1) := by decide +kernel
theorem dX10_findScores_39 : decode cX10_findScores 39 = .ok (.iaload, 1) := by decide +kernel
theorem dX10_findScores_40 : decode cX10_findScores 40 = .ok (.invokestatic 69, 3) := by decide +kernel
theorem dX10_findScores_43 : decode cX10_findScores 43 = .ok (.istore_n 2, 1) := by decide +kernel
theorem dX10_findScores_44 : decode cX10_findScores 44 = .ok (.iinc 3 1, 3) := by decide +kernel
theorem dX10_findScores_47 : decode cX10_findScores 47 = .ok (.goto (-32), 3) := by decide +kernel
theorem dX10_findScores_50 : decode cX10_findScores 50 = .ok (.iload_n 2, 1) := by decide +kernel
theorem dX10_findScores_51 : decode cX10_findScores 51 = .ok (.ireturn, 1) := by decide +kernel
theorem dX10_place_0 : decode cX10_place 0 = .ok (.iload_n 1, 1) := by decide +kernel
theorem dX10_place_1 : decode cX10_place 1 = .ok (.invokestatic 241, 3) := by decide +kernel
theorem dX10_place_4 : decode cX10_place 4 = .ok (.ifCond .ne 10, 3) := by decide +kernel
theorem dX10_place_7 : decode cX10_place 7 = .ok (.aload_n 0, 1) := by decide +kernel
theorem dX10_place_8 : decode cX10_place 8 = .ok (.ldc 83, 2) := by decide +kernel
theorem dX10_place_10 : decode cX10_place 10 = .ok (.invokevirtual 84, 3) := by decide +kernel
theorem dX10_place_13 : decode cX10_place 13 = .ok (.ireturn, 1) := by decide +kernel
theorem dX10_place_14 : decode cX10_place 14 = .ok (.aload_n 0, 1) := by decide +kernel
theorem dX10_place_15 : decode cX10_place 15 = .ok (.iload_n 1, 1) := by decide +kernel
theorem dX10_place_16 : decode cX10_place 16 = .ok (.invokevirtual 250, 3) := by decide +kernel
theorem dX10_place_19 : decode cX10_place 19 = .ok (.istore_n 2, 1) := by decide +kernel
theorem dX10_place_20 : decode cX10_place 20 = .ok (.iconst 0, 1) := by decide +kernel
theorem dX10_place_21 : decode cX10_place 21 = .ok (.istore_n 3, 1) := by decide +kernel
theorem dX10_place_22 : decode cX10_place 22 = .ok (.aload_n 0, 1) := by decide +kernel
theorem dX10_place_23 : decode cX10_place 23 = .ok (.getfield 44, 3) := by decide +kernel
theorem dX10_place_26 : decode cX10_place 26 = .ok (.iload_n 3, 1) := by decide +kernel
theorem dX10_place_27 : decode cX10_place 27 = .ok (.iaload, 1) := by decide +kernel
theorem dX10_place_28 : decode cX10_place 28 = .ok (.iload_n 2, 1) := by decide +kernel
theorem dX10_place_29 : decode cX10_place 29 = .ok (.if_icmp .ge 9, 3) := by decide +kernel
theorem dX10_place_32 : decode cX10_place 32 = .ok (.iinc 3 1, 3) := by decide +kernel
theorem dX10_place_35 : decode cX10_place 35 = .ok (.goto (-13), 3) := by decide +kernel
theorem dX10_place_38 : decode cX10_place 38 = .ok (.iload_n 3, 1) := by decide +kernel
theorem dX10_place_39 : decode cX10_place 39 = .ok (.ireturn, 1) := by decide +kernel
theorem dX10_fromHere_0 : decode cX10_fromHere 0 = .ok (.iload_n 1, 1) := by decide +kernel
theorem dX10_fromHere_1 : decode cX10_fromHere 1 = .ok (.invokestatic 241, 3) := by decide +kernel
theorem dX10_fromHere_4 : decode cX10_fromHere 4 = .ok (.ifCond .ne 11, 3) := by decide +kernel
theorem dX10_fromHere_7 : decode cX10_fromHere 7 = .ok (.aload_n 0, 1) := by decide +kernel
theorem dX10_fromHere_8 : decode cX10_fromHere 8 = .ok (.ldc 83, 2) := by decide +kernel
theorem dX10_fromHere_10 : decode cX10_fromHere 10 = .ok (.invokevirtual 84, 3) := by decide +kernel
theorem dX10_fromHere_13 : decode cX10_fromHere 13 = .ok (.i2l, 1) := by decide +kernel
theorem dX10_fromHere_14 : decode cX10_fromHere 14 = .ok (.lreturn, 1) := by decide +kernel
theorem dX10_fromHere_15 : decode cX10_fromHere 15 = .ok (.aload_n 0, 1) := by decide +kernel
theorem dX10_fromHere_16 : decode cX10_fromHere 16 = .ok (.iload_n 1, 1) := by decide +kernel
theorem dX10_fromHere_17 : decode cX10_fromHere 17 = .ok (.invokevirtual 250, 3) := by decide +kernel
theorem dX10_fromHere_20 : decode cX10_fromHere 20 = .ok (.istore_n 2, 1) := by decide +kernel
theorem dX10_fromHere_21 : decode cX10_fromHere 21 = .ok (.lconst 0, 1) := by decide +kernel
theorem dX10_fromHere_22 : decode cX10_fromHere 22 = .ok (.lstore_n 3, 1) := by decide +kernel
theorem dX10_fromHere_23 : decode cX10_fromHere 23 = .ok (.iconst 0, 1) := by decide +kernel
theorem dX10_fromHere_24 : decode cX10_fromHere 24 = .ok (.istore 5, 2) := by decide +kernel
theorem dX10_fromHere_26 : decode cX10_fromHere 26 = .ok (.iload 5, 2) := by decide +kernel
theorem dX10_fromHere_28 : decode cX10_fromHere 28 = .ok (.bipush 64, 2) := by decide +kernel
theorem dX10_fromHere_30 : decode cX10_fromHere 30 = .ok (.if_icmp .ge 31, 3) := by decide +kernel
theorem dX10_fromHere_33 : decode cX10_fromHere 33 = .ok (.lload_n 3, 1) := by decide +kernel
theorem dX10_fromHere_34 : decode cX10_fromHere 34 = .ok (.aload_n 0, 1) := by decide +kernel
theorem dX10_fromHere_35 : decode cX10_fromHere 35 = .ok (.getfield 44, 3) := by decide +kernel
theorem dX10_fromHere_38 : decode cX10_fromHere 38 = .ok (.iload 5, 2) := by decide +kernel
theorem dX10_fromHere_40 : decode cX10_fromHere 40 = .ok (.iaload, 1) := by decide +kernel
theorem dX10_fromHere_41 : decode cX10_fromHere 41 = .ok (.iload_n 2, 1) := by decide +kernel
theorem dX10_fromHere_42 : decode cX10_fromHere 42 = .ok (.if_icmp .ne 10, 3) := by decide +kernel
theorem dX10_fromHere_45 : decode cX10_fromHere 45 = .ok (.lconst 1, 1) := by decide +kernel
theorem dX10_fromHere_46 : decode cX10_fromHere 46 = .ok (.iload 5, 2) := by decide +kernel
theorem dX10_fromHere_48 : decode cX10_fromHere 48 = .ok (.lshl, 1) := by decide +kernel
theorem dX10_fromHere_49 : decode cX10_fromHere 49 = .ok (.goto 4, 3) := by decide +kernel
theorem dX10_fromHere_52 : decode cX10_fromHere 52 = .ok (.lconst 0, 1) := by decide +kernel
theorem dX10_fromHere_53 : decode cX10_fromHere 53 = .ok (.lor, 1) := by decide +kernel
theorem dX10_fromHere_54 : decode cX10_fromHere 54 = .ok (.lstore_n 3, 1) := by decide +kernel
theorem dX10_fromHere_55 : decode cX10_fromHere 55 = .ok (.iinc 5 1, 3) := by decide +kernel
theorem dX10_fromHere_58 : decode cX10_fromHere 58 = .ok (.goto (-32), 3) := by decide +kernel
theorem dX10_fromHere_61 : decode cX10_fromHere 61 = .ok (.lload_n 3, 1) := by decide +kernel
theorem dX10_fromHere_62 : decode cX10_fromHere 62 = .ok (.lreturn, 1) := by decide +kernel
theorem dX10_mooring_0 : decode cX10_mooring 0 = .ok (.aload_n 0, 1) := by decide +kernel
theorem dX10_mooring_1 : decode cX10_mooring 1 = .ok (.iload_n 1, 1) := by decide +kernel
theorem dX10_mooring_2 : decode cX10_mooring 2 = .ok (.bipush 7, 2) := by decide +kernel
theorem dX10_mooring_4 : decode cX10_mooring 4 = .ok (.invokevirtual 100, 3) := by decide +kernel
theorem dX10_mooring_7 : decode cX10_mooring 7 = .ok (.ifCond .eq 17, 3) := by decide +kernel
theorem dX10_mooring_10 : decode cX10_mooring 10 = .ok (.iload_n 2, 1) := by decide +kernel
theorem dX10_mooring_11 : decode cX10_mooring 11 = .ok (.invokestatic 88, 3) := by decide +kernel
theorem dX10_mooring_14 : decode cX10_mooring 14 = .ok (.ifCond .eq 10, 3) := by decide +kernel
theorem dX10_mooring_17 : decode cX10_mooring 17 = .ok (.iload_n 3, 1) := by decide +kernel
theorem dX10_mooring_18 : decode cX10_mooring 18 = .ok (.invokestatic 241, 3) := by decide +kernel
theorem dX10_mooring_21 : decode cX10_mooring 21 = .ok (.ifCond .ne 10, 3) := by decide +kernel
theorem dX10_mooring_24 : decode cX10_mooring 24 = .ok (.aload_n 0, 1) := by decide +kernel
theorem dX10_mooring_25 : decode cX10_mooring 25 = .ok (.ldc 83, 2) := by decide +kernel
theorem dX10_mooring_27 : decode cX10_mooring 27 = .ok (.invokevirtual 84, 3) := by decide +kernel
theorem dX10_mooring_30 : decode cX10_mooring 30 = .ok (.ireturn, 1) := by decide +kernel
theorem dX10_mooring_31 : decode cX10_mooring 31 = .ok (.aload_n 0, 1) := by decide +kernel
theorem dX10_mooring_32 : decode cX10_mooring 32 = .ok (.getfield 9, 3) := by decide +kernel
theorem dX10_mooring_35 : decode cX10_mooring 35 = .ok (.aload_n 0, 1) := by decide +kernel
theorem dX10_mooring_36 : decode cX10_mooring 36 = .ok (.getfield 16, 3) := by decide +kernel
theorem dX10_mooring_39 : decode cX10_mooring 39 = .ok (.invokestatic 76, 3) := by decide +kernel
theorem dX10_mooring_42 : decode cX10_mooring 42 = .ok (.iconst 0, 1) := by decide +kernel
theorem dX10_mooring_43 : decode cX10_mooring 43 = .ok (.istore 4, 2) := by decide +kernel
theorem dX10_mooring_45 : decode cX10_mooring 45 = .ok (.iconst (-1), 1) := by decide +kernel
theorem dX10_mooring_46 : decode cX10_mooring 46 = .ok (.istore 5, 2) := by decide +kernel
theorem dX10_mooring_48 : decode cX10_mooring 48 = .ok (.iconst 0, 1) := by decide +kernel
theorem dX10_mooring_49 : decode cX10_mooring 49 = .ok (.istore 6, 2) := by decide +kernel
theorem dX10_mooring_51 : decode cX10_mooring 51 = .ok (.iload 6, 2) := by decide +kernel
theorem dX10_mooring_53 : decode cX10_mooring 53 = .ok (.bipush 64, 2) := by decide +kernel
theorem dX10_mooring_55 : decode cX10_mooring 55 = .ok (.if_icmp .ge 57, 3) := by decide +kernel
theorem dX10_mooring_58 : decode cX10_mooring 58 = .ok (.aload_n 0, 1) := by decide +kernel
theorem dX10_mooring_59 : decode cX10_mooring 59 = .ok (.getfield 9, 3) := by decide +kernel
theorem dX10_mooring_62 : decode cX10_mooring 62 = .ok (.bipush 12, 2) := by decide +kernel
theorem dX10_mooring_64 : decode cX10_mooring 64 = .ok (.iconst 4, 1) := by decide +kernel
theorem dX10_mooring_65 : decode cX10_mooring 65 = .ok (.iload_n 1, 1) := by decide +kernel
theorem dX10_mooring_66 : decode cX10_mooring 66 = .ok (.imul, 1) := by decide +kernel
theorem dX10_mooring_67 : decode cX10_mooring 67 = .ok (.iadd, 1) := by decide +kernel
theorem dX10_mooring_68 : decode cX10_mooring 68 = .ok (.iconst 2, 1) := by decide +kernel
theorem dX10_mooring_69 : decode cX10_mooring 69 = .ok (.iadd, 1) := by decide +kernel
theorem dX10_mooring_70 : decode cX10_mooring 70 = .ok (.iload 6, 2) := by decide +kernel
theorem dX10_mooring_72 : decode cX10_mooring 72 = .ok (.iastore, 1) := by decide +kernel
theorem dX10_mooring_73 : decode cX10_mooring 73 = .ok (.aload_n 0, 1) := by decide +kernel
theorem dX10_mooring_74 : decode cX10_mooring 74 = .ok (.iload_n 2, 1) := by decide +kernel
theorem dX10_mooring_75 : decode cX10_mooring 75 = .ok (.iload_n 3, 1) := by decide +kernel
theorem dX10_mooring_76 : decode cX10_mooring 76 = .ok (.invokevirtual 247, 3) := by decide +kernel
theorem dX10_mooring_79 : decode cX10_mooring 79 = .ok (.istore 7, 2) := by decide +kernel
theorem dX10_mooring_81 : decode cX10_mooring 81 = .ok (.iload 7, 2) := by decide +kernel
theorem dX10_mooring_83 : decode cX10_mooring 83 = .ok (.iload 5, 2) := by decide +kernel
theorem dX10_mooring_85 : decode cX10_mooring 85 = .ok (.if_icmp .le 8, 3) := by decide +kernel
theorem dX10_mooring_88 : decode cX10_mooring 88 = .ok (.iload 6, 2) := by decide +kernel
theorem dX10_mooring_90 : decode cX10_mooring 90 = .ok (.goto 5, 3) := by decide +kernel
theorem dX10_mooring_93 : decode cX10_mooring 93 = .ok (.iload 4, 2) := by decide +kernel
theorem dX10_mooring_95 : decode cX10_mooring 95 = .ok (.istore 4, 2) := by decide +kernel
theorem dX10_mooring_97 : decode cX10_mooring 97 = .ok (.iload 5, 2) := by decide +kernel
theorem dX10_mooring_99 : decode cX10_mooring 99 = .ok (.iload 7, 2) := by decide +kernel
theorem dX10_mooring_101 : decode cX10_mooring 101 = .ok (.invokestatic 69, 3) := by decide +kernel
theorem dX10_mooring_104 : decode cX10_mooring 104 = .ok (.istore 5, 2) := by decide +kernel
theorem dX10_mooring_106 : decode cX10_mooring 106 = .ok (.iinc 6 1, 3) := by decide +kernel
theorem dX10_mooring_109 : decode cX10_mooring 109 = .ok (.goto (-58), 3) := by decide +kernel
theorem dX10_mooring_112 : decode cX10_mooring 112 = .ok (.iload 4, 2) := by decide +kernel
theorem dX10_mooring_114 : decode cX10_mooring 114 = .ok (.ireturn, 1) := by decide +kernel
theorem dX10_sooner_0 : decode cX10_sooner 0 = .ok (.aload_n 0, 1) := by decide +kernel
theorem dX10_sooner_1 : decode cX10_sooner 1 = .ok (.iload_n 1, 1) := by decide +kernel
theorem dX10_sooner_2 : decode cX10_sooner 2 = .ok (.bipush 7, 2) := by decide +kernel
theorem dX10_sooner_4 : decode cX10_sooner 4 = .ok (.invokevirtual 100, 3) := by decide +kernel
theorem dX10_sooner_7 : decode cX10_sooner 7 = .ok (.ifCond .eq 17, 3) := by decide +kernel
theorem dX10_sooner_10 : decode cX10_sooner 10 = .ok (.iload_n 2, 1) := by decide +kernel
theorem dX10_sooner_11 : decode cX10_sooner 11 = .ok (.invokestatic 88, 3) := by decide +kernel
theorem dX10_sooner_14 : decode cX10_sooner 14 = .ok (.ifCond .eq 10, 3) := by decide +kernel
theorem dX10_sooner_17 : decode cX10_sooner 17 = .ok (.iload_n 3, 1) := by decide +kernel
theorem dX10_sooner_18 : decode cX10_sooner 18 = .ok (.invokestatic 241, 3) := by decide +kernel
theorem dX10_sooner_21 : decode cX10_sooner 21 = .ok (.ifCond .ne 10, 3) := by decide +kernel
theorem dX10_sooner_24 : decode cX10_sooner 24 = .ok (.aload_n 0, 1) := by decide +kernel
theorem dX10_sooner_25 : decode cX10_sooner 25 = .ok (.ldc 83, 2) := by decide +kernel
theorem dX10_sooner_27 : decode cX10_sooner 27 = .ok (.invokevirtual 84, 3) := by decide +kernel
theorem dX10_sooner_30 : decode cX10_sooner 30 = .ok (.ireturn, 1) := by decide +kernel
theorem dX10_sooner_31 : decode cX10_sooner 31 = .ok (.aload_n 0, 1) := by decide +kernel
theorem dX10_sooner_32 : decode cX10_sooner 32 = .ok (.getfield 9, 3) := by decide +kernel
theorem dX10_sooner_35 : decode cX10_sooner 35 = .ok (.aload_n 0, 1) := by decide +kernel
theorem dX10_sooner_36 : decode cX10_sooner 36 = .ok (.getfield 16, 3) := by decide +kernel
theorem dX10_sooner_39 : decode cX10_sooner 39 = .ok (.invokestatic 76, 3) := by decide +kernel
theorem dX10_sooner_42 : decode cX10_sooner 42 = .ok (.iconst 0, 1) := by decide +kernel
theorem dX10_sooner_43 : decode cX10_sooner 43 = .ok (.istore 4, 2) := by decide +kernel
theorem dX10_sooner_45 : decode cX10_sooner 45 = .ok (.iconst (-1), 1) := by decide +kernel
theorem dX10_sooner_46 : decode cX10_sooner 46 = .ok (.istore 5, 2) := by decide +kernel
theorem dX10_sooner_48 : decode cX10_sooner 48 = .ok (.aload_n 0, 1) := by decide +kernel
theorem dX10_sooner_49 : decode cX10_sooner 49 = .ok (.iload_n 1, 1) := by decide +kernel
theorem dX10_sooner_50 : decode cX10_sooner 50 = .ok (.iconst 3, 1) := by decide +kernel
theorem dX10_sooner_51 : decode cX10_sooner 51 = .ok (.invokevirtual 93, 3) := by decide +kernel
theorem dX10_sooner_54 : decode cX10_sooner 54 = .ok (.istore 6, 2) := by decide +kernel
theorem dX10_sooner_56 : decode cX10_sooner 56 = .ok (.iconst 0, 1) := by decide +kernel
theorem dX10_sooner_57 : decode cX10_sooner 57 = .ok (.istore 7, 2) := by decide +kernel
theorem dX10_sooner_59 : decode cX10_sooner 59 = .ok (.iload 7, 2) := by decide +kernel
theorem dX10_sooner_61 : decode cX10_sooner 61 = .ok (.bipush 32, 2) := by decide +kernel
theorem dX10_sooner_63 : decode cX10_sooner 63 = .ok (.if_icmp .ge 79, 3) := by decide +kernel
theorem dX10_sooner_66 : decode cX10_sooner 66 = .ok (.aload_n 0, 1) := by decide +kernel
theorem dX10_sooner_67 : decode cX10_sooner 67 = .ok (.getfield 9, 3) := by decide +kernel
theorem dX10_sooner_70 : decode cX10_sooner 70 = .ok (.bipush 12, 2) := by decide +kernel
theorem dX10_sooner_72 : decode cX10_sooner 72 = .ok (.iconst 4, 1) := by decide +kernel
theorem dX10_sooner_73 : decode cX10_sooner 73 = .ok (.iload_n 1, 1) := by decide +kernel
theorem dX10_sooner_74 : decode cX10_sooner 74 = .ok (.imul, 1) := by decide +kernel
theorem dX10_sooner_75 : decode cX10_sooner 75 = .ok (.iadd, 1) := by decide +kernel
theorem dX10_sooner_76 : decode cX10_sooner 76 = .ok (.iconst 3, 1) := by decide +kernel
theorem dX10_sooner_77 : decode cX10_sooner 77 = .ok (.iadd, 1) := by decide +kernel
theorem dX10_sooner_78 : decode cX10_sooner 78 = .ok (.iload 7, 2) := by decide +kernel
theorem dX10_sooner_80 : decode cX10_sooner 80 = .ok (.ifCond .ne 8, 3) := by decide +kernel
theorem dX10_sooner_83 : decode cX10_sooner 83 = .ok (.iload 6, 2) := by decide +kernel
theorem dX10_sooner_85 : decode cX10_sooner 85 = .ok (.goto 17, 3) := by decide +kernel
theorem dX10_sooner_88 : decode cX10_sooner 88 = .ok (.iload 6, 2) := by decide +kernel
theorem dX10_sooner_90 : decode cX10_sooner 90 = .ok (.iload 7, 2) := by decide +kernel
theorem dX10_sooner_92 : decode cX10_sooner 92 = .ok (.iushr, 1) := by decide +kernel
theorem dX10_sooner_93 : decode cX10_sooner 93 = .ok (.iload 6, 2) := by decide +kernel
theorem dX10_sooner_95 : decode cX10_sooner 95 = .ok (.bipush 32, 2) := by decide +kernel
theorem dX10_sooner_97 : decode cX10_sooner 97 = .ok (.iload 7, 2) := by decide +kernel
theorem dX10_sooner_99 : decode cX10_sooner 99 = .ok (.isub, 1) := by decide +kernel
theorem dX10_sooner_100 : decode cX10_sooner 100 = .ok (.ishl, 1) := by decide +kernel
theorem dX10_sooner_101 : decode cX10_sooner 101 = .ok (.ior, 1) := by decide +kernel
theorem dX10_sooner_102 : decode cX10_sooner 102 = .ok (.iastore, 1) := by decide +kernel
theorem dX10_sooner_103 : decode cX10_sooner 103 = .ok (.aload_n 0, 1) := by decide +kernel
theorem dX10_sooner_104 : decode cX10_sooner 104 = .ok (.iload_n 2, 1) := by decide +kernel
theorem dX10_sooner_105 : decode cX10_sooner 105 = .ok (.iload_n 3, 1) := by decide +kernel
theorem dX10_sooner_106 : decode cX10_sooner 106 = .ok (.invokevirtual 247, 3) := by decide +kernel
theorem dX10_sooner_109 : decode cX10_sooner 109 = .ok (.istore 8, 2) := by decide +kernel
theorem dX10_sooner_111 : decode cX10_sooner 111 = .ok (.iload 8, 2) := by decide +kernel
theorem dX10_sooner_113 : decode cX10_sooner 113 = .ok (.iload 5, 2) := by decide +kernel
theorem dX10_sooner_115 : decode cX10_sooner 115 = .ok (.if_icmp .le 8, 3) := by decide +kernel
theorem dX10_sooner_118 : decode cX10_sooner 118 = .ok (.iload 7, 2) := by decide +kernel
theorem dX10_sooner_120 : decode cX10_sooner 120 = .ok (.goto 5, 3) := by decide +kernel
theorem dX10_sooner_123 : decode cX10_sooner 123 = .ok (.iload 4, 2) := by decide +kernel
theorem dX10_sooner_125 : decode cX10_sooner 125 = .ok (.istore 4, 2) := by decide +kernel
theorem dX10_sooner_127 : decode cX10_sooner 127 = .ok (.iload 5, 2) := by decide +kernel
theorem dX10_sooner_129 : decode cX10_sooner 129 = .ok (.iload 8, 2) := by decide +kernel
theorem dX10_sooner_131 : decode cX10_sooner 131 = .ok (.invokestatic 69, 3) := by decide +kernel
theorem dX10_sooner_134 : decode cX10_sooner 134 = .ok (.istore 5, 2) := by decide +kernel
theorem dX10_sooner_136 : decode cX10_sooner 136 = .ok (.iinc 7 1, 3) := by decide +kernel
theorem dX10_sooner_139 : decode cX10_sooner 139 = .ok (.goto (-80), 3) := by decide +kernel
theorem dX10_sooner_142 : decode cX10_sooner 142 = .ok (.iload 4, 2) := by decide +kernel
theorem dX10_sooner_144 : decode cX10_sooner 144 = .ok (.ireturn, 1) := by decide +kernel
theorem dX10_fitSpeed_0 : decode cX10_fitSpeed 0 = .ok (.iload_n 1, 1) := by decide +kernel
theorem dX10_fitSpeed_1 : decode cX10_fitSpeed 1 = .ok (.invokestatic 88, 3) := by decide +kernel
theorem dX10_fitSpeed_4 : decode cX10_fitSpeed 4 = .ok (.ifCond .eq 10, 3) := by decide +kernel
theorem dX10_fitSpeed_7 : decode cX10_fitSpeed 7 = .ok (.iload_n 2, 1) := by decide +kernel
theorem dX10_fitSpeed_8 : decode cX10_fitSpeed 8 = .ok (.invokestatic 241, 3) := by decide +kernel
theorem dX10_fitSpeed_11 : decode cX10_fitSpeed 11 = .ok (.ifCond .ne 10, 3) := by decide +kernel
theorem dX10_fitSpeed_14 : decode cX10_fitSpeed 14 = .ok (.aload_n 0, 1) := by decide +kernel
theorem dX10_fitSpeed_15 : decode cX10_fitSpeed 15 = .ok (.ldc 83, 2) := by decide +kernel
theorem dX10_fitSpeed_17 : decode cX10_fitSpeed 17 = .ok (.invokevirtual 84, 3) := by decide +kernel
theorem dX10_fitSpeed_20 : decode cX10_fitSpeed 20 = .ok (.ireturn, 1) := by decide +kernel
theorem dX10_fitSpeed_21 : decode cX10_fitSpeed 21 = .ok (.aload_n 0, 1) := by decide +kernel
theorem dX10_fitSpeed_22 : decode cX10_fitSpeed 22 = .ok (.getfield 9, 3) := by decide +kernel
theorem dX10_fitSpeed_25 : decode cX10_fitSpeed 25 = .ok (.aload_n 0, 1) := by decide +kernel
theorem dX10_fitSpeed_26 : decode cX10_fitSpeed 26 = .ok (.getfield 16, 3) := by decide +kernel
theorem dX10_fitSpeed_29 : decode cX10_fitSpeed 29 = .ok (.invokestatic 76, 3) := by decide +kernel
theorem dX10_fitSpeed_32 : decode cX10_fitSpeed 32 = .ok (.iconst 0, 1) := by decide +kernel
theorem dX10_fitSpeed_33 : decode cX10_fitSpeed 33 = .ok (.istore_n 3, 1) := by decide +kernel
theorem dX10_fitSpeed_34 : decode cX10_fitSpeed 34 = .ok (.iconst (-1), 1) := by decide +kernel
theorem dX10_fitSpeed_35 : decode cX10_fitSpeed 35 = .ok (.istore 4, 2) := by decide +kernel
theorem dX10_fitSpeed_37 : decode cX10_fitSpeed 37 = .ok (.iconst 1, 1) := by decide +kernel
theorem dX10_fitSpeed_38 : decode cX10_fitSpeed 38 = .ok (.istore 5, 2) := by decide +kernel
theorem dX10_fitSpeed_40 : decode cX10_fitSpeed 40 = .ok (.iload 5, 2) := by decide +kernel
theorem dX10_fitSpeed_42 : decode cX10_fitSpeed 42 = .ok (.bipush 9, 2) := by decide +kernel
theorem dX10_fitSpeed_44 : decode cX10_fitSpeed 44 = .ok (.if_icmp .gt 48, 3) := by decide +kernel
theorem dX10_fitSpeed_47 : decode cX10_fitSpeed 47 = .ok (.aload_n 0, 1) := by decide +kernel
theorem dX10_fitSpeed_48 : decode cX10_fitSpeed 48 = .ok (.getfield 9, 3) := by decide +kernel
theorem dX10_fitSpeed_51 : decode cX10_fitSpeed 51 = .ok (.iconst 1, 1) := by decide +kernel
theorem dX10_fitSpeed_52 : decode cX10_fitSpeed 52 = .ok (.iload 5, 2) := by decide +kernel
theorem dX10_fitSpeed_54 : decode cX10_fitSpeed 54 = .ok (.iastore, 1) := by decide +kernel
theorem dX10_fitSpeed_55 : decode cX10_fitSpeed 55 = .ok (.aload_n 0, 1) := by decide +kernel
theorem dX10_fitSpeed_56 : decode cX10_fitSpeed 56 = .ok (.iload_n 1, 1) := by decide +kernel
theorem dX10_fitSpeed_57 : decode cX10_fitSpeed 57 = .ok (.iload_n 2, 1) := by decide +kernel
theorem dX10_fitSpeed_58 : decode cX10_fitSpeed 58 = .ok (.invokevirtual 247, 3) := by decide +kernel
theorem dX10_fitSpeed_61 : decode cX10_fitSpeed 61 = .ok (.istore 6, 2) := by decide +kernel
theorem dX10_fitSpeed_63 : decode cX10_fitSpeed 63 = .ok (.iload 6, 2) := by decide +kernel
theorem dX10_fitSpeed_65 : decode cX10_fitSpeed 65 = .ok (.iload 4, 2) := by decide +kernel
theorem dX10_fitSpeed_67 : decode cX10_fitSpeed 67 = .ok (.if_icmp .le 8, 3) := by decide +kernel
theorem dX10_fitSpeed_70 : decode cX10_fitSpeed 70 = .ok (.iload 5, 2) := by decide +kernel
theorem dX10_fitSpeed_72 : decode cX10_fitSpeed 72 = .ok (.goto 4, 3) := by decide +kernel
theorem dX10_fitSpeed_75 : decode cX10_fitSpeed 75 = .ok (.iload_n 3, 1) := by decide +kernel
theorem dX10_fitSpeed_76 : decode cX10_fitSpeed 76 = .ok (.istore_n 3, 1) := by decide +kernel
theorem dX10_fitSpeed_77 : decode cX10_fitSpeed 77 = .ok (.iload 4, 2) := by decide +kernel
theorem dX10_fitSpeed_79 : decode cX10_fitSpeed 79 = .ok (.iload 6, 2) := by decide +kernel
theorem dX10_fitSpeed_81 : decode cX10_fitSpeed 81 = .ok (.invokestatic 69, 3) := by decide +kernel
theorem dX10_fitSpeed_84 : decode cX10_fitSpeed 84 = .ok (.istore 4, 2) := by decide +kernel
theorem dX10_fitSpeed_86 : decode cX10_fitSpeed 86 = .ok (.iinc 5 1, 3) := by decide +kernel
theorem dX10_fitSpeed_89 : decode cX10_fitSpeed 89 = .ok (.goto (-49), 3) := by decide +kernel
theorem dX10_fitSpeed_92 : decode cX10_fitSpeed 92 = .ok (.iload_n 3, 1) := by decide +kernel
theorem dX10_fitSpeed_93 : decode cX10_fitSpeed 93 = .ok (.ireturn, 1) := by decide +kernel
theorem dX10_areTold_0 : decode cX10_areTold 0 = .ok (.iload_n 0, 1) := by decide +kernel
theorem dX10_areTold_1 : decode cX10_areTold 1 = .ok (.iconst 0, 1) := by decide +kernel
theorem dX10_areTold_2 : decode cX10_areTold 2 = .ok (.ldc 253, 2) := by decide +kernel
theorem dX10_areTold_4 : decode cX10_areTold 4 = .ok (.invokestatic 72, 3) := by decide +kernel
theorem dX10_areTold_7 : decode cX10_areTold 7 = .ok (.ifCond .eq 17, 3) := by decide +kernel
theorem dX10_areTold_10 : decode cX10_areTold 10 = .ok (.iload_n 1, 1) := by decide +kernel
theorem dX10_areTold_11 : decode cX10_areTold 11 = .ok (.iconst 0, 1) := by decide +kernel
theorem dX10_areTold_12 : decode cX10_areTold 12 = .ok (.ldc 219, 2) := by decide +kernel
theorem dX10_areTold_14 : decode cX10_areTold 14 = .ok (.invokestatic 72, 3) := by decide +kernel
theorem dX10_areTold_17 : decode cX10_areTold 17 = .ok (.ifCond .eq 7, 3) := by decide +kernel
theorem dX10_areTold_20 : decode cX10_areTold 20 = .ok (.iconst 1, 1) := by decide +kernel
theorem dX10_areTold_21 : decode cX10_areTold 21 = .ok (.goto 4, 3) := by decide +kernel
theorem dX10_areTold_24 : decode cX10_areTold 24 = .ok (.iconst 0, 1) := by decide +kernel
theorem dX10_areTold_25 : decode cX10_areTold 25 = .ok (.ireturn, 1) := by decide +kernel
theorem dX10_mayBeFrom_0 : decode cX10_mayBeFrom 0 = .ok (.aload_n 0, 1) := by decide +kernel
theorem dX10_mayBeFrom_1 : decode cX10_mayBeFrom 1 = .ok (.iload_n 1, 1) := by decide +kernel
theorem dX10_mayBeFrom_2 : decode cX10_mayBeFrom 2 = .ok (.iload_n 2, 1) := by decide +kernel
theorem dX10_mayBeFrom_3 : decode cX10_mayBeFrom 3 = .ok (.sipush 4096, 3) := by decide +kernel
theorem dX10_mayBeFrom_6 : decode cX10_mayBeFrom 6 = .ok (.idiv, 1) := by decide +kernel
theorem dX10_mayBeFrom_7 : decode cX10_mayBeFrom 7 = .ok (.invokevirtual 121, 3) := by decide +kernel
theorem dX10_mayBeFrom_10 : decode cX10_mayBeFrom 10 = .ok (.iload_n 3, 1) := by decide +kernel
theorem dX10_mayBeFrom_11 : decode cX10_mayBeFrom 11 = .ok (.sipush 10000, 3) := by decide +kernel
theorem dX10_mayBeFrom_14 : decode cX10_mayBeFrom 14 = .ok (.idiv, 1) := by decide +kernel
theorem dX10_mayBeFrom_15 : decode cX10_mayBeFrom 15 = .ok (.if_icmp .ne 45, 3) := by decide +kernel
theorem dX10_mayBeFrom_18 : decode cX10_mayBeFrom 18 = .ok (.aload_n 0, 1) := by decide +kernel
theorem dX10_mayBeFrom_19 : decode cX10_mayBeFrom 19 = .ok (.iload_n 1, 1) := by decide +kernel
theorem dX10_mayBeFrom_20 : decode cX10_mayBeFrom 20 = .ok (.iload_n 2, 1) := by decide +kernel
theorem dX10_mayBeFrom_21 : decode cX10_mayBeFrom 21 = .ok (.bipush 64, 2) := by decide +kernel
theorem dX10_mayBeFrom_23 : decode cX10_mayBeFrom 23 = .ok (.idiv, 1) := by decide +kernel
theorem dX10_mayBeFrom_24 : decode cX10_mayBeFrom 24 = .ok (.bipush 64, 2) := by decide +kernel
theorem dX10_mayBeFrom_26 : decode cX10_mayBeFrom 26 = .ok (.irem, 1) := by decide +kernel
theorem dX10_mayBeFrom_27 : decode cX10_mayBeFrom 27 = .ok (.invokevirtual 121, 3) := by decide +kernel
theorem dX10_mayBeFrom_30 : decode cX10_mayBeFrom 30 = .ok (.iload_n 3, 1) := by decide +kernel
theorem dX10_mayBeFrom_31 : decode cX10_mayBeFrom 31 = .ok (.bipush 100, 2) := by decide +kernel
theorem dX10_mayBeFrom_33 : decode cX10_mayBeFrom 33 = .ok (.idiv, 1) := by decide +kernel
theorem dX10_mayBeFrom_34 : decode cX10_mayBeFrom 34 = .ok (.bipush 100, 2) := by decide +kernel
theorem dX10_mayBeFrom_36 : decode cX10_mayBeFrom 36 = .ok (.irem, 1) := by decide +kernel
theorem dX10_mayBeFrom_37 : decode cX10_mayBeFrom 37 = .ok (.if_icmp .ne 23, 3) := by decide +kernel
theorem dX10_mayBeFrom_40 : decode cX10_mayBeFrom 40 = .ok (.aload_n 0, 1) := by decide +kernel
theorem dX10_mayBeFrom_41 : decode cX10_mayBeFrom 41 = .ok (.iload_n 1, 1) := by decide +kernel
theorem dX10_mayBeFrom_42 : decode cX10_mayBeFrom 42 = .ok (.iload_n 2, 1) := by decide +kernel
theorem dX10_mayBeFrom_43 : decode cX10_mayBeFrom 43 = .ok (.bipush 64, 2) := by decide +kernel
theorem dX10_mayBeFrom_45 : decode cX10_mayBeFrom 45 = .ok (.irem, 1) := by decide +kernel
theorem dX10_mayBeFrom_46 : decode cX10_mayBeFrom 46 = .ok (.invokevirtual 121, 3) := by decide +kernel
theorem dX10_mayBeFrom_49 : decode cX10_mayBeFrom 49 = .ok (.iload_n 3, 1) := by decide +kernel
theorem dX10_mayBeFrom_50 : decode cX10_mayBeFrom 50 = .ok (.bipush 100, 2) := by decide +kernel
theorem dX10_mayBeFrom_52 : decode cX10_mayBeFrom 52 = .ok (.irem, 1) := by decide +kernel
theorem dX10_mayBeFrom_53 : decode cX10_mayBeFrom 53 = .ok (.if_icmp .ne 7, 3) := by decide +kernel
theorem dX10_mayBeFrom_56 : decode cX10_mayBeFrom 56 = .ok (.iconst 1, 1) := by decide +kernel
theorem dX10_mayBeFrom_57 : decode cX10_mayBeFrom 57 = .ok (.goto 4, 3) := by decide +kernel
theorem dX10_mayBeFrom_60 : decode cX10_mayBeFrom 60 = .ok (.iconst 0, 1) := by decide +kernel
theorem dX10_mayBeFrom_61 : decode cX10_mayBeFrom 61 = .ok (.ireturn, 1) := by decide +kernel
theorem dX10_fromWhere_0 : decode cX10_fromWhere 0 = .ok (.iload_n 1, 1) := by decide +kernel
theorem dX10_fromWhere_1 : decode cX10_fromWhere 1 = .ok (.iload_n 2, 1) := by decide +kernel
theorem dX10_fromWhere_2 : decode cX10_fromWhere 2 = .ok (.invokestatic 254, 3) := by decide +kernel
theorem dX10_fromWhere_5 : decode cX10_fromWhere 5 = .ok (.ifCond .ne 10, 3) := by decide +kernel
theorem dX10_fromWhere_8 : decode cX10_fromWhere 8 = .ok (.aload_n 0, 1) := by decide +kernel
theorem dX10_fromWhere_9 : decode cX10_fromWhere 9 = .ok (.ldc 83, 2) := by decide +kernel
theorem dX10_fromWhere_11 : decode cX10_fromWhere 11 = .ok (.invokevirtual 84, 3) := by decide +kernel
theorem dX10_fromWhere_14 : decode cX10_fromWhere 14 = .ok (.ireturn, 1) := by decide +kernel
theorem dX10_fromWhere_15 : decode cX10_fromWhere 15 = .ok (.iconst 0, 1) := by decide +kernel
theorem dX10_fromWhere_16 : decode cX10_fromWhere 16 = .ok (.istore_n 3, 1) := by decide +kernel
theorem dX10_fromWhere_17 : decode cX10_fromWhere 17 = .ok (.iconst 0, 1) := by decide +kernel
theorem dX10_fromWhere_18 : decode cX10_fromWhere 18 = .ok (.istore 4, 2) := by decide +kernel
theorem dX10_fromWhere_20 : decode cX10_fromWhere 20 = .ok (.iload 4, 2) := by decide +kernel
theorem dX10_fromWhere_22 : decode cX10_fromWhere 22 = .ok (.bipush 64, 2) := by decide +kernel
theorem dX10_fromWhere_24 : decode cX10_fromWhere 24 = .ok (.if_icmp .ge 28, 3) := by decide +kernel
theorem dX10_fromWhere_27 : decode cX10_fromWhere 27 = .ok (.iload_n 3, 1) := by decide +kernel
theorem dX10_fromWhere_28 : decode cX10_fromWhere 28 = .ok (.aload_n 0, 1) := by decide +kernel
theorem dX10_fromWhere_29 : decode cX10_fromWhere 29 = .ok (.iload 4, 2) := by decide +kernel
theorem dX10_fromWhere_31 : decode cX10_fromWhere 31 = .ok (.iload_n 1, 1) := by decide +kernel
theorem dX10_fromWhere_32 : decode cX10_fromWhere 32 = .ok (.iload_n 2, 1) := by decide +kernel
theorem dX10_fromWhere_33 : decode cX10_fromWhere 33 = .ok (.invokevirtual 257, 3) := by decide +kernel
theorem dX10_fromWhere_36 : decode cX10_fromWhere 36 = .ok (.ifCond .eq 7, 3) := by decide +kernel
theorem dX10_fromWhere_39 : decode cX10_fromWhere 39 = .ok (.iconst 1, 1) := by decide +kernel
theorem dX10_fromWhere_40 : decode cX10_fromWhere 40 = .ok (.goto 4, 3) := by decide +kernel
theorem dX10_fromWhere_43 : decode cX10_fromWhere 43 = .ok (.iconst 0, 1) := by decide +kernel
theorem dX10_fromWhere_44 : decode cX10_fromWhere 44 = .ok (.iadd, 1) := by decide +kernel
theorem dX10_fromWhere_45 : decode cX10_fromWhere 45 = .ok (.istore_n 3, 1) := by decide +kernel
theorem dX10_fromWhere_46 : decode cX10_fromWhere 46 = .ok (.iinc 4 1, 3) := by decide +kernel
theorem dX10_fromWhere_49 : decode cX10_fromWhere 49 = .ok (.goto (-29), 3) := by decide +kernel
theorem dX10_fromWhere_52 : decode cX10_fromWhere 52 = .ok (.iload_n 3, 1) := by decide +kernel
theorem dX10_fromWhere_53 : decode cX10_fromWhere 53 = .ok (.ireturn, 1) := by decide +kernel
theorem dX10_whereFrom_0 : decode cX10_whereFrom 0 = .ok (.iload_n 1, 1) := by decide +kernel
theorem dX10_whereFrom_1 : decode cX10_whereFrom 1 = .ok (.iload_n 2, 1) := by decide +kernel
theorem dX10_whereFrom_2 : decode cX10_whereFrom 2 = .ok (.invokestatic 254, 3) := by decide +kernel
theorem dX10_whereFrom_5 : decode cX10_whereFrom 5 = .ok (.ifCond .eq 7, 3) := by decide +kernel
theorem dX10_whereFrom_8 : decode cX10_whereFrom 8 = .ok (.iload_n 3, 1) := by decide +kernel
theorem dX10_whereFrom_9 : decode cX10_whereFrom 9 = .ok (.ifCond .ge 10, 3) := by decide +kernel
theorem dX10_whereFrom_12 : decode cX10_whereFrom 12 = .ok (.aload_n 0, 1) := by decide +kernel
theorem dX10_whereFrom_13 : decode cX10_whereFrom 13 = .ok (.ldc 83, 2) := by decide +kernel
theorem dX10_whereFrom_15 : decode cX10_whereFrom 15 = .ok (.invokevirtual 84, 3) := by decide +kernel
theorem dX10_whereFrom_18 : decode cX10_whereFrom 18 = .ok (.ireturn, 1) := by decide +kernel
theorem dX10_whereFrom_19 : decode cX10_whereFrom 19 = .ok (.iconst 0, 1) := by decide +kernel
theorem dX10_whereFrom_20 : decode cX10_whereFrom 20 = .ok (.istore 4, 2) := by decide +kernel
theorem dX10_whereFrom_22 : decode cX10_whereFrom 22 = .ok (.iconst 0, 1) := by decide +kernel
theorem dX10_whereFrom_23 : decode cX10_whereFrom 23 = .ok (.istore 5, 2) := by decide +kernel
theorem dX10_whereFrom_25 : decode cX10_whereFrom 25 = .ok (.iload 5, 2) := by decide +kernel
theorem dX10_whereFrom_27 : decode cX10_whereFrom 27 = .ok (.bipush 64, 2) := by decide +kernel
theorem dX10_whereFrom_29 : decode cX10_whereFrom 29 = .ok (.if_icmp .ge 32, 3) := by decide +kernel
theorem dX10_whereFrom_32 : decode cX10_whereFrom 32 = .ok (.aload_n 0, 1) := by decide +kernel
theorem dX10_whereFrom_33 : decode cX10_whereFrom 33 = .ok (.iload 5, 2) := by decide +kernel
theorem dX10_whereFrom_35 : decode cX10_whereFrom 35 = .ok (.iload_n 1, 1) := by decide +kernel
theorem dX10_whereFrom_36 : decode cX10_whereFrom 36 = .ok (.iload_n 2, 1) := by decide +kernel
theorem dX10_whereFrom_37 : decode cX10_whereFrom 37 = .ok (.invokevirtual 257, 3) := by decide +kernel
theorem dX10_whereFrom_40 : decode cX10_whereFrom 40 = .ok (.ifCond .eq 15, 3) := by decide +kernel
theorem dX10_whereFrom_43 : decode cX10_whereFrom 43 = .ok (.iload 4, 2) := by decide +kernel
theorem dX10_whereFrom_45 : decode cX10_whereFrom 45 = .ok (.iload_n 3, 1) := by decide +kernel
theorem dX10_whereFrom_46 : decode cX10_whereFrom 46 = .ok (.if_icmp .ne 6, 3) := by decide +kernel
theorem dX10_whereFrom_49 : decode cX10_whereFrom 49 = .ok (.iload 5, 2) := by decide +kernel
theorem dX10_whereFrom_51 : decode cX10_whereFrom 51 = .ok (.ireturn, 1) := by decide +kernel
theorem dX10_whereFrom_52 : decode cX10_whereFrom 52 = .ok (.iinc 4 1, 3) := by decide +kernel
theorem dX10_whereFrom_55 : decode cX10_whereFrom 55 = .ok (.iinc 5 1, 3) := by decide +kernel
theorem dX10_whereFrom_58 : decode cX10_whereFrom 58 = .ok (.goto (-33), 3) := by decide +kernel
theorem dX10_whereFrom_61 : decode cX10_whereFrom 61 = .ok (.aload_n 0, 1) := by decide +kernel
theorem dX10_whereFrom_62 : decode cX10_whereFrom 62 = .ok (.ldc_w 260, 3) := by decide +kernel
theorem dX10_whereFrom_65 : decode cX10_whereFrom 65 = .ok (.invokevirtual 84, 3) := by decide +kernel
theorem dX10_whereFrom_68 : decode cX10_whereFrom 68 = .ok (.ireturn, 1) := by decide +kernel
theorem dX10_strokes_0 : decode cX10_strokes 0 = .ok (.aload_n 0, 1) := by decide +kernel
theorem dX10_strokes_1 : decode cX10_strokes 1 = .ok (.iload_n 1, 1) := by decide +kernel
theorem dX10_strokes_2 : decode cX10_strokes 2 = .ok (.bipush 7, 2) := by decide +kernel
theorem dX10_strokes_4 : decode cX10_strokes 4 = .ok (.invokevirtual 100, 3) := by decide +kernel
theorem dX10_strokes_7 : decode cX10_strokes 7 = .ok (.ifCond .eq 10, 3) := by decide +kernel
theorem dX10_strokes_10 : decode cX10_strokes 10 = .ok (.iload_n 2, 1) := by decide +kernel
theorem dX10_strokes_11 : decode cX10_strokes 11 = .ok (.invokestatic 241, 3) := by decide +kernel
theorem dX10_strokes_14 : decode cX10_strokes 14 = .ok (.ifCond .ne 10, 3) := by decide +kernel
theorem dX10_strokes_17 : decode cX10_strokes 17 = .ok (.aload_n 0, 1) := by decide +kernel
theorem dX10_strokes_18 : decode cX10_strokes 18 = .ok (.ldc 83, 2) := by decide +kernel
theorem dX10_strokes_20 : decode cX10_strokes 20 = .ok (.invokevirtual 84, 3) := by decide +kernel
theorem dX10_strokes_23 : decode cX10_strokes 23 = .ok (.ireturn, 1) := by decide +kernel
theorem dX10_strokes_24 : decode cX10_strokes 24 = .ok (.aload_n 0, 1) := by decide +kernel
theorem dX10_strokes_25 : decode cX10_strokes 25 = .ok (.getfield 9, 3) := by decide +kernel
theorem dX10_strokes_28 : decode cX10_strokes 28 = .ok (.aload_n 0, 1) := by decide +kernel
theorem dX10_strokes_29 : decode cX10_strokes 29 = .ok (.getfield 16, 3) := by decide +kernel
theorem dX10_strokes_32 : decode cX10_strokes 32 = .ok (.invokestatic 76, 3) := by decide +kernel
theorem dX10_strokes_35 : decode cX10_strokes 35 = .ok (.iconst 0, 1) := by decide +kernel
theorem dX10_strokes_36 : decode cX10_strokes 36 = .ok (.istore_n 3, 1) := by decide +kernel
theorem dX10_strokes_37 : decode cX10_strokes 37 = .ok (.iconst 0, 1) := by decide +kernel
theorem dX10_strokes_38 : decode cX10_strokes 38 = .ok (.istore 4, 2) := by decide +kernel
theorem dX10_strokes_40 : decode cX10_strokes 40 = .ok (.iload 4, 2) := by decide +kernel
theorem dX10_strokes_42 : decode cX10_strokes 42 = .ok (.iload_n 2, 1) := by decide +kernel
theorem dX10_strokes_43 : decode cX10_strokes 43 = .ok (.if_icmp .ge 40, 3) := by decide +kernel
theorem dX10_strokes_46 : decode cX10_strokes 46 = .ok (.aload_n 0, 1) := by decide +kernel
theorem dX10_strokes_47 : decode cX10_strokes 47 = .ok (.iload_n 1, 1) := by decide +kernel
theorem dX10_strokes_48 : decode cX10_strokes 48 = .ok (.iconst 2, 1) := by decide +kernel
theorem dX10_strokes_49 : decode cX10_strokes 49 = .ok (.invokevirtual 93, 3) := by decide +kernel
theorem dX10_strokes_52 : decode cX10_strokes 52 = .ok (.istore 5, 2) := by decide +kernel
theorem dX10_strokes_54 : decode cX10_strokes 54 = .ok (.aload_n 0, 1) := by decide +kernel
theorem dX10_strokes_55 : decode cX10_strokes 55 = .ok (.invokevirtual 229, 3) := by decide +kernel
theorem dX10_strokes_58 : decode cX10_strokes 58 = .ok (.iload_n 3, 1) := by decide +kernel
theorem dX10_strokes_59 : decode cX10_strokes 59 = .ok (.aload_n 0, 1) := by decide +kernel
theorem dX10_strokes_60 : decode cX10_strokes 60 = .ok (.iload_n 1, 1) := by decide +kernel
theorem dX10_strokes_61 : decode cX10_strokes 61 = .ok (.iconst 2, 1) := by decide +kernel
theorem dX10_strokes_62 : decode cX10_strokes 62 = .ok (.invokevirtual 93, 3) := by decide +kernel
theorem dX10_strokes_65 : decode cX10_strokes 65 = .ok (.iload 5, 2) := by decide +kernel
theorem dX10_strokes_67 : decode cX10_strokes 67 = .ok (.if_icmp .ne 7, 3) := by decide +kernel
theorem dX10_strokes_70 : decode cX10_strokes 70 = .ok (.iconst 0, 1) := by decide +kernel
theorem dX10_strokes_71 : decode cX10_strokes 71 = .ok (.goto 4, 3) := by decide +kernel
theorem dX10_strokes_74 : decode cX10_strokes 74 = .ok (.iconst 1, 1) := by decide +kernel
theorem dX10_strokes_75 : decode cX10_strokes 75 = .ok (.iadd, 1) := by decide +kernel
theorem dX10_strokes_76 : decode cX10_strokes 76 = .ok (.istore_n 3, 1) := by decide +kernel
theorem dX10_strokes_77 : decode cX10_strokes 77 = .ok (.iinc 4 1, 3) := by decide +kernel
theorem dX10_strokes_80 : decode cX10_strokes 80 = .ok (.goto (-40), 3) := by decide +kernel
theorem dX10_strokes_83 : decode cX10_strokes 83 = .ok (.aload_n 0, 1) := by decide +kernel
theorem dX10_strokes_84 : decode cX10_strokes 84 = .ok (.iload_n 3, 1) := by decide +kernel
theorem dX10_strokes_85 : decode cX10_strokes 85 = .ok (.invokevirtual 244, 3) := by decide +kernel
theorem dX10_strokes_88 : decode cX10_strokes 88 = .ok (.ireturn, 1) := by decide +kernel
theorem dX10_seed_0 : decode cX10_seed 0 = .ok (.aload_n 0, 1) := by decide +kernel
theorem dX10_seed_1 : decode cX10_seed 1 = .ok (.bipush 11, 2) := by decide +kernel
theorem dX10_seed_3 : decode cX10_seed 3 = .ok (.iload_n 1, 1) := by decide +kernel
theorem dX10_seed_4 : decode cX10_seed 4 = .ok (.invokevirtual 80, 3) := by decide +kernel
theorem dX10_seed_7 : decode cX10_seed 7 = .ok (.ireturn, 1) := by decide +kernel
theorem dX10_began_0 : decode cX10_began 0 = .ok (.aload_n 0, 1) := by decide +kernel
theorem dX10_began_1 : decode cX10_began 1 = .ok (.getfield 261, 3) := by decide +kernel
theorem dX10_began_4 : decode cX10_began 4 = .ok (.bipush 40, 2) := by decide +kernel
theorem dX10_began_6 : decode cX10_began 6 = .ok (.if_icmp .ge 23, 3) := by decide +kernel
theorem dX10_began_9 : decode cX10_began 9 = .ok (.aload_n 0, 1) := by decide +kernel
theorem dX10_began_10 : decode cX10_began 10 = .ok (.getfield 47, 3) := by decide +kernel
theorem dX10_began_13 : decode cX10_began 13 = .ok (.aload_n 0, 1) := by decide +kernel
theorem dX10_began_14 : decode cX10_began 14 = .ok (.getfield 261, 3) := by decide +kernel
theorem dX10_began_17 : decode cX10_began 17 = .ok (.iload_n 1, 1) := by decide +kernel
theorem dX10_began_18 : decode cX10_began 18 = .ok (.iastore, 1) := by decide +kernel
theorem dX10_began_19 : decode cX10_began 19 = .ok (.aload_n 0, 1) := by decide +kernel
theorem dX10_began_20 : decode cX10_began 20 = .ok (.dup, 1) := by decide +kernel
theorem dX10_began_21 : decode cX10_began 21 = .ok (.getfield 261, 3) := by decide +kernel
theorem dX10_began_24 : decode cX10_began 24 = .ok (.iconst 1, 1) := by decide +kernel
theorem dX10_began_25 : decode cX10_began 25 = .ok (.iadd, 1) := by decide +kernel
theorem dX10_began_26 : decode cX10_began 26 = .ok (.putfield 261, 3) := by decide +kernel
theorem dX10_began_29 : decode cX10_began 29 = .ok (.return_, 1) := by decide +kernel
theorem dX10_hasOwn_0 : decode cX10_hasOwn 0 = .ok (.iload_n 0, 1) := by decide +kernel
theorem dX10_hasOwn_1 : decode cX10_hasOwn 1 = .ok (.tableswitch 84 0 5 #[39, 41, 52, 62, 41, 73], 39) := by decide +kernel
theorem dX10_hasOwn_40 : decode cX10_hasOwn 40 = .ok (.iconst 1, 1) := by decide +kernel
theorem dX10_hasOwn_41 : decode cX10_hasOwn 41 = .ok (.ireturn, 1) := by decide +kernel
theorem dX10_hasOwn_42 : decode cX10_hasOwn 42 = .ok (.iload_n 1, 1) := by decide +kernel
theorem dX10_hasOwn_43 : decode cX10_hasOwn 43 = .ok (.iconst 1, 1) := by decide +kernel
theorem dX10_hasOwn_44 : decode cX10_hasOwn 44 = .ok (.if_icmp .ne 7, 3) := by decide +kernel
theorem dX10_hasOwn_47 : decode cX10_hasOwn 47 = .ok (.iconst 1, 1) := by decide +kernel
theorem dX10_hasOwn_48 : decode cX10_hasOwn 48 = .ok (.goto 4, 3) := by decide +kernel
theorem dX10_hasOwn_51 : decode cX10_hasOwn 51 = .ok (.iconst 0, 1) := by decide +kernel
theorem dX10_hasOwn_52 : decode cX10_hasOwn 52 = .ok (.ireturn, 1) := by decide +kernel
theorem dX10_hasOwn_53 : decode cX10_hasOwn 53 = .ok (.iload_n 1, 1) := by decide +kernel
theorem dX10_hasOwn_54 : decode cX10_hasOwn 54 = .ok (.ifCond .ne 7, 3) := by decide +kernel
theorem dX10_hasOwn_57 : decode cX10_hasOwn 57 = .ok (.iconst 1, 1) := by decide +kernel
theorem dX10_hasOwn_58 : decode cX10_hasOwn 58 = .ok (.goto 4, 3) := by decide +kernel
theorem dX10_hasOwn_61 : decode cX10_hasOwn 61 = .ok (.iconst 0, 1) := by decide +kernel
theorem dX10_hasOwn_62 : decode cX10_hasOwn 62 = .ok (.ireturn, 1) := by decide +kernel
theorem dX10_hasOwn_63 : decode cX10_hasOwn 63 = .ok (.iload_n 1, 1) := by decide +kernel
theorem dX10_hasOwn_64 : decode cX10_hasOwn 64 = .ok (.iconst 2, 1) := by decide +kernel
theorem dX10_hasOwn_65 : decode cX10_hasOwn 65 = .ok (.if_icmp .ne 7, 3) := by decide +kernel
theorem dX10_hasOwn_68 : decode cX10_hasOwn 68 = .ok (.iconst 1, 1) := by decide +kernel
theorem dX10_hasOwn_69 : decode cX10_hasOwn 69 = .ok (.goto 4, 3) := by decide +kernel
theorem dX10_hasOwn_72 : decode cX10_hasOwn 72 = .ok (.iconst 0, 1) := by decide +kernel
theorem dX10_hasOwn_73 : decode cX10_hasOwn 73 = .ok (.ireturn, 1) := by decide +kernel
theorem dX10_hasOwn_74 : decode cX10_hasOwn 74 = .ok (.iload_n 1, 1) := by decide +kernel
theorem dX10_hasOwn_75 : decode cX10_hasOwn 75 = .ok (.iconst 3, 1) := by decide +kernel
theorem dX10_hasOwn_76 : decode cX10_hasOwn 76 = .ok (.if_icmp .ne 7, 3) := by decide +kernel
theorem dX10_hasOwn_79 : decode cX10_hasOwn 79 = .ok (.iconst 1, 1) := by decide +kernel
theorem dX10_hasOwn_80 : decode cX10_hasOwn 80 = .ok (.goto 4, 3) := by decide +kernel
theorem dX10_hasOwn_83 : decode cX10_hasOwn 83 = .ok (.iconst 0, 1) := by decide +kernel
theorem dX10_hasOwn_84 : decode cX10_hasOwn 84 = .ok (.ireturn, 1) := by decide +kernel
theorem dX10_hasOwn_85 : decode cX10_hasOwn 85 = .ok (.iload_n 1, 1) := by decide +kernel
theorem dX10_hasOwn_86 : decode cX10_hasOwn 86 = .ok (.iconst 1, 1) := by decide +kernel
theorem dX10_hasOwn_87 : decode cX10_hasOwn 87 = .ok (.if_icmp .le 7, 3) := by decide +kernel
theorem dX10_hasOwn_90 : decode cX10_hasOwn 90 = .ok (.iconst 1, 1) := by decide +kernel
theorem dX10_hasOwn_91 : decode cX10_hasOwn 91 = .ok (.goto 4, 3) := by decide +kernel
theorem dX10_hasOwn_94 : decode cX10_hasOwn 94 = .ok (.iconst 0, 1) := by decide +kernel
theorem dX10_hasOwn_95 : decode cX10_hasOwn 95 = .ok (.ireturn, 1) := by decide +kernel
theorem dX10_voiced_0 : decode cX10_voiced 0 = .ok (.aload_n 0, 1) := by decide +kernel
theorem dX10_voiced_1 : decode cX10_voiced 1 = .ok (.aload_n 0, 1) := by decide +kernel
theorem dX10_voiced_2 : decode cX10_voiced 2 = .ok (.aload_n 0, 1) := by decide +kernel
theorem dX10_voiced_3 : decode cX10_voiced 3 = .ok (.getfield 264, 3) := by decide +kernel
theorem dX10_voiced_6 : decode cX10_voiced 6 = .ok (.iconst 0, 1) := by decide +kernel
theorem dX10_voiced_7 : decode cX10_voiced 7 = .ok (.invokevirtual 93, 3) := by decide +kernel
theorem dX10_voiced_10 : decode cX10_voiced 10 = .ok (.iload_n 1, 1) := by decide +kernel
theorem dX10_voiced_11 : decode cX10_voiced 11 = .ok (.iload_n 2, 1) := by decide +kernel
theorem dX10_voiced_12 : decode cX10_voiced 12 = .ok (.invokevirtual 267, 3) := by decide +kernel
theorem dX10_voiced_15 : decode cX10_voiced 15 = .ok (.ireturn, 1) := by decide +kernel
theorem dX10_bodyFrom_0 : decode cX10_bodyFrom 0 = .ok (.iload_n 1, 1) := by decide +kernel
theorem dX10_bodyFrom_1 : decode cX10_bodyFrom 1 = .ok (.istore 4, 2) := by decide +kernel
theorem dX10_bodyFrom_3 : decode cX10_bodyFrom 3 = .ok (.iload 4, 2) := by decide +kernel
theorem dX10_bodyFrom_5 : decode cX10_bodyFrom 5 = .ok (.iload_n 2, 1) := by decide +kernel
theorem dX10_bodyFrom_6 : decode cX10_bodyFrom 6 = .ok (.invokestatic 270, 3) := by decide +kernel
theorem dX10_bodyFrom_9 : decode cX10_bodyFrom 9 = .ok (.ifCond .ne 13, 3) := by decide +kernel
theorem dX10_bodyFrom_12 : decode cX10_bodyFrom 12 = .ok (.iload 4, 2) := by decide +kernel
theorem dX10_bodyFrom_14 : decode cX10_bodyFrom 14 = .ok (.invokestatic 107, 3) := by decide +kernel
theorem dX10_bodyFrom_17 : decode cX10_bodyFrom 17 = .ok (.istore 4, 2) := by decide +kernel
theorem dX10_bodyFrom_19 : decode cX10_bodyFrom 19 = .ok (.goto (-16), 3) := by decide +kernel
theorem dX10_bodyFrom_22 : decode cX10_bodyFrom 22 = .ok (.aload_n 0, 1) := by decide +kernel
theorem dX10_bodyFrom_23 : decode cX10_bodyFrom 23 = .ok (.iload 4, 2) := by decide +kernel
theorem dX10_bodyFrom_25 : decode cX10_bodyFrom 25 = .ok (.iload_n 2, 1) := by decide +kernel
theorem dX10_bodyFrom_26 : decode cX10_bodyFrom 26 = .ok (.iload_n 3, 1) := by decide +kernel
theorem dX10_bodyFrom_27 : decode cX10_bodyFrom 27 = .ok (.invokevirtual 273, 3) := by decide +kernel
theorem dX10_bodyFrom_30 : decode cX10_bodyFrom 30 = .ok (.ireturn, 1) := by decide +kernel
theorem dX10_body_0 : decode cX10_body 0 = .ok (.aload_n 0, 1) := by decide +kernel
theorem dX10_body_1 : decode cX10_body 1 = .ok (.getfield 264, 3) := by decide +kernel
theorem dX10_body_4 : decode cX10_body 4 = .ok (.istore 4, 2) := by decide +kernel
theorem dX10_body_6 : decode cX10_body 6 = .ok (.aload_n 0, 1) := by decide +kernel
theorem dX10_body_7 : decode cX10_body 7 = .ok (.aload_n 0, 1) := by decide +kernel
theorem dX10_body_8 : decode cX10_body 8 = .ok (.getfield 264, 3) := by decide +kernel
theorem dX10_body_11 : decode cX10_body 11 = .ok (.iconst 1, 1) := by decide +kernel
theorem dX10_body_12 : decode cX10_body 12 = .ok (.invokevirtual 93, 3) := by decide +kernel
theorem dX10_body_15 : decode cX10_body 15 = .ok (.istore 5, 2) := by decide +kernel
theorem dX10_body_17 : decode cX10_body 17 = .ok (.iconst 4, 1) := by decide +kernel
theorem dX10_body_18 : decode cX10_body 18 = .ok (.iload_n 1, 1) := by decide +kernel
theorem dX10_body_19 : decode cX10_body 19 = .ok (.imul, 1) := by decide +kernel
theorem dX10_body_20 : decode cX10_body 20 = .ok (.iload_n 2, 1) := by decide +kernel
theorem dX10_body_21 : decode cX10_body 21 = .ok (.iadd, 1) := by decide +kernel
theorem dX10_body_22 : decode cX10_body 22 = .ok (.tableswitch 297 0 26 #[122, 133, 148, 159, 297, 183, 297, 297, 208, 297, 297, 297, 297, 297, 224, 297, 297, 239, 297, 297, 297, 297, 297, 255, 297, 297, 280], 122) := by decide +kernel
theorem dX10_body_144 : decode cX10_body 144 = .ok (.aload_n 0, 1) := by decide +kernel
theorem dX10_body_145 : decode cX10_body 145 = .ok (.bipush 10, 2) := by decide +kernel
theorem dX10_body_147 : decode cX10_body 147 = .ok (.invokevirtual 276, 3) := by decide +kernel
theorem dX10_body_150 : decode cX10_body 150 = .ok (.iload_n 3, 1) := by decide +kernel
theorem dX10_body_151 : decode cX10_body 151 = .ok (.iload 4, 2) := by decide +kernel
theorem dX10_body_153 : decode cX10_body 153 = .ok (.iadd, 1) := by decide +kernel
theorem dX10_body_154 : decode cX10_body 154 = .ok (.ireturn, 1) := by decide +kernel
theorem dX10_body_155 : decode cX10_body 155 = .ok (.aload_n 0, 1) := by decide +kernel
theorem dX10_body_156 : decode cX10_body 156 = .ok (.bipush 11, 2) := by decide +kernel
theorem dX10_body_158 : decode cX10_body 158 = .ok (.invokevirtual 276, 3) := by decide +kernel
theorem dX10_body_161 : decode cX10_body 161 = .ok (.aload_n 0, 1) := by decide +kernel
theorem dX10_body_162 : decode cX10_body 162 = .ok (.iconst 0, 1) := by decide +kernel
theorem dX10_body_163 : decode cX10_body 163 = .ok (.iload_n 3, 1) := by decide +kernel
theorem dX10_body_164 : decode cX10_body 164 = .ok (.invokevirtual 279, 3) := by decide +kernel
theorem dX10_body_167 : decode cX10_body 167 = .ok (.iconst 2, 1) := by decide +kernel
theorem dX10_body_168 : decode cX10_body 168 = .ok (.imul, 1) := by decide +kernel
theorem dX10_body_169 : decode cX10_body 169 = .ok (.ireturn, 1) := by decide +kernel
theorem dX10_body_170 : decode cX10_body 170 = .ok (.aload_n 0, 1) := by decide +kernel
theorem dX10_body_171 : decode cX10_body 171 = .ok (.bipush 12, 2) := by decide +kernel
theorem dX10_body_173 : decode cX10_body 173 = .ok (.invokevirtual 276, 3) := by decide +kernel
theorem dX10_body_176 : decode cX10_body 176 = .ok (.iload_n 3, 1) := by decide +kernel
theorem dX10_body_177 : decode cX10_body 177 = .ok (.iload 5, 2) := by decide +kernel
theorem dX10_body_179 : decode cX10_body 179 = .ok (.isub, 1) := by decide +kernel
theorem dX10_body_180 : decode cX10_body 180 = .ok (.ireturn, 1) := by decide +kernel
theorem dX10_body_181 : decode cX10_body 181 = .ok (.aload_n 0, 1) := by decide +kernel
theorem dX10_body_182 : decode cX10_body 182 = .ok (.bipush 13, 2) := by decide +kernel
theorem dX10_body_184 : decode cX10_body 184 = .ok (.invokevirtual 276, 3) := by decide +kernel
theorem dX10_body_187 : decode cX10_body 187 = .ok (.aload_n 0, 1) := by decide +kernel
theorem dX10_body_188 : decode cX10_body 188 = .ok (.iconst 1, 1) := by decide +kernel
theorem dX10_body_189 : decode cX10_body 189 = .ok (.iload_n 3, 1) := by decide +kernel
theorem dX10_body_190 : decode cX10_body 190 = .ok (.invokevirtual 279, 3) := by decide +kernel
theorem dX10_body_193 : decode cX10_body 193 = .ok (.istore 6, 2) := by decide +kernel
theorem dX10_body_195 : decode cX10_body 195 = .ok (.iload 6, 2) := by decide +kernel
theorem dX10_body_197 : decode cX10_body 197 = .ok (.aload_n 0, 1) := by decide +kernel
theorem dX10_body_198 : decode cX10_body 198 = .ok (.iconst 2, 1) := by decide +kernel
theorem dX10_body_199 : decode cX10_body 199 = .ok (.iload_n 3, 1) := by decide +kernel
theorem dX10_body_200 : decode cX10_body 200 = .ok (.invokevirtual 279, 3) := by decide +kernel
theorem dX10_body_203 : decode cX10_body 203 = .ok (.ixor, 1) := by decide +kernel
theorem dX10_body_204 : decode cX10_body 204 = .ok (.ireturn, 1) := by decide +kernel
theorem dX10_body_205 : decode cX10_body 205 = .ok (.aload_n 0, 1) := by decide +kernel
theorem dX10_body_206 : decode cX10_body 206 = .ok (.bipush 20, 2) := by decide +kernel
theorem dX10_body_208 : decode cX10_body 208 = .ok (.invokevirtual 276, 3) := by decide +kernel
theorem dX10_body_211 : decode cX10_body 211 = .ok (.aload_n 0, 1) := by decide +kernel
theorem dX10_body_212 : decode cX10_body 212 = .ok (.iconst 0, 1) := by decide +kernel
theorem dX10_body_213 : decode cX10_body 213 = .ok (.iconst 1, 1) := by decide +kernel
theorem dX10_body_214 : decode cX10_body 214 = .ok (.iload_n 3, 1) := by decide +kernel
theorem dX10_body_215 : decode cX10_body 215 = .ok (.invokevirtual 267, 3) := by decide +kernel
theorem dX10_body_218 : decode cX10_body 218 = .ok (.istore 6, 2) := by decide +kernel
theorem dX10_body_220 : decode cX10_body 220 = .ok (.iload 6, 2) := by decide +kernel
theorem dX10_body_222 : decode cX10_body 222 = .ok (.aload_n 0, 1) := by decide +kernel
theorem dX10_body_223 : decode cX10_body 223 = .ok (.iconst 2, 1) := by decide +kernel
theorem dX10_body_224 : decode cX10_body 224 = .ok (.iconst 1, 1) := by decide +kernel
theorem dX10_body_225 : decode cX10_body 225 = .ok (.invokevirtual 279, 3) := by decide +kernel
theorem dX10_body_228 : decode cX10_body 228 = .ok (.isub, 1) := by decide +kernel
theorem dX10_body_229 : decode cX10_body 229 = .ok (.ireturn, 1) := by decide +kernel
theorem dX10_body_230 : decode cX10_body 230 = .ok (.aload_n 0, 1) := by decide +kernel
theorem dX10_body_231 : decode cX10_body 231 = .ok (.bipush 30, 2) := by decide +kernel
theorem dX10_body_233 : decode cX10_body 233 = .ok (.invokevirtual 276, 3) := by decide +kernel
theorem dX10_body_236 : decode cX10_body 236 = .ok (.aload_n 0, 1) := by decide +kernel
theorem dX10_body_237 : decode cX10_body 237 = .ok (.iconst 0, 1) := by decide +kernel
theorem dX10_body_238 : decode cX10_body 238 = .ok (.iconst 0, 1) := by decide +kernel
theorem dX10_body_239 : decode cX10_body 239 = .ok (.iload_n 3, 1) := by decide +kernel
theorem dX10_body_240 : decode cX10_body 240 = .ok (.invokevirtual 267, 3) := by decide +kernel
theorem dX10_body_243 : decode cX10_body 243 = .ok (.iconst 3, 1) := by decide +kernel
theorem dX10_body_244 : decode cX10_body 244 = .ok (.imul, 1) := by decide +kernel
theorem dX10_body_245 : decode cX10_body 245 = .ok (.ireturn, 1) := by decide +kernel
theorem dX10_body_246 : decode cX10_body 246 = .ok (.aload_n 0, 1) := by decide +kernel
theorem dX10_body_247 : decode cX10_body 247 = .ok (.bipush 40, 2) := by decide +kernel
theorem dX10_body_249 : decode cX10_body 249 = .ok (.invokevirtual 276, 3) := by decide +kernel
theorem dX10_body_252 : decode cX10_body 252 = .ok (.aload_n 0, 1) := by decide +kernel
theorem dX10_body_253 : decode cX10_body 253 = .ok (.iconst 0, 1) := by decide +kernel
theorem dX10_body_254 : decode cX10_body 254 = .ok (.iconst 2, 1) := by decide +kernel
theorem dX10_body_255 : decode cX10_body 255 = .ok (.iload_n 3, 1) := by decide +kernel
theorem dX10_body_256 : decode cX10_body 256 = .ok (.invokevirtual 267, 3) := by decide +kernel
theorem dX10_body_259 : decode cX10_body 259 = .ok (.ineg, 1) := by decide +kernel
theorem dX10_body_260 : decode cX10_body 260 = .ok (.ireturn, 1) := by decide +kernel
theorem dX10_body_261 : decode cX10_body 261 = .ok (.aload_n 0, 1) := by decide +kernel
theorem dX10_body_262 : decode cX10_body 262 = .ok (.bipush 50, 2) := by decide +kernel
theorem dX10_body_264 : decode cX10_body 264 = .ok (.invokevirtual 276, 3) := by decide +kernel
theorem dX10_body_267 : decode cX10_body 267 = .ok (.aload_n 0, 1) := by decide +kernel
theorem dX10_body_268 : decode cX10_body 268 = .ok (.iconst 1, 1) := by decide +kernel
theorem dX10_body_269 : decode cX10_body 269 = .ok (.iconst 1, 1) := by decide +kernel
theorem dX10_body_270 : decode cX10_body 270 = .ok (.iload_n 3, 1) := by decide +kernel
theorem dX10_body_271 : decode cX10_body 271 = .ok (.iconst 1, 1) := by decide +kernel
theorem dX10_body_272 : decode cX10_body 272 = .ok (.iadd, 1) := by decide +kernel
theorem dX10_body_273 : decode cX10_body 273 = .ok (.invokevirtual 267, 3) := by decide +kernel
theorem dX10_body_276 : decode cX10_body 276 = .ok (.ireturn, 1) := by decide +kernel
theorem dX10_body_277 : decode cX10_body 277 = .ok (.aload_n 0, 1) := by decide +kernel
theorem dX10_body_278 : decode cX10_body 278 = .ok (.bipush 60, 2) := by decide +kernel
theorem dX10_body_280 : decode cX10_body 280 = .ok (.invokevirtual 276, 3) := by decide +kernel
theorem dX10_body_283 : decode cX10_body 283 = .ok (.aload_n 0, 1) := by decide +kernel
theorem dX10_body_284 : decode cX10_body 284 = .ok (.iconst 2, 1) := by decide +kernel
theorem dX10_body_285 : decode cX10_body 285 = .ok (.iconst 3, 1) := by decide +kernel
theorem dX10_body_286 : decode cX10_body 286 = .ok (.iload_n 3, 1) := by decide +kernel
theorem dX10_body_287 : decode cX10_body 287 = .ok (.invokevirtual 267, 3) := by decide +kernel
theorem dX10_body_290 : decode cX10_body 290 = .ok (.istore 6, 2) := by decide +kernel
theorem dX10_body_292 : decode cX10_body 292 = .ok (.iload 6, 2) := by decide +kernel
theorem dX10_body_294 : decode cX10_body 294 = .ok (.aload_n 0, 1) := by decide +kernel
theorem dX10_body_295 : decode cX10_body 295 = .ok (.iconst 0, 1) := by decide +kernel
theorem dX10_body_296 : decode cX10_body 296 = .ok (.iconst 2, 1) := by decide +kernel
theorem dX10_body_297 : decode cX10_body 297 = .ok (.invokevirtual 279, 3) := by decide +kernel
theorem dX10_body_300 : decode cX10_body 300 = .ok (.isub, 1) := by decide +kernel
theorem dX10_body_301 : decode cX10_body 301 = .ok (.ireturn, 1) := by decide +kernel
theorem dX10_body_302 : decode cX10_body 302 = .ok (.aload_n 0, 1) := by decide +kernel
theorem dX10_body_303 : decode cX10_body 303 = .ok (.bipush 70, 2) := by decide +kernel
theorem dX10_body_305 : decode cX10_body 305 = .ok (.invokevirtual 276, 3) := by decide +kernel
theorem dX10_body_308 : decode cX10_body 308 = .ok (.aload_n 0, 1) := by decide +kernel
theorem dX10_body_309 : decode cX10_body 309 = .ok (.iconst 3, 1) := by decide +kernel
theorem dX10_body_310 : decode cX10_body 310 = .ok (.iconst 2, 1) := by decide +kernel
theorem dX10_body_311 : decode cX10_body 311 = .ok (.iload_n 3, 1) := by decide +kernel
theorem dX10_body_312 : decode cX10_body 312 = .ok (.invokevirtual 267, 3) := by decide +kernel
theorem dX10_body_315 : decode cX10_body 315 = .ok (.iload 4, 2) := by decide +kernel
theorem dX10_body_317 : decode cX10_body 317 = .ok (.ixor, 1) := by decide +kernel
theorem dX10_body_318 : decode cX10_body 318 = .ok (.ireturn, 1) := by decide +kernel
theorem dX10_body_319 : decode cX10_body 319 = .ok (.aload_n 0, 1) := by decide +kernel
theorem dX10_body_320 : decode cX10_body 320 = .ok (.bipush 71, 2) := by decide +kernel
theorem dX10_body_322 : decode cX10_body 322 = .ok (.invokevirtual 276, 3) := by decide +kernel
theorem dX10_body_325 : decode cX10_body 325 = .ok (.aload_n 0, 1) := by decide +kernel
theorem dX10_body_326 : decode cX10_body 326 = .ok (.iconst 1, 1) := by decide +kernel
theorem dX10_body_327 : decode cX10_body 327 = .ok (.iload_n 3, 1) := by decide +kernel
theorem dX10_body_328 : decode cX10_body 328 = .ok (.invokevirtual 279, 3) := by decide +kernel
theorem dX10_body_331 : decode cX10_body 331 = .ok (.istore 6, 2) := by decide +kernel
theorem dX10_body_333 : decode cX10_body 333 = .ok (.iload 6, 2) := by decide +kernel
theorem dX10_body_335 : decode cX10_body 335 = .ok (.aload_n 0, 1) := by decide +kernel
theorem dX10_body_336 : decode cX10_body 336 = .ok (.iconst 3, 1) := by decide +kernel
theorem dX10_body_337 : decode cX10_body 337 = .ok (.iconst 3, 1) := by decide +kernel
theorem dX10_body_338 : decode cX10_body 338 = .ok (.iload_n 3, 1) := by decide +kernel
theorem dX10_body_339 : decode cX10_body 339 = .ok (.invokevirtual 267, 3) := by decide +kernel
theorem dX10_body_342 : decode cX10_body 342 = .ok (.isub, 1) := by decide +kernel
theorem dX10_body_343 : decode cX10_body 343 = .ok (.ireturn, 1) := by decide +kernel
theorem dX10_voice_0 : decode cX10_voice 0 = .ok (.aload_n 0, 1) := by decide +kernel
theorem dX10_voice_1 : decode cX10_voice 1 = .ok (.iload_n 1, 1) := by decide +kernel
theorem dX10_voice_2 : decode cX10_voice 2 = .ok (.bipush 7, 2) := by decide +kernel
theorem dX10_voice_4 : decode cX10_voice 4 = .ok (.invokevirtual 100, 3) := by decide +kernel
theorem dX10_voice_7 : decode cX10_voice 7 = .ok (.ifCond .eq 12, 3) := by decide +kernel
theorem dX10_voice_10 : decode cX10_voice 10 = .ok (.iload_n 2, 1) := by decide +kernel
theorem dX10_voice_11 : decode cX10_voice 11 = .ok (.iconst 0, 1) := by decide +kernel
theorem dX10_voice_12 : decode cX10_voice 12 = .ok (.iconst 3, 1) := by decide +kernel
theorem dX10_voice_13 : decode cX10_voice 13 = .ok (.invokestatic 72, 3) := by decide +kernel
theorem dX10_voice_16 : decode cX10_voice 16 = .ok (.ifCond .ne 10, 3) := by decide +kernel
theorem dX10_voice_19 : decode cX10_voice 19 = .ok (.aload_n 0, 1) := by decide +kernel
theorem dX10_voice_20 : decode cX10_voice 20 = .ok (.ldc 83, 2) := by decide +kernel
theorem dX10_voice_22 : decode cX10_voice 22 = .ok (.invokevirtual 84, 3) := by decide +kernel
theorem dX10_voice_25 : decode cX10_voice 25 = .ok (.ireturn, 1) := by decide +kernel
theorem dX10_voice_26 : decode cX10_voice 26 = .ok (.aload_n 0, 1) := by decide +kernel
theorem dX10_voice_27 : decode cX10_voice 27 = .ok (.iconst 0, 1) := by decide +kernel
theorem dX10_voice_28 : decode cX10_voice 28 = .ok (.putfield 261, 3) := by decide +kernel
theorem dX10_voice_31 : decode cX10_voice 31 = .ok (.aload_n 0, 1) := by decide +kernel
theorem dX10_voice_32 : decode cX10_voice 32 = .ok (.iload_n 1, 1) := by decide +kernel
theorem dX10_voice_33 : decode cX10_voice 33 = .ok (.putfield 264, 3) := by decide +kernel
theorem dX10_voice_36 : decode cX10_voice 36 = .ok (.aload_n 0, 1) := by decide +kernel
theorem dX10_voice_37 : decode cX10_voice 37 = .ok (.iload_n 2, 1) := by decide +kernel
theorem dX10_voice_38 : decode cX10_voice 38 = .ok (.iload_n 3, 1) := by decide +kernel
theorem dX10_voice_39 : decode cX10_voice 39 = .ok (.invokevirtual 279, 3) := by decide +kernel
theorem dX10_voice_42 : decode cX10_voice 42 = .ok (.ireturn, 1) := by decide +kernel
theorem dX10_trace_0 : decode cX10_trace 0 = .ok (.iload_n 1, 1) := by decide +kernel
theorem dX10_trace_1 : decode cX10_trace 1 = .ok (.iconst 0, 1) := by decide +kernel
theorem dX10_trace_2 : decode cX10_trace 2 = .ok (.aload_n 0, 1) := by decide +kernel
theorem dX10_trace_3 : decode cX10_trace 3 = .ok (.getfield 261, 3) := by decide +kernel
theorem dX10_trace_6 : decode cX10_trace 6 = .ok (.iconst 1, 1) := by decide +kernel
theorem dX10_trace_7 : decode cX10_trace 7 = .ok (.isub, 1) := by decide +kernel
theorem dX10_trace_8 : decode cX10_trace 8 = .ok (.invokestatic 72, 3) := by decide +kernel
theorem dX10_trace_11 : decode cX10_trace 11 = .ok (.ifCond .eq 12, 3) := by decide +kernel
theorem dX10_trace_14 : decode cX10_trace 14 = .ok (.aload_n 0, 1) := by decide +kernel
theorem dX10_trace_15 : decode cX10_trace 15 = .ok (.getfield 47, 3) := by decide +kernel
theorem dX10_trace_18 : decode cX10_trace 18 = .ok (.iload_n 1, 1) := by decide +kernel
theorem dX10_trace_19 : decode cX10_trace 19 = .ok (.iaload, 1) := by decide +kernel
theorem dX10_trace_20 : decode cX10_trace 20 = .ok (.goto 10, 3) := by decide +kernel
theorem dX10_trace_23 : decode cX10_trace 23 = .ok (.aload_n 0, 1) := by decide +kernel
theorem dX10_trace_24 : decode cX10_trace 24 = .ok (.ldc_w 260, 3) := by decide +kernel
theorem dX10_trace_27 : decode cX10_trace 27 = .ok (.invokevirtual 84, 3) := by decide +kernel
theorem dX10_trace_30 : decode cX10_trace 30 = .ok (.ireturn, 1) := by decide +kernel
theorem dX10_isSheet_0 : decode cX10_isSheet 0 = .ok (.iload_n 0, 1) := by decide +kernel
theorem dX10_isSheet_1 : decode cX10_isSheet 1 = .ok (.iconst 0, 1) := by decide +kernel
theorem dX10_isSheet_2 : decode cX10_isSheet 2 = .ok (.iconst 3, 1) := by decide +kernel
theorem dX10_isSheet_3 : decode cX10_isSheet 3 = .ok (.invokestatic 72, 3) := by decide +kernel
theorem dX10_isSheet_6 : decode cX10_isSheet 6 = .ok (.ireturn, 1) := by decide +kernel
theorem dX10_sheet_0 : decode cX10_sheet 0 = .ok (.iload_n 1, 1) := by decide +kernel
theorem dX10_sheet_1 : decode cX10_sheet 1 = .ok (.invokestatic 282, 3) := by decide +kernel
theorem dX10_sheet_4 : decode cX10_sheet 4 = .ok (.ifCond .eq 25, 3) := by decide +kernel
theorem dX10_sheet_7 : decode cX10_sheet 7 = .ok (.iload_n 2, 1) := by decide +kernel
theorem dX10_sheet_8 : decode cX10_sheet 8 = .ok (.ifCond .eq 28, 3) := by decide +kernel
theorem dX10_sheet_11 : decode cX10_sheet 11 = .ok (.iload_n 2, 1) := by decide +kernel
theorem dX10_sheet_12 : decode cX10_sheet 12 = .ok (.bipush 8, 2) := by decide +kernel
theorem dX10_sheet_14 : decode cX10_sheet 14 = .ok (.if_icmp .eq 22, 3) := by decide +kernel
theorem dX10_sheet_17 : decode cX10_sheet 17 = .ok (.iload_n 2, 1) := by decide +kernel
theorem dX10_sheet_18 : decode cX10_sheet 18 = .ok (.bipush 16, 2) := by decide +kernel
theorem dX10_sheet_20 : decode cX10_sheet 20 = .ok (.if_icmp .eq 16, 3) := by decide +kernel
theorem dX10_sheet_23 : decode cX10_sheet 23 = .ok (.iload_n 2, 1) := by decide +kernel
theorem dX10_sheet_24 : decode cX10_sheet 24 = .ok (.bipush 32, 2) := by decide +kernel
theorem dX10_sheet_26 : decode cX10_sheet 26 = .ok (.if_icmp .eq 10, 3) := by decide +kernel
theorem dX10_sheet_29 : decode cX10_sheet 29 = .ok (.aload_n 0, 1) := by decide +kernel
theorem dX10_sheet_30 : decode cX10_sheet 30 = .ok (.ldc 83, 2) := by decide +kernel
theorem dX10_sheet_32 : decode cX10_sheet 32 = .ok (.invokevirtual 84, 3) := by decide +kernel
theorem dX10_sheet_35 : decode cX10_sheet 35 = .ok (.ireturn, 1) := by decide +kernel
theorem dX10_sheet_36 : decode cX10_sheet 36 = .ok (.iload_n 2, 1) := by decide +kernel
theorem dX10_sheet_37 : decode cX10_sheet 37 = .ok (.ifCond .eq 14, 3) := by decide +kernel
theorem dX10_sheet_40 : decode cX10_sheet 40 = .ok (.iload_n 3, 1) := by decide +kernel
theorem dX10_sheet_41 : decode cX10_sheet 41 = .ok (.ifCond .ge 10, 3) := by decide +kernel
theorem dX10_sheet_44 : decode cX10_sheet 44 = .ok (.aload_n 0, 1) := by decide +kernel
theorem dX10_sheet_45 : decode cX10_sheet 45 = .ok (.ldc 232, 2) := by decide +kernel
theorem dX10_sheet_47 : decode cX10_sheet 47 = .ok (.invokevirtual 84, 3) := by decide +kernel
theorem dX10_sheet_50 : decode cX10_sheet 50 = .ok (.ireturn, 1) := by decide +kernel
theorem dX10_sheet_51 : decode cX10_sheet 51 = .ok (.iload_n 2, 1) := by decide +kernel
theorem dX10_sheet_52 : decode cX10_sheet 52 = .ok (.ifCond .eq 16, 3) := by decide +kernel
theorem dX10_sheet_55 : decode cX10_sheet 55 = .ok (.iload_n 3, 1) := by decide +kernel
theorem dX10_sheet_56 : decode cX10_sheet 56 = .ok (.bipush 40, 2) := by decide +kernel
theorem dX10_sheet_58 : decode cX10_sheet 58 = .ok (.if_icmp .le 10, 3) := by decide +kernel
theorem dX10_sheet_61 : decode cX10_sheet 61 = .ok (.aload_n 0, 1) := by decide +kernel
theorem dX10_sheet_62 : decode cX10_sheet 62 = .ok (.ldc 83, 2) := by decide +kernel
theorem dX10_sheet_64 : decode cX10_sheet 64 = .ok (.invokevirtual 84, 3) := by decide +kernel
theorem dX10_sheet_67 : decode cX10_sheet 67 = .ok (.ireturn, 1) := by decide +kernel
theorem dX10_sheet_68 : decode cX10_sheet 68 = .ok (.aload_n 0, 1) := by decide +kernel
theorem dX10_sheet_69 : decode cX10_sheet 69 = .ok (.getfield 50, 3) := by decide +kernel
theorem dX10_sheet_72 : decode cX10_sheet 72 = .ok (.iload_n 1, 1) := by decide +kernel
theorem dX10_sheet_73 : decode cX10_sheet 73 = .ok (.iload_n 2, 1) := by decide +kernel
theorem dX10_sheet_74 : decode cX10_sheet 74 = .ok (.iastore, 1) := by decide +kernel
theorem dX10_sheet_75 : decode cX10_sheet 75 = .ok (.aload_n 0, 1) := by decide +kernel
theorem dX10_sheet_76 : decode cX10_sheet 76 = .ok (.getfield 53, 3) := by decide +kernel
theorem dX10_sheet_79 : decode cX10_sheet 79 = .ok (.iload_n 1, 1) := by decide +kernel
theorem dX10_sheet_80 : decode cX10_sheet 80 = .ok (.iload_n 2, 1) := by decide +kernel
theorem dX10_sheet_81 : decode cX10_sheet 81 = .ok (.ifCond .ne 7, 3) := by decide +kernel
theorem dX10_sheet_84 : decode cX10_sheet 84 = .ok (.iconst 0, 1) := by decide +kernel
theorem dX10_sheet_85 : decode cX10_sheet 85 = .ok (.goto 4, 3) := by decide +kernel
theorem dX10_sheet_88 : decode cX10_sheet 88 = .ok (.iload_n 3, 1) := by decide +kernel
theorem dX10_sheet_89 : decode cX10_sheet 89 = .ok (.iastore, 1) := by decide +kernel
theorem dX10_sheet_90 : decode cX10_sheet 90 = .ok (.iconst 0, 1) := by decide +kernel
theorem dX10_sheet_91 : decode cX10_sheet 91 = .ok (.istore 4, 2) := by decide +kernel
theorem dX10_sheet_93 : decode cX10_sheet 93 = .ok (.iload 4, 2) := by decide +kernel
theorem dX10_sheet_95 : decode cX10_sheet 95 = .ok (.bipush 40, 2) := by decide +kernel
theorem dX10_sheet_97 : decode cX10_sheet 97 = .ok (.if_icmp .ge 22, 3) := by decide +kernel
theorem dX10_sheet_100 : decode cX10_sheet 100 = .ok (.aload_n 0, 1) := by decide +kernel
theorem dX10_sheet_101 : decode cX10_sheet 101 = .ok (.getfield 56, 3) := by decide +kernel
theorem dX10_sheet_104 : decode cX10_sheet 104 = .ok (.bipush 40, 2) := by decide +kernel
theorem dX10_sheet_106 : decode cX10_sheet 106 = .ok (.iload_n 1, 1) := by decide +kernel
theorem dX10_sheet_107 : decode cX10_sheet 107 = .ok (.imul, 1) := by decide +kernel
theorem dX10_sheet_108 : decode cX10_sheet 108 = .ok (.iload 4, 2) := by decide +kernel
theorem dX10_sheet_110 : decode cX10_sheet 110 = .ok (.iadd, 1) := by decide +kernel
theorem dX10_sheet_111 : decode cX10_sheet 111 = .ok (.iconst 0, 1) := by decide +kernel
theorem dX10_sheet_112 : decode cX10_sheet 112 = .ok (.iastore, 1) := by decide +kernel
theorem dX10_sheet_113 : decode cX10_sheet 113 = .ok (.iinc 4 1, 3) := by decide +kernel
theorem dX10_sheet_116 : decode cX10_sheet 116 = .ok (.goto (-23), 3) := by decide +kernel
theorem dX10_sheet_119 : decode cX10_sheet 119 = .ok (.iconst 1, 1) := by decide +kernel
theorem dX10_sheet_120 : decode cX10_sheet 120 = .ok (.ireturn, 1) := by decide +kernel
theorem dX10_put_0 : decode cX10_put 0 = .ok (.iload_n 1, 1) := by decide +kernel
theorem dX10_put_1 : decode cX10_put 1 = .ok (.invokestatic 282, 3) := by decide +kernel
theorem dX10_put_4 : decode cX10_put 4 = .ok (.ifCond .ne 10, 3) := by decide +kernel
theorem dX10_put_7 : decode cX10_put 7 = .ok (.aload_n 0, 1) := by decide +kernel
theorem dX10_put_8 : decode cX10_put 8 = .ok (.ldc 83, 2) := by decide +kernel
theorem dX10_put_10 : decode cX10_put 10 = .ok (.invokevirtual 84, 3) := by decide +kernel
theorem dX10_put_13 : decode cX10_put 13 = .ok (.ireturn, 1) := by decide +kernel
theorem dX10_put_14 : decode cX10_put 14 = .ok (.aload_n 0, 1) := by decide +kernel
theorem dX10_put_15 : decode cX10_put 15 = .ok (.getfield 50, 3) := by decide +kernel
theorem dX10_put_18 : decode cX10_put 18 = .ok (.iload_n 1, 1) := by decide +kernel
theorem dX10_put_19 : decode cX10_put 19 = .ok (.iaload, 1) := by decide +kernel
theorem dX10_put_20 : decode cX10_put 20 = .ok (.ifCond .ne 11, 3) := by decide +kernel
theorem dX10_put_23 : decode cX10_put 23 = .ok (.aload_n 0, 1) := by decide +kernel
theorem dX10_put_24 : decode cX10_put 24 = .ok (.ldc_w 260, 3) := by decide +kernel
theorem dX10_put_27 : decode cX10_put 27 = .ok (.invokevirtual 84, 3) := by decide +kernel
theorem dX10_put_30 : decode cX10_put 30 = .ok (.ireturn, 1) := by decide +kernel
theorem dX10_put_31 : decode cX10_put 31 = .ok (.iload_n 2, 1) := by decide +kernel
theorem dX10_put_32 : decode cX10_put 32 = .ok (.iconst 0, 1) := by decide +kernel
theorem dX10_put_33 : decode cX10_put 33 = .ok (.aload_n 0, 1) := by decide +kernel
theorem dX10_put_34 : decode cX10_put 34 = .ok (.getfield 53, 3) := by decide +kernel
theorem dX10_put_37 : decode cX10_put 37 = .ok (.iload_n 1, 1) := by decide +kernel
theorem dX10_put_38 : decode cX10_put 38 = .ok (.iaload, 1) := by decide +kernel
theorem dX10_put_39 : decode cX10_put 39 = .ok (.iconst 1, 1) := by decide +kernel
theorem dX10_put_40 : decode cX10_put 40 = .ok (.isub, 1) := by decide +kernel
theorem dX10_put_41 : decode cX10_put 41 = .ok (.invokestatic 72, 3) := by decide +kernel
theorem dX10_put_44 : decode cX10_put 44 = .ok (.ifCond .ne 10, 3) := by decide +kernel
theorem dX10_put_47 : decode cX10_put 47 = .ok (.aload_n 0, 1) := by decide +kernel
theorem dX10_put_48 : decode cX10_put 48 = .ok (.ldc 83, 2) := by decide +kernel
theorem dX10_put_50 : decode cX10_put 50 = .ok (.invokevirtual 84, 3) := by decide +kernel
theorem dX10_put_53 : decode cX10_put 53 = .ok (.ireturn, 1) := by decide +kernel
theorem dX10_put_54 : decode cX10_put 54 = .ok (.aload_n 0, 1) := by decide +kernel
theorem dX10_put_55 : decode cX10_put 55 = .ok (.getfield 56, 3) := by decide +kernel
theorem dX10_put_58 : decode cX10_put 58 = .ok (.bipush 40, 2) := by decide +kernel
theorem dX10_put_60 : decode cX10_put 60 = .ok (.iload_n 1, 1) := by decide +kernel
theorem dX10_put_61 : decode cX10_put 61 = .ok (.imul, 1) := by decide +kernel
theorem dX10_put_62 : decode cX10_put 62 = .ok (.iload_n 2, 1) := by decide +kernel
theorem dX10_put_63 : decode cX10_put 63 = .ok (.iadd, 1) := by decide +kernel
theorem dX10_put_64 : decode cX10_put 64 = .ok (.aload_n 0, 1) := by decide +kernel
theorem dX10_put_65 : decode cX10_put 65 = .ok (.getfield 50, 3) := by decide +kernel
theorem dX10_put_68 : decode cX10_put 68 = .ok (.iload_n 1, 1) := by decide +kernel
theorem dX10_put_69 : decode cX10_put 69 = .ok (.iaload, 1) := by decide +kernel
theorem dX10_put_70 : decode cX10_put 70 = .ok (.bipush 8, 2) := by decide +kernel
theorem dX10_put_72 : decode cX10_put 72 = .ok (.if_icmp .ne 8, 3) := by decide +kernel
theorem dX10_put_75 : decode cX10_put 75 = .ok (.iload_n 3, 1) := by decide +kernel
theorem dX10_put_76 : decode cX10_put 76 = .ok (.i2b, 1) := by decide +kernel
theorem dX10_put_77 : decode cX10_put 77 = .ok (.goto 20, 3) := by decide +kernel
theorem dX10_put_80 : decode cX10_put 80 = .ok (.aload_n 0, 1) := by decide +kernel
theorem dX10_put_81 : decode cX10_put 81 = .ok (.getfield 50, 3) := by decide +kernel
theorem dX10_put_84 : decode cX10_put 84 = .ok (.iload_n 1, 1) := by decide +kernel
theorem dX10_put_85 : decode cX10_put 85 = .ok (.iaload, 1) := by decide +kernel
theorem dX10_put_86 : decode cX10_put 86 = .ok (.bipush 16, 2) := by decide +kernel
theorem dX10_put_88 : decode cX10_put 88 = .ok (.if_icmp .ne 8, 3) := by decide +kernel
theorem dX10_put_91 : decode cX10_put 91 = .ok (.iload_n 3, 1) := by decide +kernel
theorem dX10_put_92 : decode cX10_put 92 = .ok (.i2s, 1) := by decide +kernel
theorem dX10_put_93 : decode cX10_put 93 = .ok (.goto 4, 3) := by decide +kernel
theorem dX10_put_96 : decode cX10_put 96 = .ok (.iload_n 3, 1) := by decide +kernel
theorem dX10_put_97 : decode cX10_put 97 = .ok (.iastore, 1) := by decide +kernel
theorem dX10_put_98 : decode cX10_put 98 = .ok (.iconst 1, 1) := by decide +kernel
theorem dX10_put_99 : decode cX10_put 99 = .ok (.ireturn, 1) := by decide +kernel
theorem dX10_move_0 : decode cX10_move 0 = .ok (.iload_n 1, 1) := by decide +kernel
theorem dX10_move_1 : decode cX10_move 1 = .ok (.invokestatic 282, 3) := by decide +kernel
theorem dX10_move_4 : decode cX10_move 4 = .ok (.ifCond .eq 10, 3) := by decide +kernel
theorem dX10_move_7 : decode cX10_move 7 = .ok (.iload_n 3, 1) := by decide +kernel
theorem dX10_move_8 : decode cX10_move 8 = .ok (.invokestatic 282, 3) := by decide +kernel
theorem dX10_move_11 : decode cX10_move 11 = .ok (.ifCond .ne 10, 3) := by decide +kernel
theorem dX10_move_14 : decode cX10_move 14 = .ok (.aload_n 0, 1) := by decide +kernel
theorem dX10_move_15 : decode cX10_move 15 = .ok (.ldc 83, 2) := by decide +kernel
theorem dX10_move_17 : decode cX10_move 17 = .ok (.invokevirtual 84, 3) := by decide +kernel
theorem dX10_move_20 : decode cX10_move 20 = .ok (.ireturn, 1) := by decide +kernel
theorem dX10_move_21 : decode cX10_move 21 = .ok (.aload_n 0, 1) := by decide +kernel
theorem dX10_move_22 : decode cX10_move 22 = .ok (.getfield 50, 3) := by decide +kernel
theorem dX10_move_25 : decode cX10_move 25 = .ok (.iload_n 1, 1) := by decide +kernel
theorem dX10_move_26 : decode cX10_move 26 = .ok (.iaload, 1) := by decide +kernel
theorem dX10_move_27 : decode cX10_move 27 = .ok (.ifCond .eq 12, 3) := by decide +kernel
theorem dX10_move_30 : decode cX10_move 30 = .ok (.aload_n 0, 1) := by decide +kernel
theorem dX10_move_31 : decode cX10_move 31 = .ok (.getfield 50, 3) := by decide +kernel
theorem dX10_move_34 : decode cX10_move 34 = .ok (.iload_n 3, 1) := by decide +kernel
theorem dX10_move_35 : decode cX10_move 35 = .ok (.iaload, 1) := by decide +kernel
theorem dX10_move_36 : decode cX10_move 36 = .ok (.ifCond .ne 11, 3) := by decide +kernel
theorem dX10_move_39 : decode cX10_move 39 = .ok (.aload_n 0, 1) := by decide +kernel
theorem dX10_move_40 : decode cX10_move 40 = .ok (.ldc_w 260, 3) := by decide +kernel
theorem dX10_move_43 : decode cX10_move 43 = .ok (.invokevirtual 84, 3) := by decide +kernel
theorem dX10_move_46 : decode cX10_move 46 = .ok (.ireturn, 1) := by decide +kernel
theorem dX10_move_47 : decode cX10_move 47 = .ok (.aload_n 0, 1) := by decide +kernel
theorem dX10_move_48 : decode cX10_move 48 = .ok (.getfield 50, 3) := by decide +kernel
theorem dX10_move_51 : decode cX10_move 51 = .ok (.iload_n 1, 1) := by decide +kernel
theorem dX10_move_52 : decode cX10_move 52 = .ok (.iaload, 1) := by decide +kernel
theorem dX10_move_53 : decode cX10_move 53 = .ok (.aload_n 0, 1) := by decide +kernel
theorem dX10_move_54 : decode cX10_move 54 = .ok (.getfield 50, 3) := by decide +kernel
theorem dX10_move_57 : decode cX10_move 57 = .ok (.iload_n 3, 1) := by decide +kernel
theorem dX10_move_58 : decode cX10_move 58 = .ok (.iaload, 1) := by decide +kernel
theorem dX10_move_59 : decode cX10_move 59 = .ok (.if_icmp .eq 10, 3) := by decide +kernel
theorem dX10_move_62 : decode cX10_move 62 = .ok (.aload_n 0, 1) := by decide +kernel
theorem dX10_move_63 : decode cX10_move 63 = .ok (.ldc 110, 2) := by decide +kernel
theorem dX10_move_65 : decode cX10_move 65 = .ok (.invokevirtual 84, 3) := by decide +kernel
theorem dX10_move_68 : decode cX10_move 68 = .ok (.ireturn, 1) := by decide +kernel
theorem dX10_move_69 : decode cX10_move 69 = .ok (.iload 5, 2) := by decide +kernel
theorem dX10_move_71 : decode cX10_move 71 = .ok (.ifCond .lt 47, 3) := by decide +kernel
theorem dX10_move_74 : decode cX10_move 74 = .ok (.iload_n 2, 1) := by decide +kernel
theorem dX10_move_75 : decode cX10_move 75 = .ok (.ifCond .lt 43, 3) := by decide +kernel
theorem dX10_move_78 : decode cX10_move 78 = .ok (.iload 4, 2) := by decide +kernel
theorem dX10_move_80 : decode cX10_move 80 = .ok (.ifCond .lt 38, 3) := by decide +kernel
theorem dX10_move_83 : decode cX10_move 83 = .ok (.iload_n 2, 1) := by decide +kernel
theorem dX10_move_84 : decode cX10_move 84 = .ok (.i2l, 1) := by decide +kernel
theorem dX10_move_85 : decode cX10_move 85 = .ok (.iload 5, 2) := by decide +kernel
theorem dX10_move_87 : decode cX10_move 87 = .ok (.i2l, 1) := by decide +kernel
theorem dX10_move_88 : decode cX10_move 88 = .ok (.ladd, 1) := by decide +kernel
theorem dX10_move_89 : decode cX10_move 89 = .ok (.aload_n 0, 1) := by decide +kernel
theorem dX10_move_90 : decode cX10_move 90 = .ok (.getfield 53, 3) := by decide +kernel
theorem dX10_move_93 : decode cX10_move 93 = .ok (.iload_n 1, 1) := by decide +kernel
theorem dX10_move_94 : decode cX10_move 94 = .ok (.iaload, 1) := by decide +kernel
theorem dX10_move_95 : decode cX10_move 95 = .ok (.i2l, 1) := by decide +kernel
theorem dX10_move_96 : decode cX10_move 96 = .ok (.lcmp, 1) := by decide +kernel
theorem dX10_move_97 : decode cX10_move 97 = .ok (.ifCond .gt 21, 3) := by decide +kernel
theorem dX10_move_100 : decode cX10_move 100 = .ok (.iload 4, 2) := by decide +kernel
theorem dX10_move_102 : decode cX10_move 102 = .ok (.i2l, 1) := by decide +kernel
theorem dX10_move_103 : decode cX10_move 103 = .ok (.iload 5, 2) := by decide +kernel
theorem dX10_move_105 : decode cX10_move 105 = .ok (.i2l, 1) := by decide +kernel
theorem dX10_move_106 : decode cX10_move 106 = .ok (.ladd, 1) := by decide +kernel
theorem dX10_move_107 : decode cX10_move 107 = .ok (.aload_n 0, 1) := by decide +kernel
theorem dX10_move_108 : decode cX10_move 108 = .ok (.getfield 53, 3) := by decide +kernel
theorem dX10_move_111 : decode cX10_move 111 = .ok (.iload_n 3, 1) := by decide +kernel
theorem dX10_move_112 : decode cX10_move 112 = .ok (.iaload, 1) := by decide +kernel
theorem dX10_move_113 : decode cX10_move 113 = .ok (.i2l, 1) := by decide +kernel
theorem dX10_move_114 : decode cX10_move 114 = .ok (.lcmp, 1) := by decide +kernel
theorem dX10_move_115 : decode cX10_move 115 = .ok (.ifCond .le 10, 3) := by decide +kernel
theorem dX10_move_118 : decode cX10_move 118 = .ok (.aload_n 0, 1) := by decide +kernel
theorem dX10_move_119 : decode cX10_move 119 = .ok (.ldc 83, 2) := by decide +kernel
theorem dX10_move_121 : decode cX10_move 121 = .ok (.invokevirtual 84, 3) := by decide +kernel
theorem dX10_move_124 : decode cX10_move 124 = .ok (.ireturn, 1) := by decide +kernel
theorem dX10_move_125 : decode cX10_move 125 = .ok (.iconst 0, 1) := by decide +kernel
theorem dX10_move_126 : decode cX10_move 126 = .ok (.istore 6, 2) := by decide +kernel
theorem dX10_move_128 : decode cX10_move 128 = .ok (.iload 6, 2) := by decide +kernel
theorem dX10_move_130 : decode cX10_move 130 = .ok (.iload 5, 2) := by decide +kernel
theorem dX10_move_132 : decode cX10_move 132 = .ok (.if_icmp .ge 30, 3) := by decide +kernel
theorem dX10_move_135 : decode cX10_move 135 = .ok (.aload_n 0, 1) := by decide +kernel
theorem dX10_move_136 : decode cX10_move 136 = .ok (.getfield 59, 3) := by decide +kernel
theorem dX10_move_139 : decode cX10_move 139 = .ok (.iload 6, 2) := by decide +kernel
theorem dX10_move_141 : decode cX10_move 141 = .ok (.aload_n 0, 1) := by decide +kernel
theorem dX10_move_142 : decode cX10_move 142 = .ok (.getfield 56, 3) := by decide +kernel
theorem dX10_move_145 : decode cX10_move 145 = .ok (.bipush 40, 2) := by decide +kernel
theorem dX10_move_147 : decode cX10_move 147 = .ok (.iload_n 1, 1) := by decide +kernel
theorem dX10_move_148 : decode cX10_move 148 = .ok (.imul, 1) := by decide +kernel
theorem dX10_move_149 : decode cX10_move 149 = .ok (.iload_n 2, 1) := by decide +kernel
theorem dX10_move_150 : decode cX10_move 150 = .ok (.iadd, 1) := by decide +kernel
theorem dX10_move_151 : decode cX10_move 151 = .ok (.iload 6, 2) := by decide +kernel
theorem dX10_move_153 : decode cX10_move 153 = .ok (.iadd, 1) := by decide +kernel
theorem dX10_move_154 : decode cX10_move 154 = .ok (.iaload, 1) := by decide +kernel
theorem dX10_move_155 : decode cX10_move 155 = .ok (.iastore, 1) := by decide +kernel
theorem dX10_move_156 : decode cX10_move 156 = .ok (.iinc 6 1, 3) := by decide +kernel
theorem dX10_move_159 : decode cX10_move 159 = .ok (.goto (-31), 3) := by decide +kernel
theorem dX10_move_162 : decode cX10_move 162 = .ok (.iconst 0, 1) := by decide +kernel
theorem dX10_move_163 : decode cX10_move 163 = .ok (.istore 6, 2) := by decide +kernel
theorem dX10_move_165 : decode cX10_move 165 = .ok (.iload 6, 2) := by decide +kernel
theorem dX10_move_167 : decode cX10_move 167 = .ok (.iload 5, 2) := by decide +kernel
theorem dX10_move_169 : decode cX10_move 169 = .ok (.if_icmp .ge 31, 3) := by decide +kernel
theorem dX10_move_172 : decode cX10_move 172 = .ok (.aload_n 0, 1) := by decide +kernel
theorem dX10_move_173 : decode cX10_move 173 = .ok (.getfield 56, 3) := by decide +kernel
theorem dX10_move_176 : decode cX10_move 176 = .ok (.bipush 40, 2) := by decide +kernel
theorem dX10_move_178 : decode cX10_move 178 = .ok (.iload_n 3, 1) := by decide +kernel
theorem dX10_move_179 : decode cX10_move 179 = .ok (.imul, 1) := by decide +kernel
theorem dX10_move_180 : decode cX10_move 180 = .ok (.iload 4, 2) := by decide +kernel
theorem dX10_move_182 : decode cX10_move 182 = .ok (.iadd, 1) := by decide +kernel
theorem dX10_move_183 : decode cX10_move 183 = .ok (.iload 6, 2) := by decide +kernel
theorem dX10_move_185 : decode cX10_move 185 = .ok (.iadd, 1) := by decide +kernel
theorem dX10_move_186 : decode cX10_move 186 = .ok (.aload_n 0, 1) := by decide +kernel
theorem dX10_move_187 : decode cX10_move 187 = .ok (.getfield 59, 3) := by decide +kernel
theorem dX10_move_190 : decode cX10_move 190 = .ok (.iload 6, 2) := by decide +kernel
theorem dX10_move_192 : decode cX10_move 192 = .ok (.iaload, 1) := by decide +kernel
theorem dX10_move_193 : decode cX10_move 193 = .ok (.iastore, 1) := by decide +kernel
theorem dX10_move_194 : decode cX10_move 194 = .ok (.iinc 6 1, 3) := by decide +kernel
theorem dX10_move_197 : decode cX10_move 197 = .ok (.goto (-32), 3) := by decide +kernel
theorem dX10_move_200 : decode cX10_move 200 = .ok (.iload 5, 2) := by decide +kernel
theorem dX10_move_202 : decode cX10_move 202 = .ok (.ireturn, 1) := by decide +kernel
theorem dX10_refuses_0 : decode cX10_refuses 0 = .ok (.iload_n 1, 1) := by decide +kernel
theorem dX10_refuses_1 : decode cX10_refuses 1 = .ok (.invokestatic 282, 3) := by decide +kernel
theorem dX10_refuses_4 : decode cX10_refuses 4 = .ok (.ifCond .eq 13, 3) := by decide +kernel
theorem dX10_refuses_7 : decode cX10_refuses 7 = .ok (.aload_n 0, 1) := by decide +kernel
theorem dX10_refuses_8 : decode cX10_refuses 8 = .ok (.iload_n 2, 1) := by decide +kernel
theorem dX10_refuses_9 : decode cX10_refuses 9 = .ok (.bipush 7, 2) := by decide +kernel
theorem dX10_refuses_11 : decode cX10_refuses 11 = .ok (.invokevirtual 100, 3) := by decide +kernel
theorem dX10_refuses_14 : decode cX10_refuses 14 = .ok (.ifCond .ne 8, 3) := by decide +kernel
theorem dX10_refuses_17 : decode cX10_refuses 17 = .ok (.ldc 83, 2) := by decide +kernel
theorem dX10_refuses_19 : decode cX10_refuses 19 = .ok (.goto 19, 3) := by decide +kernel
theorem dX10_refuses_22 : decode cX10_refuses 22 = .ok (.aload_n 0, 1) := by decide +kernel
theorem dX10_refuses_23 : decode cX10_refuses 23 = .ok (.getfield 50, 3) := by decide +kernel
theorem dX10_refuses_26 : decode cX10_refuses 26 = .ok (.iload_n 1, 1) := by decide +kernel
theorem dX10_refuses_27 : decode cX10_refuses 27 = .ok (.iaload, 1) := by decide +kernel
theorem dX10_refuses_28 : decode cX10_refuses 28 = .ok (.ifCond .ne 9, 3) := by decide +kernel
theorem dX10_refuses_31 : decode cX10_refuses 31 = .ok (.ldc_w 260, 3) := by decide +kernel
theorem dX10_refuses_34 : decode cX10_refuses 34 = .ok (.goto 4, 3) := by decide +kernel
theorem dX10_refuses_37 : decode cX10_refuses 37 = .ok (.iconst 0, 1) := by decide +kernel
theorem dX10_refuses_38 : decode cX10_refuses 38 = .ok (.ireturn, 1) := by decide +kernel
theorem dX10_part_0 : decode cX10_part 0 = .ok (.aload_n 0, 1) := by decide +kernel
theorem dX10_part_1 : decode cX10_part 1 = .ok (.iload_n 1, 1) := by decide +kernel
theorem dX10_part_2 : decode cX10_part 2 = .ok (.iload_n 2, 1) := by decide +kernel
theorem dX10_part_3 : decode cX10_part 3 = .ok (.invokevirtual 285, 3) := by decide +kernel
theorem dX10_part_6 : decode cX10_part 6 = .ok (.istore_n 3, 1) := by decide +kernel
theorem dX10_part_7 : decode cX10_part 7 = .ok (.iload_n 3, 1) := by decide +kernel
theorem dX10_part_8 : decode cX10_part 8 = .ok (.ifCond .eq 9, 3) := by decide +kernel
theorem dX10_part_11 : decode cX10_part 11 = .ok (.aload_n 0, 1) := by decide +kernel
theorem dX10_part_12 : decode cX10_part 12 = .ok (.iload_n 3, 1) := by decide +kernel
theorem dX10_part_13 : decode cX10_part 13 = .ok (.invokevirtual 84, 3) := by decide +kernel
theorem dX10_part_16 : decode cX10_part 16 = .ok (.ireturn, 1) := by decide +kernel
theorem dX10_part_17 : decode cX10_part 17 = .ok (.iconst 0, 1) := by decide +kernel
theorem dX10_part_18 : decode cX10_part 18 = .ok (.istore 4, 2) := by decide +kernel
theorem dX10_part_20 : decode cX10_part 20 = .ok (.iconst 0, 1) := by decide +kernel
theorem dX10_part_21 : decode cX10_part 21 = .ok (.istore 5, 2) := by decide +kernel
theorem dX10_part_23 : decode cX10_part 23 = .ok (.iload 5, 2) := by decide +kernel
theorem dX10_part_25 : decode cX10_part 25 = .ok (.aload_n 0, 1) := by decide +kernel
theorem dX10_part_26 : decode cX10_part 26 = .ok (.getfield 53, 3) := by decide +kernel
theorem dX10_part_29 : decode cX10_part 29 = .ok (.iload_n 1, 1) := by decide +kernel
theorem dX10_part_30 : decode cX10_part 30 = .ok (.iaload, 1) := by decide +kernel
theorem dX10_part_31 : decode cX10_part 31 = .ok (.if_icmp .ge 49, 3) := by decide +kernel
theorem dX10_part_34 : decode cX10_part 34 = .ok (.aload_n 0, 1) := by decide +kernel
theorem dX10_part_35 : decode cX10_part 35 = .ok (.getfield 56, 3) := by decide +kernel
theorem dX10_part_38 : decode cX10_part 38 = .ok (.bipush 40, 2) := by decide +kernel
theorem dX10_part_40 : decode cX10_part 40 = .ok (.iload_n 1, 1) := by decide +kernel
theorem dX10_part_41 : decode cX10_part 41 = .ok (.imul, 1) := by decide +kernel
theorem dX10_part_42 : decode cX10_part 42 = .ok (.iload 5, 2) := by decide +kernel
theorem dX10_part_44 : decode cX10_part 44 = .ok (.iadd, 1) := by decide +kernel
theorem dX10_part_45 : decode cX10_part 45 = .ok (.iaload, 1) := by decide +kernel
theorem dX10_part_46 : decode cX10_part 46 = .ok (.iconst 0, 1) := by decide +kernel
theorem dX10_part_47 : decode cX10_part 47 = .ok (.bipush 31, 2) := by decide +kernel
theorem dX10_part_49 : decode cX10_part 49 = .ok (.invokestatic 72, 3) := by decide +kernel
theorem dX10_part_52 : decode cX10_part 52 = .ok (.ifCond .eq 28, 3) := by decide +kernel
theorem dX10_part_55 : decode cX10_part 55 = .ok (.iload 4, 2) := by decide +kernel
theorem dX10_part_57 : decode cX10_part 57 = .ok (.iconst 1, 1) := by decide +kernel
theorem dX10_part_58 : decode cX10_part 58 = .ok (.aload_n 0, 1) := by decide +kernel
theorem dX10_part_59 : decode cX10_part 59 = .ok (.getfield 56, 3) := by decide +kernel
theorem dX10_part_62 : decode cX10_part 62 = .ok (.bipush 40, 2) := by decide +kernel
theorem dX10_part_64 : decode cX10_part 64 = .ok (.iload_n 1, 1) := by decide +kernel
theorem dX10_part_65 : decode cX10_part 65 = .ok (.imul, 1) := by decide +kernel
theorem dX10_part_66 : decode cX10_part 66 = .ok (.iload 5, 2) := by decide +kernel
theorem dX10_part_68 : decode cX10_part 68 = .ok (.iadd, 1) := by decide +kernel
theorem dX10_part_69 : decode cX10_part 69 = .ok (.iaload, 1) := by decide +kernel
theorem dX10_part_70 : decode cX10_part 70 = .ok (.ishl, 1) := by decide +kernel
theorem dX10_part_71 : decode cX10_part 71 = .ok (.ior, 1) := by decide +kernel
theorem dX10_part_72 : decode cX10_part 72 = .ok (.istore 4, 2) := by decide +kernel
theorem dX10_part_74 : decode cX10_part 74 = .ok (.iinc 5 1, 3) := by decide +kernel
theorem dX10_part_77 : decode cX10_part 77 = .ok (.goto (-54), 3) := by decide +kernel
theorem dX10_part_80 : decode cX10_part 80 = .ok (.aload_n 0, 1) := by decide +kernel
theorem dX10_part_81 : decode cX10_part 81 = .ok (.getfield 9, 3) := by decide +kernel
theorem dX10_part_84 : decode cX10_part 84 = .ok (.bipush 12, 2) := by decide +kernel
theorem dX10_part_86 : decode cX10_part 86 = .ok (.iconst 4, 1) := by decide +kernel
theorem dX10_part_87 : decode cX10_part 87 = .ok (.iload_n 2, 1) := by decide +kernel
theorem dX10_part_88 : decode cX10_part 88 = .ok (.imul, 1) := by decide +kernel
theorem dX10_part_89 : decode cX10_part 89 = .ok (.iadd, 1) := by decide +kernel
theorem dX10_part_90 : decode cX10_part 90 = .ok (.iconst 3, 1) := by decide +kernel
theorem dX10_part_91 : decode cX10_part 91 = .ok (.iadd, 1) := by decide +kernel
theorem dX10_part_92 : decode cX10_part 92 = .ok (.iload 4, 2) := by decide +kernel
theorem dX10_part_94 : decode cX10_part 94 = .ok (.iastore, 1) := by decide +kernel
theorem dX10_part_95 : decode cX10_part 95 = .ok (.iload 4, 2) := by decide +kernel
theorem dX10_part_97 : decode cX10_part 97 = .ok (.invokestatic 127, 3) := by decide +kernel
theorem dX10_part_100 : decode cX10_part 100 = .ok (.ireturn, 1) := by decide +kernel
theorem dX10_judge_0 : decode cX10_judge 0 = .ok (.aload_n 0, 1) := by decide +kernel
theorem dX10_judge_1 : decode cX10_judge 1 = .ok (.iload_n 1, 1) := by decide +kernel
theorem dX10_judge_2 : decode cX10_judge 2 = .ok (.iload_n 2, 1) := by decide +kernel
theorem dX10_judge_3 : decode cX10_judge 3 = .ok (.invokevirtual 285, 3) := by decide +kernel
theorem dX10_judge_6 : decode cX10_judge 6 = .ok (.istore_n 3, 1) := by decide +kernel
theorem dX10_judge_7 : decode cX10_judge 7 = .ok (.iload_n 3, 1) := by decide +kernel
theorem dX10_judge_8 : decode cX10_judge 8 = .ok (.ifCond .eq 9, 3) := by decide +kernel
theorem dX10_judge_11 : decode cX10_judge 11 = .ok (.aload_n 0, 1) := by decide +kernel
theorem dX10_judge_12 : decode cX10_judge 12 = .ok (.iload_n 3, 1) := by decide +kernel
theorem dX10_judge_13 : decode cX10_judge 13 = .ok (.invokevirtual 84, 3) := by decide +kernel
theorem dX10_judge_16 : decode cX10_judge 16 = .ok (.ireturn, 1) := by decide +kernel
theorem dX10_judge_17 : decode cX10_judge 17 = .ok (.aload_n 0, 1) := by decide +kernel
theorem dX10_judge_18 : decode cX10_judge 18 = .ok (.getfield 9, 3) := by decide +kernel
theorem dX10_judge_21 : decode cX10_judge 21 = .ok (.aload_n 0, 1) := by decide +kernel
theorem dX10_judge_22 : decode cX10_judge 22 = .ok (.getfield 16, 3) := by decide +kernel
theorem dX10_judge_25 : decode cX10_judge 25 = .ok (.invokestatic 76, 3) := by decide +kernel
theorem dX10_judge_28 : decode cX10_judge 28 = .ok (.iconst 0, 1) := by decide +kernel
theorem dX10_judge_29 : decode cX10_judge 29 = .ok (.istore 4, 2) := by decide +kernel
theorem dX10_judge_31 : decode cX10_judge 31 = .ok (.iload 4, 2) := by decide +kernel
theorem dX10_judge_33 : decode cX10_judge 33 = .ok (.aload_n 0, 1) := by decide +kernel
theorem dX10_judge_34 : decode cX10_judge 34 = .ok (.getfield 53, 3) := by decide +kernel
theorem dX10_judge_37 : decode cX10_judge 37 = .ok (.iload_n 1, 1) := by decide +kernel
theorem dX10_judge_38 : decode cX10_judge 38 = .ok (.iaload, 1) := by decide +kernel
theorem dX10_judge_39 : decode cX10_judge 39 = .ok (.if_icmp .ge 34, 3) := by decide +kernel
theorem dX10_judge_42 : decode cX10_judge 42 = .ok (.aload_n 0, 1) := by decide +kernel
theorem dX10_judge_43 : decode cX10_judge 43 = .ok (.getfield 56, 3) := by decide +kernel
theorem dX10_judge_46 : decode cX10_judge 46 = .ok (.bipush 40, 2) := by decide +kernel
theorem dX10_judge_48 : decode cX10_judge 48 = .ok (.iload_n 1, 1) := by decide +kernel
theorem dX10_judge_49 : decode cX10_judge 49 = .ok (.imul, 1) := by decide +kernel
theorem dX10_judge_50 : decode cX10_judge 50 = .ok (.iload 4, 2) := by decide +kernel
theorem dX10_judge_52 : decode cX10_judge 52 = .ok (.iadd, 1) := by decide +kernel
theorem dX10_judge_53 : decode cX10_judge 53 = .ok (.iaload, 1) := by decide +kernel
theorem dX10_judge_54 : decode cX10_judge 54 = .ok (.aload_n 0, 1) := by decide +kernel
theorem dX10_judge_55 : decode cX10_judge 55 = .ok (.iload_n 2, 1) := by decide +kernel
theorem dX10_judge_56 : decode cX10_judge 56 = .ok (.iconst 2, 1) := by decide +kernel
theorem dX10_judge_57 : decode cX10_judge 57 = .ok (.invokevirtual 93, 3) := by decide +kernel
theorem dX10_judge_60 : decode cX10_judge 60 = .ok (.if_icmp .ne 13, 3) := by decide +kernel
theorem dX10_judge_63 : decode cX10_judge 63 = .ok (.aload_n 0, 1) := by decide +kernel
theorem dX10_judge_64 : decode cX10_judge 64 = .ok (.invokevirtual 229, 3) := by decide +kernel
theorem dX10_judge_67 : decode cX10_judge 67 = .ok (.iinc 4 1, 3) := by decide +kernel
theorem dX10_judge_70 : decode cX10_judge 70 = .ok (.goto (-39), 3) := by decide +kernel
theorem dX10_judge_73 : decode cX10_judge 73 = .ok (.aload_n 0, 1) := by decide +kernel
theorem dX10_judge_74 : decode cX10_judge 74 = .ok (.iload 4, 2) := by decide +kernel
theorem dX10_judge_76 : decode cX10_judge 76 = .ok (.invokevirtual 244, 3) := by decide +kernel
theorem dX10_judge_79 : decode cX10_judge 79 = .ok (.ireturn, 1) := by decide +kernel
theorem dX10_image_0 : decode cX10_image 0 = .ok (.aload_n 0, 1) := by decide +kernel
theorem dX10_image_1 : decode cX10_image 1 = .ok (.getfield 9, 3) := by decide +kernel
theorem dX10_image_4 : decode cX10_image 4 = .ok (.aload_n 0, 1) := by decide +kernel
theorem dX10_image_5 : decode cX10_image 5 = .ok (.getfield 13, 3) := by decide +kernel
theorem dX10_image_8 : decode cX10_image 8 = .ok (.invokestatic 76, 3) := by decide +kernel
theorem dX10_image_11 : decode cX10_image 11 = .ok (.aload_n 0, 1) := by decide +kernel
theorem dX10_image_12 : decode cX10_image 12 = .ok (.dup, 1) := by decide +kernel
theorem dX10_image_13 : decode cX10_image 13 = .ok (.getfield 288, 3) := by decide +kernel
theorem dX10_image_16 : decode cX10_image 16 = .ok (.iconst 1, 1) := by decide +kernel
theorem dX10_image_17 : decode cX10_image 17 = .ok (.iadd, 1) := by decide +kernel
theorem dX10_image_18 : decode cX10_image 18 = .ok (.putfield 288, 3) := by decide +kernel
theorem dX10_image_21 : decode cX10_image 21 = .ok (.aload_n 0, 1) := by decide +kernel
theorem dX10_image_22 : decode cX10_image 22 = .ok (.getfield 288, 3) := by decide +kernel
theorem dX10_image_25 : decode cX10_image 25 = .ok (.ireturn, 1) := by decide +kernel
theorem dX10_restore_0 : decode cX10_restore 0 = .ok (.aload_n 0, 1) := by decide +kernel
theorem dX10_restore_1 : decode cX10_restore 1 = .ok (.getfield 288, 3) := by decide +kernel
theorem dX10_restore_4 : decode cX10_restore 4 = .ok (.ifCond .ne 11, 3) := by decide +kernel
theorem dX10_restore_7 : decode cX10_restore 7 = .ok (.aload_n 0, 1) := by decide +kernel
theorem dX10_restore_8 : decode cX10_restore 8 = .ok (.ldc_w 260, 3) := by decide +kernel
theorem dX10_restore_11 : decode cX10_restore 11 = .ok (.invokevirtual 84, 3) := by decide +kernel
theorem dX10_restore_14 : decode cX10_restore 14 = .ok (.ireturn, 1) := by decide +kernel
theorem dX10_restore_15 : decode cX10_restore 15 = .ok (.aload_n 0, 1) := by decide +kernel
theorem dX10_restore_16 : decode cX10_restore 16 = .ok (.getfield 13, 3) := by decide +kernel
theorem dX10_restore_19 : decode cX10_restore 19 = .ok (.aload_n 0, 1) := by decide +kernel
theorem dX10_restore_20 : decode cX10_restore 20 = .ok (.getfield 9, 3) := by decide +kernel
theorem dX10_restore_23 : decode cX10_restore 23 = .ok (.invokestatic 76, 3) := by decide +kernel
theorem dX10_restore_26 : decode cX10_restore 26 = .ok (.aload_n 0, 1) := by decide +kernel
theorem dX10_restore_27 : decode cX10_restore 27 = .ok (.invokevirtual 199, 3) := by decide +kernel
theorem dX10_restore_30 : decode cX10_restore 30 = .ok (.aload_n 0, 1) := by decide +kernel
theorem dX10_restore_31 : decode cX10_restore 31 = .ok (.getfield 9, 3) := by decide +kernel
theorem dX10_restore_34 : decode cX10_restore 34 = .ok (.iconst 0, 1) := by decide +kernel
theorem dX10_restore_35 : decode cX10_restore 35 = .ok (.iaload, 1) := by decide +kernel
theorem dX10_restore_36 : decode cX10_restore 36 = .ok (.ireturn, 1) := by decide +kernel
theorem dX10_tell_0 : decode cX10_tell 0 = .ok (.aload_n 0, 1) := by decide +kernel
theorem dX10_tell_1 : decode cX10_tell 1 = .ok (.getfield 9, 3) := by decide +kernel
theorem dX10_tell_4 : decode cX10_tell 4 = .ok (.bipush 10, 2) := by decide +kernel
theorem dX10_tell_6 : decode cX10_tell 6 = .ok (.iaload, 1) := by decide +kernel
theorem dX10_tell_7 : decode cX10_tell 7 = .ok (.bipush 20, 2) := by decide +kernel
theorem dX10_tell_9 : decode cX10_tell 9 = .ok (.if_icmp .ne 10, 3) := by decide +kernel
theorem dX10_tell_12 : decode cX10_tell 12 = .ok (.aload_n 0, 1) := by decide +kernel
theorem dX10_tell_13 : decode cX10_tell 13 = .ok (.ldc 92, 2) := by decide +kernel
theorem dX10_tell_15 : decode cX10_tell 15 = .ok (.invokevirtual 84, 3) := by decide +kernel
theorem dX10_tell_18 : decode cX10_tell 18 = .ok (.ireturn, 1) := by decide +kernel
theorem dX10_tell_19 : decode cX10_tell 19 = .ok (.aload_n 0, 1) := by decide +kernel
theorem dX10_tell_20 : decode cX10_tell 20 = .ok (.getfield 9, 3) := by decide +kernel
theorem dX10_tell_23 : decode cX10_tell 23 = .ok (.bipush 116, 2) := by decide +kernel
theorem dX10_tell_25 : decode cX10_tell 25 = .ok (.aload_n 0, 1) := by decide +kernel
theorem dX10_tell_26 : decode cX10_tell 26 = .ok (.getfield 9, 3) := by decide +kernel
theorem dX10_tell_29 : decode cX10_tell 29 = .ok (.bipush 10, 2) := by decide +kernel
theorem dX10_tell_31 : decode cX10_tell 31 = .ok (.iaload, 1) := by decide +kernel
theorem dX10_tell_32 : decode cX10_tell 32 = .ok (.iadd, 1) := by decide +kernel
theorem dX10_tell_33 : decode cX10_tell 33 = .ok (.iload_n 1, 1) := by decide +kernel
theorem dX10_tell_34 : decode cX10_tell 34 = .ok (.iastore, 1) := by decide +kernel
theorem dX10_tell_35 : decode cX10_tell 35 = .ok (.aload_n 0, 1) := by decide +kernel
theorem dX10_tell_36 : decode cX10_tell 36 = .ok (.getfield 9, 3) := by decide +kernel
theorem dX10_tell_39 : decode cX10_tell 39 = .ok (.bipush 10, 2) := by decide +kernel
theorem dX10_tell_41 : decode cX10_tell 41 = .ok (.dup2, 1) := by decide +kernel
theorem dX10_tell_42 : decode cX10_tell 42 = .ok (.iaload, 1) := by decide +kernel
theorem dX10_tell_43 : decode cX10_tell 43 = .ok (.iconst 1, 1) := by decide +kernel
theorem dX10_tell_44 : decode cX10_tell 44 = .ok (.iadd, 1) := by decide +kernel
theorem dX10_tell_45 : decode cX10_tell 45 = .ok (.iastore, 1) := by decide +kernel
theorem dX10_tell_46 : decode cX10_tell 46 = .ok (.aload_n 0, 1) := by decide +kernel
theorem dX10_tell_47 : decode cX10_tell 47 = .ok (.getfield 9, 3) := by decide +kernel
theorem dX10_tell_50 : decode cX10_tell 50 = .ok (.bipush 10, 2) := by decide +kernel
theorem dX10_tell_52 : decode cX10_tell 52 = .ok (.iaload, 1) := by decide +kernel
theorem dX10_tell_53 : decode cX10_tell 53 = .ok (.ireturn, 1) := by decide +kernel
theorem dX10_check_0 : decode cX10_check 0 = .ok (.aload_n 0, 1) := by decide +kernel
theorem dX10_check_1 : decode cX10_check 1 = .ok (.getfield 9, 3) := by decide +kernel
theorem dX10_check_4 : decode cX10_check 4 = .ok (.bipush 10, 2) := by decide +kernel
theorem dX10_check_6 : decode cX10_check 6 = .ok (.iaload, 1) := by decide +kernel
theorem dX10_check_7 : decode cX10_check 7 = .ok (.istore_n 2, 1) := by decide +kernel
theorem dX10_check_8 : decode cX10_check 8 = .ok (.aload_n 0, 1) := by decide +kernel
theorem dX10_check_9 : decode cX10_check 9 = .ok (.getfield 9, 3) := by decide +kernel
theorem dX10_check_12 : decode cX10_check 12 = .ok (.bipush 10, 2) := by decide +kernel
theorem dX10_check_14 : decode cX10_check 14 = .ok (.iconst 0, 1) := by decide +kernel
theorem dX10_check_15 : decode cX10_check 15 = .ok (.iastore, 1) := by decide +kernel
theorem dX10_check_16 : decode cX10_check 16 = .ok (.aload_n 0, 1) := by decide +kernel
theorem dX10_check_17 : decode cX10_check 17 = .ok (.iload_n 1, 1) := by decide +kernel
theorem dX10_check_18 : decode cX10_check 18 = .ok (.bipush 8, 2) := by decide +kernel
theorem dX10_check_20 : decode cX10_check 20 = .ok (.invokevirtual 100, 3) := by decide +kernel
theorem dX10_check_23 : decode cX10_check 23 = .ok (.ifCond .ne 10, 3) := by decide +kernel
theorem dX10_check_26 : decode cX10_check 26 = .ok (.aload_n 0, 1) := by decide +kernel
theorem dX10_check_27 : decode cX10_check 27 = .ok (.ldc 83, 2) := by decide +kernel
theorem dX10_check_29 : decode cX10_check 29 = .ok (.invokevirtual 84, 3) := by decide +kernel
theorem dX10_check_32 : decode cX10_check 32 = .ok (.ireturn, 1) := by decide +kernel
theorem dX10_check_33 : decode cX10_check 33 = .ok (.aload_n 0, 1) := by decide +kernel
theorem dX10_check_34 : decode cX10_check 34 = .ok (.getfield 9, 3) := by decide +kernel
theorem dX10_check_37 : decode cX10_check 37 = .ok (.aload_n 0, 1) := by decide +kernel
theorem dX10_check_38 : decode cX10_check 38 = .ok (.getfield 16, 3) := by decide +kernel
theorem dX10_check_41 : decode cX10_check 41 = .ok (.invokestatic 76, 3) := by decide +kernel
theorem dX10_check_44 : decode cX10_check 44 = .ok (.iconst 0, 1) := by decide +kernel
theorem dX10_check_45 : decode cX10_check 45 = .ok (.istore_n 3, 1) := by decide +kernel
theorem dX10_check_46 : decode cX10_check 46 = .ok (.iconst 0, 1) := by decide +kernel
theorem dX10_check_47 : decode cX10_check 47 = .ok (.istore 4, 2) := by decide +kernel
theorem dX10_check_49 : decode cX10_check 49 = .ok (.iload 4, 2) := by decide +kernel
theorem dX10_check_51 : decode cX10_check 51 = .ok (.iload_n 2, 1) := by decide +kernel
theorem dX10_check_52 : decode cX10_check 52 = .ok (.if_icmp .ge 47, 3) := by decide +kernel
theorem dX10_check_55 : decode cX10_check 55 = .ok (.iload_n 3, 1) := by decide +kernel
theorem dX10_check_56 : decode cX10_check 56 = .ok (.ifCond .ne 43, 3) := by decide +kernel
theorem dX10_check_59 : decode cX10_check 59 = .ok (.aload_n 0, 1) := by decide +kernel
theorem dX10_check_60 : decode cX10_check 60 = .ok (.iconst 1, 1) := by decide +kernel
theorem dX10_check_61 : decode cX10_check 61 = .ok (.iconst 0, 1) := by decide +kernel
theorem dX10_check_62 : decode cX10_check 62 = .ok (.invokevirtual 233, 3) := by decide +kernel
theorem dX10_check_65 : decode cX10_check 65 = .ok (.aload_n 0, 1) := by decide +kernel
theorem dX10_check_66 : decode cX10_check 66 = .ok (.getfield 9, 3) := by decide +kernel
theorem dX10_check_69 : decode cX10_check 69 = .ok (.bipush 116, 2) := by decide +kernel
theorem dX10_check_71 : decode cX10_check 71 = .ok (.iload 4, 2) := by decide +kernel
theorem dX10_check_73 : decode cX10_check 73 = .ok (.iadd, 1) := by decide +kernel
theorem dX10_check_74 : decode cX10_check 74 = .ok (.iaload, 1) := by decide +kernel
theorem dX10_check_75 : decode cX10_check 75 = .ok (.aload_n 0, 1) := by decide +kernel
theorem dX10_check_76 : decode cX10_check 76 = .ok (.iload_n 1, 1) := by decide +kernel
theorem dX10_check_77 : decode cX10_check 77 = .ok (.iconst 1, 1) := by decide +kernel
theorem dX10_check_78 : decode cX10_check 78 = .ok (.invokevirtual 130, 3) := by decide +kernel
theorem dX10_check_81 : decode cX10_check 81 = .ok (.if_icmp .ne 7, 3) := by decide +kernel
theorem dX10_check_84 : decode cX10_check 84 = .ok (.iconst 0, 1) := by decide +kernel
theorem dX10_check_85 : decode cX10_check 85 = .ok (.goto 7, 3) := by decide +kernel
theorem dX10_check_88 : decode cX10_check 88 = .ok (.iconst 1, 1) := by decide +kernel
theorem dX10_check_89 : decode cX10_check 89 = .ok (.iload 4, 2) := by decide +kernel
theorem dX10_check_91 : decode cX10_check 91 = .ok (.iadd, 1) := by decide +kernel
theorem dX10_check_92 : decode cX10_check 92 = .ok (.istore_n 3, 1) := by decide +kernel
theorem dX10_check_93 : decode cX10_check 93 = .ok (.iinc 4 1, 3) := by decide +kernel
theorem dX10_check_96 : decode cX10_check 96 = .ok (.goto (-47), 3) := by decide +kernel
theorem dX10_check_99 : decode cX10_check 99 = .ok (.aload_n 0, 1) := by decide +kernel
theorem dX10_check_100 : decode cX10_check 100 = .ok (.iload_n 3, 1) := by decide +kernel
theorem dX10_check_101 : decode cX10_check 101 = .ok (.invokevirtual 244, 3) := by decide +kernel
theorem dX10_check_104 : decode cX10_check 104 = .ok (.ireturn, 1) := by decide +kernel
theorem dX10_count_0 : decode cX10_count 0 = .ok (.iconst 0, 1) := by decide +kernel
theorem dX10_count_1 : decode cX10_count 1 = .ok (.istore_n 2, 1) := by decide +kernel
theorem dX10_count_2 : decode cX10_count 2 = .ok (.iload_n 1, 1) := by decide +kernel
theorem dX10_count_3 : decode cX10_count 3 = .ok (.tableswitch 162 0 10 #[57, 64, 72, 80, 88, 96, 126, 133, 141, 149, 154], 57) := by decide +kernel
theorem dX10_count_60 : decode cX10_count 60 = .ok (.aload_n 0, 1) := by decide +kernel
theorem dX10_count_61 : decode cX10_count 61 = .ok (.getfield 9, 3) := by decide +kernel
theorem dX10_count_64 : decode cX10_count 64 = .ok (.iconst 0, 1) := by decide +kernel
theorem dX10_count_65 : decode cX10_count 65 = .ok (.iaload, 1) := by decide +kernel
theorem dX10_count_66 : decode cX10_count 66 = .ok (.ireturn, 1) := by decide +kernel
theorem dX10_count_67 : decode cX10_count 67 = .ok (.aload_n 0, 1) := by decide +kernel
theorem dX10_count_68 : decode cX10_count 68 = .ok (.getfield 9, 3) := by decide +kernel
theorem dX10_count_71 : decode cX10_count 71 = .ok (.bipush 7, 2) := by decide +kernel
theorem dX10_count_73 : decode cX10_count 73 = .ok (.iaload, 1) := by decide +kernel
theorem dX10_count_74 : decode cX10_count 74 = .ok (.ireturn, 1) := by decide +kernel
theorem dX10_count_75 : decode cX10_count 75 = .ok (.aload_n 0, 1) := by decide +kernel
theorem dX10_count_76 : decode cX10_count 76 = .ok (.getfield 9, 3) := by decide +kernel
theorem dX10_count_79 : decode cX10_count 79 = .ok (.bipush 8, 2) := by decide +kernel
theorem dX10_count_81 : decode cX10_count 81 = .ok (.iaload, 1) := by decide +kernel
theorem dX10_count_82 : decode cX10_count 82 = .ok (.ireturn, 1) := by decide +kernel
theorem dX10_count_83 : decode cX10_count 83 = .ok (.aload_n 0, 1) := by decide +kernel
theorem dX10_count_84 : decode cX10_count 84 = .ok (.invokevirtual 133, 3) := by decide +kernel
theorem dX10_count_87 : decode cX10_count 87 = .ok (.invokestatic 127, 3) := by decide +kernel
theorem dX10_count_90 : decode cX10_count 90 = .ok (.ireturn, 1) := by decide +kernel
theorem dX10_count_91 : decode cX10_count 91 = .ok (.aload_n 0, 1) := by decide +kernel
theorem dX10_count_92 : decode cX10_count 92 = .ok (.getfield 9, 3) := by decide +kernel
theorem dX10_count_95 : decode cX10_count 95 = .ok (.bipush 6, 2) := by decide +kernel
theorem dX10_count_97 : decode cX10_count 97 = .ok (.iaload, 1) := by decide +kernel
theorem dX10_count_98 : decode cX10_count 98 = .ok (.ireturn, 1) := by decide +kernel
theorem dX10_count_99 : decode cX10_count 99 = .ok (.iconst 0, 1) := by decide +kernel
theorem dX10_count_100 : decode cX10_count 100 = .ok (.istore_n 3, 1) := by decide +kernel
theorem dX10_count_101 : decode cX10_count 101 = .ok (.iload_n 3, 1) := by decide +kernel
theorem dX10_count_102 : decode cX10_count 102 = .ok (.aload_n 0, 1) := by decide +kernel
theorem dX10_count_103 : decode cX10_count 103 = .ok (.getfield 9, 3) := by decide +kernel
theorem dX10_count_106 : decode cX10_count 106 = .ok (.bipush 8, 2) := by decide +kernel
theorem dX10_count_108 : decode cX10_count 108 = .ok (.iaload, 1) := by decide +kernel
theorem dX10_count_109 : decode cX10_count 109 = .ok (.if_icmp .ge 18, 3) := by decide +kernel
theorem dX10_count_112 : decode cX10_count 112 = .ok (.iload_n 2, 1) := by decide +kernel
theorem dX10_count_113 : decode cX10_count 113 = .ok (.aload_n 0, 1) := by decide +kernel
theorem dX10_count_114 : decode cX10_count 114 = .ok (.iload_n 3, 1) := by decide +kernel
theorem dX10_count_115 : decode cX10_count 115 = .ok (.iconst 2, 1) := by decide +kernel
theorem dX10_count_116 : decode cX10_count 116 = .ok (.invokevirtual 130, 3) := by decide +kernel
theorem dX10_count_119 : decode cX10_count 119 = .ok (.iadd, 1) := by decide +kernel
theorem dX10_count_120 : decode cX10_count 120 = .ok (.istore_n 2, 1) := by decide +kernel
theorem dX10_count_121 : decode cX10_count 121 = .ok (.iinc 3 1, 3) := by decide +kernel
theorem dX10_count_124 : decode cX10_count 124 = .ok (.goto (-23), 3) := by decide +kernel
theorem dX10_count_127 : decode cX10_count 127 = .ok (.iload_n 2, 1) := by decide +kernel
theorem dX10_count_128 : decode cX10_count 128 = .ok (.ireturn, 1) := by decide +kernel
theorem dX10_count_129 : decode cX10_count 129 = .ok (.aload_n 0, 1) := by decide +kernel
theorem dX10_count_130 : decode cX10_count 130 = .ok (.getfield 9, 3) := by decide +kernel
theorem dX10_count_133 : decode cX10_count 133 = .ok (.iconst 1, 1) := by decide +kernel
theorem dX10_count_134 : decode cX10_count 134 = .ok (.iaload, 1) := by decide +kernel
theorem dX10_count_135 : decode cX10_count 135 = .ok (.ireturn, 1) := by decide +kernel
theorem dX10_count_136 : decode cX10_count 136 = .ok (.aload_n 0, 1) := by decide +kernel
theorem dX10_count_137 : decode cX10_count 137 = .ok (.getfield 9, 3) := by decide +kernel
theorem dX10_count_140 : decode cX10_count 140 = .ok (.bipush 9, 2) := by decide +kernel
theorem dX10_count_142 : decode cX10_count 142 = .ok (.iaload, 1) := by decide +kernel
theorem dX10_count_143 : decode cX10_count 143 = .ok (.ireturn, 1) := by decide +kernel
theorem dX10_count_144 : decode cX10_count 144 = .ok (.aload_n 0, 1) := by decide +kernel
theorem dX10_count_145 : decode cX10_count 145 = .ok (.getfield 9, 3) := by decide +kernel
theorem dX10_count_148 : decode cX10_count 148 = .ok (.bipush 10, 2) := by decide +kernel
theorem dX10_count_150 : decode cX10_count 150 = .ok (.iaload, 1) := by decide +kernel
theorem dX10_count_151 : decode cX10_count 151 = .ok (.ireturn, 1) := by decide +kernel
theorem dX10_count_152 : decode cX10_count 152 = .ok (.aload_n 0, 1) := by decide +kernel
theorem dX10_count_153 : decode cX10_count 153 = .ok (.getfield 261, 3) := by decide +kernel
theorem dX10_count_156 : decode cX10_count 156 = .ok (.ireturn, 1) := by decide +kernel
theorem dX10_count_157 : decode cX10_count 157 = .ok (.aload_n 0, 1) := by decide +kernel
theorem dX10_count_158 : decode cX10_count 158 = .ok (.getfield 9, 3) := by decide +kernel
theorem dX10_count_161 : decode cX10_count 161 = .ok (.bipush 11, 2) := by decide +kernel
theorem dX10_count_163 : decode cX10_count 163 = .ok (.iaload, 1) := by decide +kernel
theorem dX10_count_164 : decode cX10_count 164 = .ok (.ireturn, 1) := by decide +kernel
theorem dX10_count_165 : decode cX10_count 165 = .ok (.aload_n 0, 1) := by decide +kernel
theorem dX10_count_166 : decode cX10_count 166 = .ok (.ldc 83, 2) := by decide +kernel
theorem dX10_count_168 : decode cX10_count 168 = .ok (.invokevirtual 84, 3) := by decide +kernel
theorem dX10_count_171 : decode cX10_count 171 = .ok (.ireturn, 1) := by decide +kernel
theorem dX10_told_0 : decode cX10_told 0 = .ok (.iload_n 1, 1) := by decide +kernel
theorem dX10_told_1 : decode cX10_told 1 = .ok (.iconst 1, 1) := by decide +kernel
theorem dX10_told_2 : decode cX10_told 2 = .ok (.iconst 5, 1) := by decide +kernel
theorem dX10_told_3 : decode cX10_told 3 = .ok (.invokestatic 72, 3) := by decide +kernel
theorem dX10_told_6 : decode cX10_told 6 = .ok (.ifCond .eq 12, 3) := by decide +kernel
theorem dX10_told_9 : decode cX10_told 9 = .ok (.aload_n 0, 1) := by decide +kernel
theorem dX10_told_10 : decode cX10_told 10 = .ok (.getfield 19, 3) := by decide +kernel
theorem dX10_told_13 : decode cX10_told 13 = .ok (.iload_n 1, 1) := by decide +kernel
theorem dX10_told_14 : decode cX10_told 14 = .ok (.iaload, 1) := by decide +kernel
theorem dX10_told_15 : decode cX10_told 15 = .ok (.goto 9, 3) := by decide +kernel
theorem dX10_told_18 : decode cX10_told 18 = .ok (.aload_n 0, 1) := by decide +kernel
theorem dX10_told_19 : decode cX10_told 19 = .ok (.ldc 83, 2) := by decide +kernel
theorem dX10_told_21 : decode cX10_told 21 = .ok (.invokevirtual 84, 3) := by decide +kernel
theorem dX10_told_24 : decode cX10_told 24 = .ok (.ireturn, 1) := by decide +kernel
end
section
theorem dJ6_bitCount_0f7a4_0 : decode cJ6_bitCount_0f7a4 0 = .ok (.iload_n 0, 1) := by decide +kernel
theorem dJ6_bitCount_0f7a4_1 : decode cJ6_bitCount_0f7a4 1 = .ok (.iload_n 0, 1) := by decide +kernel
theorem dJ6_bitCount_0f7a4_2 : decode cJ6_bitCount_0f7a4 2 = .ok (.iconst 1, 1) := by decide +kernel
theorem dJ6_bitCount_0f7a4_3 : decode cJ6_bitCount_0f7a4 3 = .ok (.iushr, 1) := by decide +kernel
theorem dJ6_bitCount_0f7a4_4 : decode cJ6_bitCount_0f7a4 4 = .ok (.ldc_w 265, 3) := by decide +kernel
theorem dJ6_bitCount_0f7a4_7 : decode cJ6_bitCount_0f7a4 7 = .ok (.iand, 1) := by decide +kernel
theorem dJ6_bitCount_0f7a4_8 : decode cJ6_bitCount_0f7a4 8 = .ok (.isub, 1) := by decide +kernel
theorem dJ6_bitCount_0f7a4_9 : decode cJ6_bitCount_0f7a4 9 = .ok (.istore_n 0, 1) := by decide +kernel
theorem dJ6_bitCount_0f7a4_10 : decode cJ6_bitCount_0f7a4 10 = .ok (.iload_n 0, 1) := by decide +kernel
theorem dJ6_bitCount_0f7a4_11 : decode cJ6_bitCount_0f7a4 11 = .ok (.ldc_w 266, 3) := by decide +kernel
theorem dJ6_bitCount_0f7a4_14 : decode cJ6_bitCount_0f7a4 14 = .ok (.iand, 1) := by decide +kernel
theorem dJ6_bitCount_0f7a4_15 : decode cJ6_bitCount_0f7a4 15 = .ok (.iload_n 0, 1) := by decide +kernel
theorem dJ6_bitCount_0f7a4_16 : decode cJ6_bitCount_0f7a4 16 = .ok (.iconst 2, 1) := by decide +kernel
theorem dJ6_bitCount_0f7a4_17 : decode cJ6_bitCount_0f7a4 17 = .ok (.iushr, 1) := by decide +kernel
theorem dJ6_bitCount_0f7a4_18 : decode cJ6_bitCount_0f7a4 18 = .ok (.ldc_w 266, 3) := by decide +kernel
theorem dJ6_bitCount_0f7a4_21 : decode cJ6_bitCount_0f7a4 21 = .ok (.iand, 1) := by decide +kernel
theorem dJ6_bitCount_0f7a4_22 : decode cJ6_bitCount_0f7a4 22 = .ok (.iadd, 1) := by decide +kernel
theorem dJ6_bitCount_0f7a4_23 : decode cJ6_bitCount_0f7a4 23 = .ok (.istore_n 0, 1) := by decide +kernel
theorem dJ6_bitCount_0f7a4_24 : decode cJ6_bitCount_0f7a4 24 = .ok (.iload_n 0, 1) := by decide +kernel
theorem dJ6_bitCount_0f7a4_25 : decode cJ6_bitCount_0f7a4 25 = .ok (.iload_n 0, 1) := by decide +kernel
theorem dJ6_bitCount_0f7a4_26 : decode cJ6_bitCount_0f7a4 26 = .ok (.iconst 4, 1) := by decide +kernel
theorem dJ6_bitCount_0f7a4_27 : decode cJ6_bitCount_0f7a4 27 = .ok (.iushr, 1) := by decide +kernel
theorem dJ6_bitCount_0f7a4_28 : decode cJ6_bitCount_0f7a4 28 = .ok (.iadd, 1) := by decide +kernel
theorem dJ6_bitCount_0f7a4_29 : decode cJ6_bitCount_0f7a4 29 = .ok (.ldc_w 267, 3) := by decide +kernel
theorem dJ6_bitCount_0f7a4_32 : decode cJ6_bitCount_0f7a4 32 = .ok (.iand, 1) := by decide +kernel
theorem dJ6_bitCount_0f7a4_33 : decode cJ6_bitCount_0f7a4 33 = .ok (.istore_n 0, 1) := by decide +kernel
theorem dJ6_bitCount_0f7a4_34 : decode cJ6_bitCount_0f7a4 34 = .ok (.iload_n 0, 1) := by decide +kernel
theorem dJ6_bitCount_0f7a4_35 : decode cJ6_bitCount_0f7a4 35 = .ok (.iload_n 0, 1) := by decide +kernel
theorem dJ6_bitCount_0f7a4_36 : decode cJ6_bitCount_0f7a4 36 = .ok (.bipush 8, 2) := by decide +kernel
theorem dJ6_bitCount_0f7a4_38 : decode cJ6_bitCount_0f7a4 38 = .ok (.iushr, 1) := by decide +kernel
theorem dJ6_bitCount_0f7a4_39 : decode cJ6_bitCount_0f7a4 39 = .ok (.iadd, 1) := by decide +kernel
theorem dJ6_bitCount_0f7a4_40 : decode cJ6_bitCount_0f7a4 40 = .ok (.istore_n 0, 1) := by decide +kernel
theorem dJ6_bitCount_0f7a4_41 : decode cJ6_bitCount_0f7a4 41 = .ok (.iload_n 0, 1) := by decide +kernel
theorem dJ6_bitCount_0f7a4_42 : decode cJ6_bitCount_0f7a4 42 = .ok (.iload_n 0, 1) := by decide +kernel
theorem dJ6_bitCount_0f7a4_43 : decode cJ6_bitCount_0f7a4 43 = .ok (.bipush 16, 2) := by decide +kernel
theorem dJ6_bitCount_0f7a4_45 : decode cJ6_bitCount_0f7a4 45 = .ok (.iushr, 1) := by decide +kernel
theorem dJ6_bitCount_0f7a4_46 : decode cJ6_bitCount_0f7a4 46 = .ok (.iadd, 1) := by decide +kernel
theorem dJ6_bitCount_0f7a4_47 : decode cJ6_bitCount_0f7a4 47 = .ok (.istore_n 0, 1) := by decide +kernel
theorem dJ6_bitCount_0f7a4_48 : decode cJ6_bitCount_0f7a4 48 = .ok (.iload_n 0, 1) := by decide +kernel
theorem dJ6_bitCount_0f7a4_49 : decode cJ6_bitCount_0f7a4 49 = .ok (.bipush 63, 2) := by decide +kernel
theorem dJ6_bitCount_0f7a4_51 : decode cJ6_bitCount_0f7a4 51 = .ok (.iand, 1) := by decide +kernel
theorem dJ6_bitCount_0f7a4_52 : decode cJ6_bitCount_0f7a4 52 = .ok (.ireturn, 1) := by decide +kernel
theorem dJ6_rotateRight_7cf53_0 : decode cJ6_rotateRight_7cf53 0 = .ok (.iload_n 0, 1) := by decide +kernel
theorem dJ6_rotateRight_7cf53_1 : decode cJ6_rotateRight_7cf53 1 = .ok (.iload_n 1, 1) := by decide +kernel
theorem dJ6_rotateRight_7cf53_2 : decode cJ6_rotateRight_7cf53 2 = .ok (.iushr, 1) := by decide +kernel
theorem dJ6_rotateRight_7cf53_3 : decode cJ6_rotateRight_7cf53 3 = .ok (.iload_n 0, 1) := by decide +kernel
theorem dJ6_rotateRight_7cf53_4 : decode cJ6_rotateRight_7cf53 4 = .ok (.iload_n 1, 1) := by decide +kernel
theorem dJ6_rotateRight_7cf53_5 : decode cJ6_rotateRight_7cf53 5 = .ok (.ineg, 1) := by decide +kernel
theorem dJ6_rotateRight_7cf53_6 : decode cJ6_rotateRight_7cf53 6 = .ok (.ishl, 1) := by decide +kernel
theorem dJ6_rotateRight_7cf53_7 : decode cJ6_rotateRight_7cf53 7 = .ok (.ior, 1) := by decide +kernel
theorem dJ6_rotateRight_7cf53_8 : decode cJ6_rotateRight_7cf53 8 = .ok (.ireturn, 1) := by decide +kernel
theorem dJ13_bitCount_95d88_0 : decode cJ13_bitCount_95d88 0 = .ok (.lload_n 0, 1) := by decide +kernel
theorem dJ13_bitCount_95d88_1 : decode cJ13_bitCount_95d88 1 = .ok (.lload_n 0, 1) := by decide +kernel
theorem dJ13_bitCount_95d88_2 : decode cJ13_bitCount_95d88 2 = .ok (.iconst 1, 1) := by decide +kernel
theorem dJ13_bitCount_95d88_3 : decode cJ13_bitCount_95d88 3 = .ok (.lushr, 1) := by decide +kernel
theorem dJ13_bitCount_95d88_4 : decode cJ13_bitCount_95d88 4 = .ok (.ldc2_w 314, 3) := by decide +kernel
theorem dJ13_bitCount_95d88_7 : decode cJ13_bitCount_95d88 7 = .ok (.land, 1) := by decide +kernel
theorem dJ13_bitCount_95d88_8 : decode cJ13_bitCount_95d88 8 = .ok (.lsub, 1) := by decide +kernel
theorem dJ13_bitCount_95d88_9 : decode cJ13_bitCount_95d88 9 = .ok (.lstore_n 0, 1) := by decide +kernel
theorem dJ13_bitCount_95d88_10 : decode cJ13_bitCount_95d88 10 = .ok (.lload_n 0, 1) := by decide +kernel
theorem dJ13_bitCount_95d88_11 : decode cJ13_bitCount_95d88 11 = .ok (.ldc2_w 316, 3) := by decide +kernel
theorem dJ13_bitCount_95d88_14 : decode cJ13_bitCount_95d88 14 = .ok (.land, 1) := by decide +kernel
theorem dJ13_bitCount_95d88_15 : decode cJ13_bitCount_95d88 15 = .ok (.lload_n 0, 1) := by decide +kernel
theorem dJ13_bitCount_95d88_16 : decode cJ13_bitCount_95d88 16 = .ok (.iconst 2, 1) := by decide +kernel
theorem dJ13_bitCount_95d88_17 : decode cJ13_bitCount_95d88 17 = .ok (.lushr, 1) := by decide +kernel
theorem dJ13_bitCount_95d88_18 : decode cJ13_bitCount_95d88 18 = .ok (.ldc2_w 316, 3) := by decide +kernel
theorem dJ13_bitCount_95d88_21 : decode cJ13_bitCount_95d88 21 = .ok (.land, 1) := by decide +kernel
theorem dJ13_bitCount_95d88_22 : decode cJ13_bitCount_95d88 22 = .ok (.ladd, 1) := by decide +kernel
theorem dJ13_bitCount_95d88_23 : decode cJ13_bitCount_95d88 23 = .ok (.lstore_n 0, 1) := by decide +kernel
theorem dJ13_bitCount_95d88_24 : decode cJ13_bitCount_95d88 24 = .ok (.lload_n 0, 1) := by decide +kernel
theorem dJ13_bitCount_95d88_25 : decode cJ13_bitCount_95d88 25 = .ok (.lload_n 0, 1) := by decide +kernel
theorem dJ13_bitCount_95d88_26 : decode cJ13_bitCount_95d88 26 = .ok (.iconst 4, 1) := by decide +kernel
theorem dJ13_bitCount_95d88_27 : decode cJ13_bitCount_95d88 27 = .ok (.lushr, 1) := by decide +kernel
theorem dJ13_bitCount_95d88_28 : decode cJ13_bitCount_95d88 28 = .ok (.ladd, 1) := by decide +kernel
theorem dJ13_bitCount_95d88_29 : decode cJ13_bitCount_95d88 29 = .ok (.ldc2_w 318, 3) := by decide +kernel
theorem dJ13_bitCount_95d88_32 : decode cJ13_bitCount_95d88 32 = .ok (.land, 1) := by decide +kernel
theorem dJ13_bitCount_95d88_33 : decode cJ13_bitCount_95d88 33 = .ok (.lstore_n 0, 1) := by decide +kernel
theorem dJ13_bitCount_95d88_34 : decode cJ13_bitCount_95d88 34 = .ok (.lload_n 0, 1) := by decide +kernel
theorem dJ13_bitCount_95d88_35 : decode cJ13_bitCount_95d88 35 = .ok (.lload_n 0, 1) := by decide +kernel
theorem dJ13_bitCount_95d88_36 : decode cJ13_bitCount_95d88 36 = .ok (.bipush 8, 2) := by decide +kernel
theorem dJ13_bitCount_95d88_38 : decode cJ13_bitCount_95d88 38 = .ok (.lushr, 1) := by decide +kernel
theorem dJ13_bitCount_95d88_39 : decode cJ13_bitCount_95d88 39 = .ok (.ladd, 1) := by decide +kernel
theorem dJ13_bitCount_95d88_40 : decode cJ13_bitCount_95d88 40 = .ok (.lstore_n 0, 1) := by decide +kernel
theorem dJ13_bitCount_95d88_41 : decode cJ13_bitCount_95d88 41 = .ok (.lload_n 0, 1) := by decide +kernel
theorem dJ13_bitCount_95d88_42 : decode cJ13_bitCount_95d88 42 = .ok (.lload_n 0, 1) := by decide +kernel
theorem dJ13_bitCount_95d88_43 : decode cJ13_bitCount_95d88 43 = .ok (.bipush 16, 2) := by decide +kernel
theorem dJ13_bitCount_95d88_45 : decode cJ13_bitCount_95d88 45 = .ok (.lushr, 1) := by decide +kernel
theorem dJ13_bitCount_95d88_46 : decode cJ13_bitCount_95d88 46 = .ok (.ladd, 1) := by decide +kernel
theorem dJ13_bitCount_95d88_47 : decode cJ13_bitCount_95d88 47 = .ok (.lstore_n 0, 1) := by decide +kernel
theorem dJ13_bitCount_95d88_48 : decode cJ13_bitCount_95d88 48 = .ok (.lload_n 0, 1) := by decide +kernel
theorem dJ13_bitCount_95d88_49 : decode cJ13_bitCount_95d88 49 = .ok (.lload_n 0, 1) := by decide +kernel
theorem dJ13_bitCount_95d88_50 : decode cJ13_bitCount_95d88 50 = .ok (.bipush 32, 2) := by decide +kernel
theorem dJ13_bitCount_95d88_52 : decode cJ13_bitCount_95d88 52 = .ok (.lushr, 1) := by decide +kernel
theorem dJ13_bitCount_95d88_53 : decode cJ13_bitCount_95d88 53 = .ok (.ladd, 1) := by decide +kernel
theorem dJ13_bitCount_95d88_54 : decode cJ13_bitCount_95d88 54 = .ok (.lstore_n 0, 1) := by decide +kernel
theorem dJ13_bitCount_95d88_55 : decode cJ13_bitCount_95d88 55 = .ok (.lload_n 0, 1) := by decide +kernel
theorem dJ13_bitCount_95d88_56 : decode cJ13_bitCount_95d88 56 = .ok (.l2i, 1) := by decide +kernel
theorem dJ13_bitCount_95d88_57 : decode cJ13_bitCount_95d88 57 = .ok (.bipush 127, 2) := by decide +kernel
theorem dJ13_bitCount_95d88_59 : decode cJ13_bitCount_95d88 59 = .ok (.iand, 1) := by decide +kernel
theorem dJ13_bitCount_95d88_60 : decode cJ13_bitCount_95d88 60 = .ok (.ireturn, 1) := by decide +kernel
theorem dJ9_abs_0f7a4_0 : decode cJ9_abs_0f7a4 0 = .ok (.iload_n 0, 1) := by decide +kernel
theorem dJ9_abs_0f7a4_1 : decode cJ9_abs_0f7a4 1 = .ok (.ifCond .ge 8, 3) := by decide +kernel
theorem dJ9_abs_0f7a4_4 : decode cJ9_abs_0f7a4 4 = .ok (.iload_n 0, 1) := by decide +kernel
theorem dJ9_abs_0f7a4_5 : decode cJ9_abs_0f7a4 5 = .ok (.ineg, 1) := by decide +kernel
theorem dJ9_abs_0f7a4_6 : decode cJ9_abs_0f7a4 6 = .ok (.goto 4, 3) := by decide +kernel
theorem dJ9_abs_0f7a4_9 : decode cJ9_abs_0f7a4 9 = .ok (.iload_n 0, 1) := by decide +kernel
theorem dJ9_abs_0f7a4_10 : decode cJ9_abs_0f7a4 10 = .ok (.ireturn, 1) := by decide +kernel
theorem dJ9_max_7cf53_0 : decode cJ9_max_7cf53 0 = .ok (.iload_n 0, 1) := by decide +kernel
theorem dJ9_max_7cf53_1 : decode cJ9_max_7cf53 1 = .ok (.iload_n 1, 1) := by decide +kernel
theorem dJ9_max_7cf53_2 : decode cJ9_max_7cf53 2 = .ok (.if_icmp .lt 7, 3) := by decide +kernel
theorem dJ9_max_7cf53_5 : decode cJ9_max_7cf53 5 = .ok (.iload_n 0, 1) := by decide +kernel
theorem dJ9_max_7cf53_6 : decode cJ9_max_7cf53 6 = .ok (.goto 4, 3) := by decide +kernel
theorem dJ9_max_7cf53_9 : decode cJ9_max_7cf53 9 = .ok (.iload_n 1, 1) := by decide +kernel
theorem dJ9_max_7cf53_10 : decode cJ9_max_7cf53 10 = .ok (.ireturn, 1) := by decide +kernel
theorem dJ9_min_7cf53_0 : decode cJ9_min_7cf53 0 = .ok (.iload_n 0, 1) := by decide +kernel
theorem dJ9_min_7cf53_1 : decode cJ9_min_7cf53 1 = .ok (.iload_n 1, 1) := by decide +kernel
theorem dJ9_min_7cf53_2 : decode cJ9_min_7cf53 2 = .ok (.if_icmp .gt 7, 3) := by decide +kernel
theorem dJ9_min_7cf53_5 : decode cJ9_min_7cf53 5 = .ok (.iload_n 0, 1) := by decide +kernel
theorem dJ9_min_7cf53_6 : decode cJ9_min_7cf53 6 = .ok (.goto 4, 3) := by decide +kernel
theorem dJ9_min_7cf53_9 : decode cJ9_min_7cf53 9 = .ok (.iload_n 1, 1) := by decide +kernel
theorem dJ9_min_7cf53_10 : decode cJ9_min_7cf53 10 = .ok (.ireturn, 1) := by decide +kernel
theorem dJ0_length_8abf5_0 : decode cJ0_length_8abf5 0 = .ok (.aload_n 0, 1) := by decide +kernel
theorem dJ0_length_8abf5_1 : decode cJ0_length_8abf5 1 = .ok (.getfield 9, 3) := by decide +kernel
theorem dJ0_length_8abf5_4 : decode cJ0_length_8abf5 4 = .ok (.arraylength, 1) := by decide +kernel
theorem dJ0_length_8abf5_5 : decode cJ0_length_8abf5 5 = .ok (.aload_n 0, 1) := by decide +kernel
theorem dJ0_length_8abf5_6 : decode cJ0_length_8abf5 6 = .ok (.invokevirtual 335, 3) := by decide +kernel
theorem dJ0_length_8abf5_9 : decode cJ0_length_8abf5 9 = .ok (.ishr, 1) := by decide +kernel
theorem dJ0_length_8abf5_10 : decode cJ0_length_8abf5 10 = .ok (.ireturn, 1) := by decide +kernel
theorem dJ0_charAt_5068e_0 : decode cJ0_charAt_5068e 0 = .ok (.aload_n 0, 1) := by decide +kernel
theorem dJ0_charAt_5068e_1 : decode cJ0_charAt_5068e 1 = .ok (.invokevirtual 492, 3) := by decide +kernel
theorem dJ0_charAt_5068e_4 : decode cJ0_charAt_5068e 4 = .ok (.ifCond .eq 12, 3) := by decide +kernel
theorem dJ0_charAt_5068e_7 : decode cJ0_charAt_5068e 7 = .ok (.aload_n 0, 1) := by decide +kernel
theorem dJ0_charAt_5068e_8 : decode cJ0_charAt_5068e 8 = .ok (.getfield 9, 3) := by decide +kernel
theorem dJ0_charAt_5068e_11 : decode cJ0_charAt_5068e 11 = .ok (.iload_n 1, 1) := by decide +kernel
theorem dJ0_charAt_5068e_12 : decode cJ0_charAt_5068e 12 = .ok (.invokestatic 495, 3) := by decide +kernel
theorem dJ0_charAt_5068e_15 : decode cJ0_charAt_5068e 15 = .ok (.ireturn, 1) := by decide +kernel
theorem dJ0_charAt_5068e_16 : decode cJ0_charAt_5068e 16 = .ok (.aload_n 0, 1) := by decide +kernel
theorem dJ0_charAt_5068e_17 : decode cJ0_charAt_5068e 17 = .ok (.getfield 9, 3) := by decide +kernel
theorem dJ0_charAt_5068e_20 : decode cJ0_charAt_5068e 20 = .ok (.iload_n 1, 1) := by decide +kernel
theorem dJ0_charAt_5068e_21 : decode cJ0_charAt_5068e 21 = .ok (.invokestatic 498, 3) := by decide +kernel
theorem dJ0_charAt_5068e_24 : decode cJ0_charAt_5068e 24 = .ok (.ireturn, 1) := by decide +kernel
theorem dJ0_coder_7d493_0 : decode cJ0_coder_7d493 0 = .ok (.getstatic 38, 3) := by decide +kernel
theorem dJ0_coder_7d493_3 : decode cJ0_coder_7d493 3 = .ok (.ifCond .eq 10, 3) := by decide +kernel
theorem dJ0_coder_7d493_6 : decode cJ0_coder_7d493 6 = .ok (.aload_n 0, 1) := by decide +kernel
theorem dJ0_coder_7d493_7 : decode cJ0_coder_7d493 7 = .ok (.getfield 15, 3) := by decide +kernel
theorem dJ0_coder_7d493_10 : decode cJ0_coder_7d493 10 = .ok (.goto 4, 3) := by decide +kernel
theorem dJ0_coder_7d493_13 : decode cJ0_coder_7d493 13 = .ok (.iconst 1, 1) := by decide +kernel
theorem dJ0_coder_7d493_14 : decode cJ0_coder_7d493 14 = .ok (.ireturn, 1) := by decide +kernel
theorem dJ0_isLatin1_aae02_0 : decode cJ0_isLatin1_aae02 0 = .ok (.getstatic 38, 3) := by decide +kernel
theorem dJ0_isLatin1_aae02_3 : decode cJ0_isLatin1_aae02 3 = .ok (.ifCond .eq 14, 3) := by decide +kernel
theorem dJ0_isLatin1_aae02_6 : decode cJ0_isLatin1_aae02 6 = .ok (.aload_n 0, 1) := by decide +kernel
theorem dJ0_isLatin1_aae02_7 : decode cJ0_isLatin1_aae02 7 = .ok (.getfield 15, 3) := by decide +kernel
theorem dJ0_isLatin1_aae02_10 : decode cJ0_isLatin1_aae02 10 = .ok (.ifCond .ne 7, 3) := by decide +kernel
theorem dJ0_isLatin1_aae02_13 : decode cJ0_isLatin1_aae02 13 = .ok (.iconst 1, 1) := by decide +kernel
theorem dJ0_isLatin1_aae02_14 : decode cJ0_isLatin1_aae02 14 = .ok (.goto 4, 3) := by decide +kernel
theorem dJ0_isLatin1_aae02_17 : decode cJ0_isLatin1_aae02 17 = .ok (.iconst 0, 1) := by decide +kernel
theorem dJ0_isLatin1_aae02_18 : decode cJ0_isLatin1_aae02 18 = .ok (.ireturn, 1) := by decide +kernel
theorem dJ0_checkIndex_df160_0 : decode cJ0_checkIndex_df160 0 = .ok (.iload_n 0, 1) := by decide +kernel
theorem dJ0_checkIndex_df160_1 : decode cJ0_checkIndex_df160 1 = .ok (.iload_n 1, 1) := by decide +kernel
theorem dJ0_checkIndex_df160_2 : decode cJ0_checkIndex_df160 2 = .ok (.getstatic 1053, 3) := by decide +kernel
theorem dJ0_checkIndex_df160_5 : decode cJ0_checkIndex_df160 5 = .ok (.invokestatic 1059, 3) := by decide +kernel
theorem dJ0_checkIndex_df160_8 : decode cJ0_checkIndex_df160 8 = .ok (.pop, 1) := by decide +kernel
theorem dJ0_checkIndex_df160_9 : decode cJ0_checkIndex_df160 9 = .ok (.return_, 1) := by decide +kernel
theorem dJ1_charAt_3b067_0 : decode cJ1_charAt_3b067 0 = .ok (.iload_n 1, 1) := by decide +kernel
theorem dJ1_charAt_3b067_1 : decode cJ1_charAt_3b067 1 = .ok (.aload_n 0, 1) := by decide +kernel
theorem dJ1_charAt_3b067_2 : decode cJ1_charAt_3b067 2 = .ok (.arraylength, 1) := by decide +kernel
theorem dJ1_charAt_3b067_3 : decode cJ1_charAt_3b067 3 = .ok (.invokestatic 9, 3) := by decide +kernel
theorem dJ1_charAt_3b067_6 : decode cJ1_charAt_3b067 6 = .ok (.aload_n 0, 1) := by decide +kernel
theorem dJ1_charAt_3b067_7 : decode cJ1_charAt_3b067 7 = .ok (.iload_n 1, 1) := by decide +kernel
theorem dJ1_charAt_3b067_8 : decode cJ1_charAt_3b067 8 = .ok (.baload, 1) := by decide +kernel
theorem dJ1_charAt_3b067_9 : decode cJ1_charAt_3b067 9 = .ok (.sipush 255, 3) := by decide +kernel
theorem dJ1_charAt_3b067_12 : decode cJ1_charAt_3b067 12 = .ok (.iand, 1) := by decide +kernel
theorem dJ1_charAt_3b067_13 : decode cJ1_charAt_3b067 13 = .ok (.i2c, 1) := by decide +kernel
theorem dJ1_charAt_3b067_14 : decode cJ1_charAt_3b067 14 = .ok (.ireturn, 1) := by decide +kernel
theorem dJ2_getChar_3b067_0 : decode cJ2_getChar_3b067 0 = .ok (.getstatic 44, 3) := by decide +kernel
theorem dJ2_getChar_3b067_3 : decode cJ2_getChar_3b067 3 = .ok (.ifCond .ne 25, 3) := by decide +kernel
theorem dJ2_getChar_3b067_6 : decode cJ2_getChar_3b067 6 = .ok (.iload_n 1, 1) := by decide +kernel
theorem dJ2_getChar_3b067_7 : decode cJ2_getChar_3b067 7 = .ok (.ifCond .lt 11, 3) := by decide +kernel
theorem dJ2_getChar_3b067_10 : decode cJ2_getChar_3b067 10 = .ok (.iload_n 1, 1) := by decide +kernel
theorem dJ2_getChar_3b067_11 : decode cJ2_getChar_3b067 11 = .ok (.aload_n 0, 1) := by decide +kernel
theorem dJ2_getChar_3b067_12 : decode cJ2_getChar_3b067 12 = .ok (.invokestatic 48, 3) := by decide +kernel
theorem dJ2_getChar_3b067_15 : decode cJ2_getChar_3b067 15 = .ok (.if_icmp .lt 13, 3) := by decide +kernel
theorem dJ2_getChar_3b067_18 : decode cJ2_getChar_3b067 18 = .ok (.new 52, 3) := by decide +kernel
theorem dJ2_getChar_3b067_21 : decode cJ2_getChar_3b067 21 = .ok (.dup, 1) := by decide +kernel
theorem dJ2_getChar_3b067_22 : decode cJ2_getChar_3b067 22 = .ok (.ldc 54, 2) := by decide +kernel
theorem dJ2_getChar_3b067_24 : decode cJ2_getChar_3b067 24 = .ok (.invokespecial 56, 3) := by decide +kernel
theorem dJ2_getChar_3b067_27 : decode cJ2_getChar_3b067 27 = .ok (.athrow, 1) := by decide +kernel
theorem dJ2_getChar_3b067_28 : decode cJ2_getChar_3b067 28 = .ok (.iload_n 1, 1) := by decide +kernel
theorem dJ2_getChar_3b067_29 : decode cJ2_getChar_3b067 29 = .ok (.iconst 1, 1) := by decide +kernel
theorem dJ2_getChar_3b067_30 : decode cJ2_getChar_3b067 30 = .ok (.ishl, 1) := by decide +kernel
theorem dJ2_getChar_3b067_31 : decode cJ2_getChar_3b067 31 = .ok (.istore_n 1, 1) := by decide +kernel
theorem dJ2_getChar_3b067_32 : decode cJ2_getChar_3b067 32 = .ok (.aload_n 0, 1) := by decide +kernel
theorem dJ2_getChar_3b067_33 : decode cJ2_getChar_3b067 33 = .ok (.iload_n 1, 1) := by decide +kernel
theorem dJ2_getChar_3b067_34 : decode cJ2_getChar_3b067 34 = .ok (.iinc 1 1, 3) := by decide +kernel
theorem dJ2_getChar_3b067_37 : decode cJ2_getChar_3b067 37 = .ok (.baload, 1) := by decide +kernel
theorem dJ2_getChar_3b067_38 : decode cJ2_getChar_3b067 38 = .ok (.sipush 255, 3) := by decide +kernel
theorem dJ2_getChar_3b067_41 : decode cJ2_getChar_3b067 41 = .ok (.iand, 1) := by decide +kernel
theorem dJ2_getChar_3b067_42 : decode cJ2_getChar_3b067 42 = .ok (.getstatic 59, 3) := by decide +kernel
theorem dJ2_getChar_3b067_45 : decode cJ2_getChar_3b067 45 = .ok (.ishl, 1) := by decide +kernel
theorem dJ2_getChar_3b067_46 : decode cJ2_getChar_3b067 46 = .ok (.aload_n 0, 1) := by decide +kernel
theorem dJ2_getChar_3b067_47 : decode cJ2_getChar_3b067 47 = .ok (.iload_n 1, 1) := by decide +kernel
theorem dJ2_getChar_3b067_48 : decode cJ2_getChar_3b067 48 = .ok (.baload, 1) := by decide +kernel
theorem dJ2_getChar_3b067_49 : decode cJ2_getChar_3b067 49 = .ok (.sipush 255, 3) := by decide +kernel
theorem dJ2_getChar_3b067_52 : decode cJ2_getChar_3b067 52 = .ok (.iand, 1) := by decide +kernel
theorem dJ2_getChar_3b067_53 : decode cJ2_getChar_3b067 53 = .ok (.getstatic 63, 3) := by decide +kernel
theorem dJ2_getChar_3b067_56 : decode cJ2_getChar_3b067 56 = .ok (.ishl, 1) := by decide +kernel
theorem dJ2_getChar_3b067_57 : decode cJ2_getChar_3b067 57 = .ok (.ior, 1) := by decide +kernel
theorem dJ2_getChar_3b067_58 : decode cJ2_getChar_3b067 58 = .ok (.i2c, 1) := by decide +kernel
theorem dJ2_getChar_3b067_59 : decode cJ2_getChar_3b067 59 = .ok (.ireturn, 1) := by decide +kernel
theorem dJ2_length_9d52b_0 : decode cJ2_length_9d52b 0 = .ok (.aload_n 0, 1) := by decide +kernel
theorem dJ2_length_9d52b_1 : decode cJ2_length_9d52b 1 = .ok (.arraylength, 1) := by decide +kernel
theorem dJ2_length_9d52b_2 : decode cJ2_length_9d52b 2 = .ok (.iconst 1, 1) := by decide +kernel
theorem dJ2_length_9d52b_3 : decode cJ2_length_9d52b 3 = .ok (.ishr, 1) := by decide +kernel
theorem dJ2_length_9d52b_4 : decode cJ2_length_9d52b 4 = .ok (.ireturn, 1) := by decide +kernel
theorem dJ2_charAt_3b067_0 : decode cJ2_charAt_3b067 0 = .ok (.iload_n 1, 1) := by decide +kernel
theorem dJ2_charAt_3b067_1 : decode cJ2_charAt_3b067 1 = .ok (.aload_n 0, 1) := by decide +kernel
theorem dJ2_charAt_3b067_2 : decode cJ2_charAt_3b067 2 = .ok (.invokestatic 67, 3) := by decide +kernel
theorem dJ2_charAt_3b067_5 : decode cJ2_charAt_3b067 5 = .ok (.aload_n 0, 1) := by decide +kernel
theorem dJ2_charAt_3b067_6 : decode cJ2_charAt_3b067 6 = .ok (.iload_n 1, 1) := by decide +kernel
theorem dJ2_charAt_3b067_7 : decode cJ2_charAt_3b067 7 = .ok (.invokestatic 71, 3) := by decide +kernel
theorem dJ2_charAt_3b067_10 : decode cJ2_charAt_3b067 10 = .ok (.ireturn, 1) := by decide +kernel
theorem dJ2_checkIndex_2214a_0 : decode cJ2_checkIndex_2214a 0 = .ok (.iload_n 0, 1) := by decide +kernel
theorem dJ2_checkIndex_2214a_1 : decode cJ2_checkIndex_2214a 1 = .ok (.aload_n 1, 1) := by decide +kernel
theorem dJ2_checkIndex_2214a_2 : decode cJ2_checkIndex_2214a 2 = .ok (.invokestatic 48, 3) := by decide +kernel
theorem dJ2_checkIndex_2214a_5 : decode cJ2_checkIndex_2214a 5 = .ok (.invokestatic 414, 3) := by decide +kernel
theorem dJ2_checkIndex_2214a_8 : decode cJ2_checkIndex_2214a 8 = .ok (.return_, 1) := by decide +kernel
theorem dJ7_fill_53178_0 : decode cJ7_fill_53178 0 = .ok (.iconst 0, 1) := by decide +kernel
theorem dJ7_fill_53178_1 : decode cJ7_fill_53178 1 = .ok (.istore_n 2, 1) := by decide +kernel
theorem dJ7_fill_53178_2 : decode cJ7_fill_53178 2 = .ok (.aload_n 0, 1) := by decide +kernel
theorem dJ7_fill_53178_3 : decode cJ7_fill_53178 3 = .ok (.arraylength, 1) := by decide +kernel
theorem dJ7_fill_53178_4 : decode cJ7_fill_53178 4 = .ok (.istore_n 3, 1) := by decide +kernel
theorem dJ7_fill_53178_5 : decode cJ7_fill_53178 5 = .ok (.iload_n 2, 1) := by decide +kernel
theorem dJ7_fill_53178_6 : decode cJ7_fill_53178 6 = .ok (.iload_n 3, 1) := by decide +kernel
theorem dJ7_fill_53178_7 : decode cJ7_fill_53178 7 = .ok (.if_icmp .ge 13, 3) := by decide +kernel
theorem dJ7_fill_53178_10 : decode cJ7_fill_53178 10 = .ok (.aload_n 0, 1) := by decide +kernel
theorem dJ7_fill_53178_11 : decode cJ7_fill_53178 11 = .ok (.iload_n 2, 1) := by decide +kernel
theorem dJ7_fill_53178_12 : decode cJ7_fill_53178 12 = .ok (.iload_n 1, 1) := by decide +kernel
theorem dJ7_fill_53178_13 : decode cJ7_fill_53178 13 = .ok (.iastore, 1) := by decide +kernel
theorem dJ7_fill_53178_14 : decode cJ7_fill_53178 14 = .ok (.iinc 2 1, 3) := by decide +kernel
theorem dJ7_fill_53178_17 : decode cJ7_fill_53178 17 = .ok (.goto (-12), 3) := by decide +kernel
theorem dJ7_fill_53178_20 : decode cJ7_fill_53178 20 = .ok (.return_, 1) := by decide +kernel
theorem dJ3_checkIndex_8e157_0 : decode cJ3_checkIndex_8e157 0 = .ok (.iload_n 0, 1) := by decide +kernel
theorem dJ3_checkIndex_8e157_1 : decode cJ3_checkIndex_8e157 1 = .ok (.ifCond .lt 8, 3) := by decide +kernel
theorem dJ3_checkIndex_8e157_4 : decode cJ3_checkIndex_8e157 4 = .ok (.iload_n 0, 1) := by decide +kernel
theorem dJ3_checkIndex_8e157_5 : decode cJ3_checkIndex_8e157 5 = .ok (.iload_n 1, 1) := by decide +kernel
theorem dJ3_checkIndex_8e157_6 : decode cJ3_checkIndex_8e157 6 = .ok (.if_icmp .lt 10, 3) := by decide +kernel
theorem dJ3_checkIndex_8e157_9 : decode cJ3_checkIndex_8e157 9 = .ok (.aload_n 2, 1) := by decide +kernel
theorem dJ3_checkIndex_8e157_10 : decode cJ3_checkIndex_8e157 10 = .ok (.iload_n 0, 1) := by decide +kernel
theorem dJ3_checkIndex_8e157_11 : decode cJ3_checkIndex_8e157 11 = .ok (.iload_n 1, 1) := by decide +kernel
theorem dJ3_checkIndex_8e157_12 : decode cJ3_checkIndex_8e157 12 = .ok (.invokestatic 95, 3) := by decide +kernel
theorem dJ3_checkIndex_8e157_15 : decode cJ3_checkIndex_8e157 15 = .ok (.athrow, 1) := by decide +kernel
theorem dJ3_checkIndex_8e157_16 : decode cJ3_checkIndex_8e157 16 = .ok (.iload_n 0, 1) := by decide +kernel
theorem dJ3_checkIndex_8e157_17 : decode cJ3_checkIndex_8e157 17 = .ok (.ireturn, 1) := by decide +kernel
theorem dL_law_0 : decode cL_law 0 = .ok (.new 7, 3) := by decide +kernel
theorem dL_law_3 : decode cL_law 3 = .ok (.dup, 1) := by decide +kernel
theorem dL_law_4 : decode cL_law 4 = .ok (.invokespecial 9, 3) := by decide +kernel
theorem dL_law_7 : decode cL_law 7 = .ok (.astore_n 1, 1) := by decide +kernel
theorem dL_law_8 : decode cL_law 8 = .ok (.new 10, 3) := by decide +kernel
theorem dL_law_11 : decode cL_law 11 = .ok (.dup, 1) := by decide +kernel
theorem dL_law_12 : decode cL_law 12 = .ok (.invokespecial 12, 3) := by decide +kernel
theorem dL_law_15 : decode cL_law 15 = .ok (.astore_n 2, 1) := by decide +kernel
theorem dL_law_16 : decode cL_law 16 = .ok (.iconst 0, 1) := by decide +kernel
theorem dL_law_17 : decode cL_law 17 = .ok (.istore_n 3, 1) := by decide +kernel
theorem dL_law_18 : decode cL_law 18 = .ok (.iload_n 3, 1) := by decide +kernel
theorem dL_law_19 : decode cL_law 19 = .ok (.aload_n 0, 1) := by decide +kernel
theorem dL_law_20 : decode cL_law 20 = .ok (.arraylength, 1) := by decide +kernel
theorem dL_law_21 : decode cL_law 21 = .ok (.bipush 6, 2) := by decide +kernel
theorem dL_law_23 : decode cL_law 23 = .ok (.isub, 1) := by decide +kernel
theorem dL_law_24 : decode cL_law 24 = .ok (.if_icmp .gt 1538, 3) := by decide +kernel
theorem dL_law_27 : decode cL_law 27 = .ok (.aload_n 0, 1) := by decide +kernel
theorem dL_law_28 : decode cL_law 28 = .ok (.iload_n 3, 1) := by decide +kernel
theorem dL_law_29 : decode cL_law 29 = .ok (.iaload, 1) := by decide +kernel
theorem dL_law_30 : decode cL_law 30 = .ok (.bipush 63, 2) := by decide +kernel
theorem dL_law_32 : decode cL_law 32 = .ok (.iand, 1) := by decide +kernel
theorem dL_law_33 : decode cL_law 33 = .ok (.tableswitch 1523 0 40 #[179, 212, 235, 268, 301, 344, 377, 410, 443, 466, 499, 532, 595, 618, 671, 694, 717, 750, 793, 826, 849, 873, 916, 959, 992, 1025, 1068, 1101, 1124, 1167, 1190, 1233, 1276, 1339, 1372, 1405, 1418, 1431, 1454, 1477, 1500], 179) := by decide +kernel
theorem dL_law_212 : decode cL_law 212 = .ok (.aload_n 1, 1) := by decide +kernel
theorem dL_law_213 : decode cL_law 213 = .ok (.aload_n 0, 1) := by decide +kernel
theorem dL_law_214 : decode cL_law 214 = .ok (.iload_n 3, 1) := by decide +kernel
theorem dL_law_215 : decode cL_law 215 = .ok (.iconst 1, 1) := by decide +kernel
theorem dL_law_216 : decode cL_law 216 = .ok (.iadd, 1) := by decide +kernel
theorem dL_law_217 : decode cL_law 217 = .ok (.iaload, 1) := by decide +kernel
theorem dL_law_218 : decode cL_law 218 = .ok (.aload_n 0, 1) := by decide +kernel
theorem dL_law_219 : decode cL_law 219 = .ok (.iload_n 3, 1) := by decide +kernel
theorem dL_law_220 : decode cL_law 220 = .ok (.iconst 2, 1) := by decide +kernel
theorem dL_law_221 : decode cL_law 221 = .ok (.iadd, 1) := by decide +kernel
theorem dL_law_222 : decode cL_law 222 = .ok (.iaload, 1) := by decide +kernel
theorem dL_law_223 : decode cL_law 223 = .ok (.invokevirtual 13, 3) := by decide +kernel
theorem dL_law_226 : decode cL_law 226 = .ok (.aload_n 2, 1) := by decide +kernel
theorem dL_law_227 : decode cL_law 227 = .ok (.aload_n 0, 1) := by decide +kernel
theorem dL_law_228 : decode cL_law 228 = .ok (.iload_n 3, 1) := by decide +kernel
theorem dL_law_229 : decode cL_law 229 = .ok (.iconst 1, 1) := by decide +kernel
theorem dL_law_230 : decode cL_law 230 = .ok (.iadd, 1) := by decide +kernel
theorem dL_law_231 : decode cL_law 231 = .ok (.iaload, 1) := by decide +kernel
theorem dL_law_232 : decode cL_law 232 = .ok (.aload_n 0, 1) := by decide +kernel
theorem dL_law_233 : decode cL_law 233 = .ok (.iload_n 3, 1) := by decide +kernel
theorem dL_law_234 : decode cL_law 234 = .ok (.iconst 2, 1) := by decide +kernel
theorem dL_law_235 : decode cL_law 235 = .ok (.iadd, 1) := by decide +kernel
theorem dL_law_236 : decode cL_law 236 = .ok (.iaload, 1) := by decide +kernel
theorem dL_law_237 : decode cL_law 237 = .ok (.invokevirtual 17, 3) := by decide +kernel
theorem dL_law_240 : decode cL_law 240 = .ok (.if_icmp .eq 1316, 3) := by decide +kernel
theorem dL_law_243 : decode cL_law 243 = .ok (.iconst 0, 1) := by decide +kernel
theorem dL_law_244 : decode cL_law 244 = .ok (.ireturn, 1) := by decide +kernel
theorem dL_law_245 : decode cL_law 245 = .ok (.aload_n 1, 1) := by decide +kernel
theorem dL_law_246 : decode cL_law 246 = .ok (.aload_n 0, 1) := by decide +kernel
theorem dL_law_247 : decode cL_law 247 = .ok (.iload_n 3, 1) := by decide +kernel
theorem dL_law_248 : decode cL_law 248 = .ok (.iconst 1, 1) := by decide +kernel
theorem dL_law_249 : decode cL_law 249 = .ok (.iadd, 1) := by decide +kernel
theorem dL_law_250 : decode cL_law 250 = .ok (.iaload, 1) := by decide +kernel
theorem dL_law_251 : decode cL_law 251 = .ok (.invokevirtual 18, 3) := by decide +kernel
theorem dL_law_254 : decode cL_law 254 = .ok (.aload_n 2, 1) := by decide +kernel
theorem dL_law_255 : decode cL_law 255 = .ok (.aload_n 0, 1) := by decide +kernel
theorem dL_law_256 : decode cL_law 256 = .ok (.iload_n 3, 1) := by decide +kernel
theorem dL_law_257 : decode cL_law 257 = .ok (.iconst 1, 1) := by decide +kernel
theorem dL_law_258 : decode cL_law 258 = .ok (.iadd, 1) := by decide +kernel
theorem dL_law_259 : decode cL_law 259 = .ok (.iaload, 1) := by decide +kernel
theorem dL_law_260 : decode cL_law 260 = .ok (.invokevirtual 22, 3) := by decide +kernel
theorem dL_law_263 : decode cL_law 263 = .ok (.if_icmp .eq 1293, 3) := by decide +kernel
theorem dL_law_266 : decode cL_law 266 = .ok (.iconst 0, 1) := by decide +kernel
theorem dL_law_267 : decode cL_law 267 = .ok (.ireturn, 1) := by decide +kernel
theorem dL_law_268 : decode cL_law 268 = .ok (.aload_n 1, 1) := by decide +kernel
theorem dL_law_269 : decode cL_law 269 = .ok (.aload_n 0, 1) := by decide +kernel
theorem dL_law_270 : decode cL_law 270 = .ok (.iload_n 3, 1) := by decide +kernel
theorem dL_law_271 : decode cL_law 271 = .ok (.iconst 1, 1) := by decide +kernel
theorem dL_law_272 : decode cL_law 272 = .ok (.iadd, 1) := by decide +kernel
theorem dL_law_273 : decode cL_law 273 = .ok (.iaload, 1) := by decide +kernel
theorem dL_law_274 : decode cL_law 274 = .ok (.aload_n 0, 1) := by decide +kernel
theorem dL_law_275 : decode cL_law 275 = .ok (.iload_n 3, 1) := by decide +kernel
theorem dL_law_276 : decode cL_law 276 = .ok (.iconst 2, 1) := by decide +kernel
theorem dL_law_277 : decode cL_law 277 = .ok (.iadd, 1) := by decide +kernel
theorem dL_law_278 : decode cL_law 278 = .ok (.iaload, 1) := by decide +kernel
theorem dL_law_279 : decode cL_law 279 = .ok (.invokevirtual 23, 3) := by decide +kernel
theorem dL_law_282 : decode cL_law 282 = .ok (.aload_n 2, 1) := by decide +kernel
theorem dL_law_283 : decode cL_law 283 = .ok (.aload_n 0, 1) := by decide +kernel
theorem dL_law_284 : decode cL_law 284 = .ok (.iload_n 3, 1) := by decide +kernel
theorem dL_law_285 : decode cL_law 285 = .ok (.iconst 1, 1) := by decide +kernel
theorem dL_law_286 : decode cL_law 286 = .ok (.iadd, 1) := by decide +kernel
theorem dL_law_287 : decode cL_law 287 = .ok (.iaload, 1) := by decide +kernel
theorem dL_law_288 : decode cL_law 288 = .ok (.aload_n 0, 1) := by decide +kernel
theorem dL_law_289 : decode cL_law 289 = .ok (.iload_n 3, 1) := by decide +kernel
theorem dL_law_290 : decode cL_law 290 = .ok (.iconst 2, 1) := by decide +kernel
theorem dL_law_291 : decode cL_law 291 = .ok (.iadd, 1) := by decide +kernel
theorem dL_law_292 : decode cL_law 292 = .ok (.iaload, 1) := by decide +kernel
theorem dL_law_293 : decode cL_law 293 = .ok (.invokevirtual 26, 3) := by decide +kernel
theorem dL_law_296 : decode cL_law 296 = .ok (.if_icmp .eq 1260, 3) := by decide +kernel
theorem dL_law_299 : decode cL_law 299 = .ok (.iconst 0, 1) := by decide +kernel
theorem dL_law_300 : decode cL_law 300 = .ok (.ireturn, 1) := by decide +kernel
theorem dL_law_301 : decode cL_law 301 = .ok (.aload_n 1, 1) := by decide +kernel
theorem dL_law_302 : decode cL_law 302 = .ok (.aload_n 0, 1) := by decide +kernel
theorem dL_law_303 : decode cL_law 303 = .ok (.iload_n 3, 1) := by decide +kernel
theorem dL_law_304 : decode cL_law 304 = .ok (.iconst 1, 1) := by decide +kernel
theorem dL_law_305 : decode cL_law 305 = .ok (.iadd, 1) := by decide +kernel
theorem dL_law_306 : decode cL_law 306 = .ok (.iaload, 1) := by decide +kernel
theorem dL_law_307 : decode cL_law 307 = .ok (.aload_n 0, 1) := by decide +kernel
theorem dL_law_308 : decode cL_law 308 = .ok (.iload_n 3, 1) := by decide +kernel
theorem dL_law_309 : decode cL_law 309 = .ok (.iconst 2, 1) := by decide +kernel
theorem dL_law_310 : decode cL_law 310 = .ok (.iadd, 1) := by decide +kernel
theorem dL_law_311 : decode cL_law 311 = .ok (.iaload, 1) := by decide +kernel
theorem dL_law_312 : decode cL_law 312 = .ok (.invokevirtual 27, 3) := by decide +kernel
theorem dL_law_315 : decode cL_law 315 = .ok (.aload_n 2, 1) := by decide +kernel
theorem dL_law_316 : decode cL_law 316 = .ok (.aload_n 0, 1) := by decide +kernel
theorem dL_law_317 : decode cL_law 317 = .ok (.iload_n 3, 1) := by decide +kernel
theorem dL_law_318 : decode cL_law 318 = .ok (.iconst 1, 1) := by decide +kernel
theorem dL_law_319 : decode cL_law 319 = .ok (.iadd, 1) := by decide +kernel
theorem dL_law_320 : decode cL_law 320 = .ok (.iaload, 1) := by decide +kernel
theorem dL_law_321 : decode cL_law 321 = .ok (.aload_n 0, 1) := by decide +kernel
theorem dL_law_322 : decode cL_law 322 = .ok (.iload_n 3, 1) := by decide +kernel
theorem dL_law_323 : decode cL_law 323 = .ok (.iconst 2, 1) := by decide +kernel
theorem dL_law_324 : decode cL_law 324 = .ok (.iadd, 1) := by decide +kernel
theorem dL_law_325 : decode cL_law 325 = .ok (.iaload, 1) := by decide +kernel
theorem dL_law_326 : decode cL_law 326 = .ok (.invokevirtual 30, 3) := by decide +kernel
theorem dL_law_329 : decode cL_law 329 = .ok (.if_icmp .eq 1227, 3) := by decide +kernel
theorem dL_law_332 : decode cL_law 332 = .ok (.iconst 0, 1) := by decide +kernel
theorem dL_law_333 : decode cL_law 333 = .ok (.ireturn, 1) := by decide +kernel
theorem dL_law_334 : decode cL_law 334 = .ok (.aload_n 1, 1) := by decide +kernel
theorem dL_law_335 : decode cL_law 335 = .ok (.aload_n 0, 1) := by decide +kernel
theorem dL_law_336 : decode cL_law 336 = .ok (.iload_n 3, 1) := by decide +kernel
theorem dL_law_337 : decode cL_law 337 = .ok (.iconst 1, 1) := by decide +kernel
theorem dL_law_338 : decode cL_law 338 = .ok (.iadd, 1) := by decide +kernel
theorem dL_law_339 : decode cL_law 339 = .ok (.iaload, 1) := by decide +kernel
theorem dL_law_340 : decode cL_law 340 = .ok (.aload_n 0, 1) := by decide +kernel
theorem dL_law_341 : decode cL_law 341 = .ok (.iload_n 3, 1) := by decide +kernel
theorem dL_law_342 : decode cL_law 342 = .ok (.iconst 2, 1) := by decide +kernel
theorem dL_law_343 : decode cL_law 343 = .ok (.iadd, 1) := by decide +kernel
theorem dL_law_344 : decode cL_law 344 = .ok (.iaload, 1) := by decide +kernel
theorem dL_law_345 : decode cL_law 345 = .ok (.aload_n 0, 1) := by decide +kernel
theorem dL_law_346 : decode cL_law 346 = .ok (.iload_n 3, 1) := by decide +kernel
theorem dL_law_347 : decode cL_law 347 = .ok (.iconst 3, 1) := by decide +kernel
theorem dL_law_348 : decode cL_law 348 = .ok (.iadd, 1) := by decide +kernel
theorem dL_law_349 : decode cL_law 349 = .ok (.iaload, 1) := by decide +kernel
theorem dL_law_350 : decode cL_law 350 = .ok (.invokevirtual 31, 3) := by decide +kernel
theorem dL_law_353 : decode cL_law 353 = .ok (.aload_n 2, 1) := by decide +kernel
theorem dL_law_354 : decode cL_law 354 = .ok (.aload_n 0, 1) := by decide +kernel
theorem dL_law_355 : decode cL_law 355 = .ok (.iload_n 3, 1) := by decide +kernel
theorem dL_law_356 : decode cL_law 356 = .ok (.iconst 1, 1) := by decide +kernel
theorem dL_law_357 : decode cL_law 357 = .ok (.iadd, 1) := by decide +kernel
theorem dL_law_358 : decode cL_law 358 = .ok (.iaload, 1) := by decide +kernel
theorem dL_law_359 : decode cL_law 359 = .ok (.aload_n 0, 1) := by decide +kernel
theorem dL_law_360 : decode cL_law 360 = .ok (.iload_n 3, 1) := by decide +kernel
theorem dL_law_361 : decode cL_law 361 = .ok (.iconst 2, 1) := by decide +kernel
theorem dL_law_362 : decode cL_law 362 = .ok (.iadd, 1) := by decide +kernel
theorem dL_law_363 : decode cL_law 363 = .ok (.iaload, 1) := by decide +kernel
theorem dL_law_364 : decode cL_law 364 = .ok (.aload_n 0, 1) := by decide +kernel
theorem dL_law_365 : decode cL_law 365 = .ok (.iload_n 3, 1) := by decide +kernel
theorem dL_law_366 : decode cL_law 366 = .ok (.iconst 3, 1) := by decide +kernel
theorem dL_law_367 : decode cL_law 367 = .ok (.iadd, 1) := by decide +kernel
theorem dL_law_368 : decode cL_law 368 = .ok (.iaload, 1) := by decide +kernel
theorem dL_law_369 : decode cL_law 369 = .ok (.invokevirtual 35, 3) := by decide +kernel
theorem dL_law_372 : decode cL_law 372 = .ok (.if_icmp .eq 1184, 3) := by decide +kernel
theorem dL_law_375 : decode cL_law 375 = .ok (.iconst 0, 1) := by decide +kernel
theorem dL_law_376 : decode cL_law 376 = .ok (.ireturn, 1) := by decide +kernel
theorem dL_law_377 : decode cL_law 377 = .ok (.aload_n 1, 1) := by decide +kernel
theorem dL_law_378 : decode cL_law 378 = .ok (.aload_n 0, 1) := by decide +kernel
theorem dL_law_379 : decode cL_law 379 = .ok (.iload_n 3, 1) := by decide +kernel
theorem dL_law_380 : decode cL_law 380 = .ok (.iconst 1, 1) := by decide +kernel
theorem dL_law_381 : decode cL_law 381 = .ok (.iadd, 1) := by decide +kernel
theorem dL_law_382 : decode cL_law 382 = .ok (.iaload, 1) := by decide +kernel
theorem dL_law_383 : decode cL_law 383 = .ok (.aload_n 0, 1) := by decide +kernel
theorem dL_law_384 : decode cL_law 384 = .ok (.iload_n 3, 1) := by decide +kernel
theorem dL_law_385 : decode cL_law 385 = .ok (.iconst 2, 1) := by decide +kernel
theorem dL_law_386 : decode cL_law 386 = .ok (.iadd, 1) := by decide +kernel
theorem dL_law_387 : decode cL_law 387 = .ok (.iaload, 1) := by decide +kernel
theorem dL_law_388 : decode cL_law 388 = .ok (.invokevirtual 36, 3) := by decide +kernel
theorem dL_law_391 : decode cL_law 391 = .ok (.aload_n 2, 1) := by decide +kernel
theorem dL_law_392 : decode cL_law 392 = .ok (.aload_n 0, 1) := by decide +kernel
theorem dL_law_393 : decode cL_law 393 = .ok (.iload_n 3, 1) := by decide +kernel
theorem dL_law_394 : decode cL_law 394 = .ok (.iconst 1, 1) := by decide +kernel
theorem dL_law_395 : decode cL_law 395 = .ok (.iadd, 1) := by decide +kernel
theorem dL_law_396 : decode cL_law 396 = .ok (.iaload, 1) := by decide +kernel
theorem dL_law_397 : decode cL_law 397 = .ok (.aload_n 0, 1) := by decide +kernel
theorem dL_law_398 : decode cL_law 398 = .ok (.iload_n 3, 1) := by decide +kernel
theorem dL_law_399 : decode cL_law 399 = .ok (.iconst 2, 1) := by decide +kernel
theorem dL_law_400 : decode cL_law 400 = .ok (.iadd, 1) := by decide +kernel
theorem dL_law_401 : decode cL_law 401 = .ok (.iaload, 1) := by decide +kernel
theorem dL_law_402 : decode cL_law 402 = .ok (.invokevirtual 39, 3) := by decide +kernel
theorem dL_law_405 : decode cL_law 405 = .ok (.if_icmp .eq 1151, 3) := by decide +kernel
theorem dL_law_408 : decode cL_law 408 = .ok (.iconst 0, 1) := by decide +kernel
theorem dL_law_409 : decode cL_law 409 = .ok (.ireturn, 1) := by decide +kernel
theorem dL_law_410 : decode cL_law 410 = .ok (.aload_n 1, 1) := by decide +kernel
theorem dL_law_411 : decode cL_law 411 = .ok (.aload_n 0, 1) := by decide +kernel
theorem dL_law_412 : decode cL_law 412 = .ok (.iload_n 3, 1) := by decide +kernel
theorem dL_law_413 : decode cL_law 413 = .ok (.iconst 1, 1) := by decide +kernel
theorem dL_law_414 : decode cL_law 414 = .ok (.iadd, 1) := by decide +kernel
theorem dL_law_415 : decode cL_law 415 = .ok (.iaload, 1) := by decide +kernel
theorem dL_law_416 : decode cL_law 416 = .ok (.aload_n 0, 1) := by decide +kernel
theorem dL_law_417 : decode cL_law 417 = .ok (.iload_n 3, 1) := by decide +kernel
theorem dL_law_418 : decode cL_law 418 = .ok (.iconst 2, 1) := by decide +kernel
theorem dL_law_419 : decode cL_law 419 = .ok (.iadd, 1) := by decide +kernel
theorem dL_law_420 : decode cL_law 420 = .ok (.iaload, 1) := by decide +kernel
theorem dL_law_421 : decode cL_law 421 = .ok (.invokevirtual 40, 3) := by decide +kernel
theorem dL_law_424 : decode cL_law 424 = .ok (.aload_n 2, 1) := by decide +kernel
theorem dL_law_425 : decode cL_law 425 = .ok (.aload_n 0, 1) := by decide +kernel
theorem dL_law_426 : decode cL_law 426 = .ok (.iload_n 3, 1) := by decide +kernel
theorem dL_law_427 : decode cL_law 427 = .ok (.iconst 1, 1) := by decide +kernel
theorem dL_law_428 : decode cL_law 428 = .ok (.iadd, 1) := by decide +kernel
theorem dL_law_429 : decode cL_law 429 = .ok (.iaload, 1) := by decide +kernel
theorem dL_law_430 : decode cL_law 430 = .ok (.aload_n 0, 1) := by decide +kernel
theorem dL_law_431 : decode cL_law 431 = .ok (.iload_n 3, 1) := by decide +kernel
theorem dL_law_432 : decode cL_law 432 = .ok (.iconst 2, 1) := by decide +kernel
theorem dL_law_433 : decode cL_law 433 = .ok (.iadd, 1) := by decide +kernel
theorem dL_law_434 : decode cL_law 434 = .ok (.iaload, 1) := by decide +kernel
theorem dL_law_435 : decode cL_law 435 = .ok (.invokevirtual 43, 3) := by decide +kernel
theorem dL_law_438 : decode cL_law 438 = .ok (.if_icmp .eq 1118, 3) := by decide +kernel
theorem dL_law_441 : decode cL_law 441 = .ok (.iconst 0, 1) := by decide +kernel
theorem dL_law_442 : decode cL_law 442 = .ok (.ireturn, 1) := by decide +kernel
theorem dL_law_443 : decode cL_law 443 = .ok (.aload_n 1, 1) := by decide +kernel
theorem dL_law_444 : decode cL_law 444 = .ok (.aload_n 0, 1) := by decide +kernel
theorem dL_law_445 : decode cL_law 445 = .ok (.iload_n 3, 1) := by decide +kernel
theorem dL_law_446 : decode cL_law 446 = .ok (.iconst 1, 1) := by decide +kernel
theorem dL_law_447 : decode cL_law 447 = .ok (.iadd, 1) := by decide +kernel
theorem dL_law_448 : decode cL_law 448 = .ok (.iaload, 1) := by decide +kernel
theorem dL_law_449 : decode cL_law 449 = .ok (.aload_n 0, 1) := by decide +kernel
theorem dL_law_450 : decode cL_law 450 = .ok (.iload_n 3, 1) := by decide +kernel
theorem dL_law_451 : decode cL_law 451 = .ok (.iconst 2, 1) := by decide +kernel
theorem dL_law_452 : decode cL_law 452 = .ok (.iadd, 1) := by decide +kernel
theorem dL_law_453 : decode cL_law 453 = .ok (.iaload, 1) := by decide +kernel
theorem dL_law_454 : decode cL_law 454 = .ok (.invokevirtual 44, 3) := by decide +kernel
theorem dL_law_457 : decode cL_law 457 = .ok (.aload_n 2, 1) := by decide +kernel
theorem dL_law_458 : decode cL_law 458 = .ok (.aload_n 0, 1) := by decide +kernel
theorem dL_law_459 : decode cL_law 459 = .ok (.iload_n 3, 1) := by decide +kernel
theorem dL_law_460 : decode cL_law 460 = .ok (.iconst 1, 1) := by decide +kernel
theorem dL_law_461 : decode cL_law 461 = .ok (.iadd, 1) := by decide +kernel
theorem dL_law_462 : decode cL_law 462 = .ok (.iaload, 1) := by decide +kernel
theorem dL_law_463 : decode cL_law 463 = .ok (.aload_n 0, 1) := by decide +kernel
theorem dL_law_464 : decode cL_law 464 = .ok (.iload_n 3, 1) := by decide +kernel
theorem dL_law_465 : decode cL_law 465 = .ok (.iconst 2, 1) := by decide +kernel
theorem dL_law_466 : decode cL_law 466 = .ok (.iadd, 1) := by decide +kernel
theorem dL_law_467 : decode cL_law 467 = .ok (.iaload, 1) := by decide +kernel
theorem dL_law_468 : decode cL_law 468 = .ok (.invokevirtual 47, 3) := by decide +kernel
theorem dL_law_471 : decode cL_law 471 = .ok (.if_icmp .eq 1085, 3) := by decide +kernel
theorem dL_law_474 : decode cL_law 474 = .ok (.iconst 0, 1) := by decide +kernel
theorem dL_law_475 : decode cL_law 475 = .ok (.ireturn, 1) := by decide +kernel
theorem dL_law_476 : decode cL_law 476 = .ok (.aload_n 1, 1) := by decide +kernel
theorem dL_law_477 : decode cL_law 477 = .ok (.aload_n 0, 1) := by decide +kernel
theorem dL_law_478 : decode cL_law 478 = .ok (.iload_n 3, 1) := by decide +kernel
theorem dL_law_479 : decode cL_law 479 = .ok (.iconst 1, 1) := by decide +kernel
theorem dL_law_480 : decode cL_law 480 = .ok (.iadd, 1) := by decide +kernel
theorem dL_law_481 : decode cL_law 481 = .ok (.iaload, 1) := by decide +kernel
theorem dL_law_482 : decode cL_law 482 = .ok (.invokevirtual 48, 3) := by decide +kernel
theorem dL_law_485 : decode cL_law 485 = .ok (.aload_n 2, 1) := by decide +kernel
theorem dL_law_486 : decode cL_law 486 = .ok (.aload_n 0, 1) := by decide +kernel
theorem dL_law_487 : decode cL_law 487 = .ok (.iload_n 3, 1) := by decide +kernel
theorem dL_law_488 : decode cL_law 488 = .ok (.iconst 1, 1) := by decide +kernel
theorem dL_law_489 : decode cL_law 489 = .ok (.iadd, 1) := by decide +kernel
theorem dL_law_490 : decode cL_law 490 = .ok (.iaload, 1) := by decide +kernel
theorem dL_law_491 : decode cL_law 491 = .ok (.invokevirtual 51, 3) := by decide +kernel
theorem dL_law_494 : decode cL_law 494 = .ok (.if_icmp .eq 1062, 3) := by decide +kernel
theorem dL_law_497 : decode cL_law 497 = .ok (.iconst 0, 1) := by decide +kernel
theorem dL_law_498 : decode cL_law 498 = .ok (.ireturn, 1) := by decide +kernel
theorem dL_law_499 : decode cL_law 499 = .ok (.aload_n 1, 1) := by decide +kernel
theorem dL_law_500 : decode cL_law 500 = .ok (.aload_n 0, 1) := by decide +kernel
theorem dL_law_501 : decode cL_law 501 = .ok (.iload_n 3, 1) := by decide +kernel
theorem dL_law_502 : decode cL_law 502 = .ok (.iconst 1, 1) := by decide +kernel
theorem dL_law_503 : decode cL_law 503 = .ok (.iadd, 1) := by decide +kernel
theorem dL_law_504 : decode cL_law 504 = .ok (.iaload, 1) := by decide +kernel
theorem dL_law_505 : decode cL_law 505 = .ok (.aload_n 0, 1) := by decide +kernel
theorem dL_law_506 : decode cL_law 506 = .ok (.iload_n 3, 1) := by decide +kernel
theorem dL_law_507 : decode cL_law 507 = .ok (.iconst 2, 1) := by decide +kernel
theorem dL_law_508 : decode cL_law 508 = .ok (.iadd, 1) := by decide +kernel
theorem dL_law_509 : decode cL_law 509 = .ok (.iaload, 1) := by decide +kernel
theorem dL_law_510 : decode cL_law 510 = .ok (.invokevirtual 52, 3) := by decide +kernel
theorem dL_law_513 : decode cL_law 513 = .ok (.aload_n 2, 1) := by decide +kernel
theorem dL_law_514 : decode cL_law 514 = .ok (.aload_n 0, 1) := by decide +kernel
theorem dL_law_515 : decode cL_law 515 = .ok (.iload_n 3, 1) := by decide +kernel
theorem dL_law_516 : decode cL_law 516 = .ok (.iconst 1, 1) := by decide +kernel
theorem dL_law_517 : decode cL_law 517 = .ok (.iadd, 1) := by decide +kernel
theorem dL_law_518 : decode cL_law 518 = .ok (.iaload, 1) := by decide +kernel
theorem dL_law_519 : decode cL_law 519 = .ok (.aload_n 0, 1) := by decide +kernel
theorem dL_law_520 : decode cL_law 520 = .ok (.iload_n 3, 1) := by decide +kernel
theorem dL_law_521 : decode cL_law 521 = .ok (.iconst 2, 1) := by decide +kernel
theorem dL_law_522 : decode cL_law 522 = .ok (.iadd, 1) := by decide +kernel
theorem dL_law_523 : decode cL_law 523 = .ok (.iaload, 1) := by decide +kernel
theorem dL_law_524 : decode cL_law 524 = .ok (.invokevirtual 55, 3) := by decide +kernel
theorem dL_law_527 : decode cL_law 527 = .ok (.if_icmp .eq 1029, 3) := by decide +kernel
theorem dL_law_530 : decode cL_law 530 = .ok (.iconst 0, 1) := by decide +kernel
theorem dL_law_531 : decode cL_law 531 = .ok (.ireturn, 1) := by decide +kernel
theorem dL_law_532 : decode cL_law 532 = .ok (.aload_n 1, 1) := by decide +kernel
theorem dL_law_533 : decode cL_law 533 = .ok (.aload_n 0, 1) := by decide +kernel
theorem dL_law_534 : decode cL_law 534 = .ok (.iload_n 3, 1) := by decide +kernel
theorem dL_law_535 : decode cL_law 535 = .ok (.iconst 1, 1) := by decide +kernel
theorem dL_law_536 : decode cL_law 536 = .ok (.iadd, 1) := by decide +kernel
theorem dL_law_537 : decode cL_law 537 = .ok (.iaload, 1) := by decide +kernel
theorem dL_law_538 : decode cL_law 538 = .ok (.aload_n 0, 1) := by decide +kernel
theorem dL_law_539 : decode cL_law 539 = .ok (.iload_n 3, 1) := by decide +kernel
theorem dL_law_540 : decode cL_law 540 = .ok (.iconst 2, 1) := by decide +kernel
theorem dL_law_541 : decode cL_law 541 = .ok (.iadd, 1) := by decide +kernel
theorem dL_law_542 : decode cL_law 542 = .ok (.iaload, 1) := by decide +kernel
theorem dL_law_543 : decode cL_law 543 = .ok (.invokevirtual 56, 3) := by decide +kernel
theorem dL_law_546 : decode cL_law 546 = .ok (.aload_n 2, 1) := by decide +kernel
theorem dL_law_547 : decode cL_law 547 = .ok (.aload_n 0, 1) := by decide +kernel
theorem dL_law_548 : decode cL_law 548 = .ok (.iload_n 3, 1) := by decide +kernel
theorem dL_law_549 : decode cL_law 549 = .ok (.iconst 1, 1) := by decide +kernel
theorem dL_law_550 : decode cL_law 550 = .ok (.iadd, 1) := by decide +kernel
theorem dL_law_551 : decode cL_law 551 = .ok (.iaload, 1) := by decide +kernel
theorem dL_law_552 : decode cL_law 552 = .ok (.aload_n 0, 1) := by decide +kernel
theorem dL_law_553 : decode cL_law 553 = .ok (.iload_n 3, 1) := by decide +kernel
theorem dL_law_554 : decode cL_law 554 = .ok (.iconst 2, 1) := by decide +kernel
theorem dL_law_555 : decode cL_law 555 = .ok (.iadd, 1) := by decide +kernel
theorem dL_law_556 : decode cL_law 556 = .ok (.iaload, 1) := by decide +kernel
theorem dL_law_557 : decode cL_law 557 = .ok (.invokevirtual 59, 3) := by decide +kernel
theorem dL_law_560 : decode cL_law 560 = .ok (.if_icmp .eq 996, 3) := by decide +kernel
theorem dL_law_563 : decode cL_law 563 = .ok (.iconst 0, 1) := by decide +kernel
theorem dL_law_564 : decode cL_law 564 = .ok (.ireturn, 1) := by decide +kernel
theorem dL_law_565 : decode cL_law 565 = .ok (.aload_n 1, 1) := by decide +kernel
theorem dL_law_566 : decode cL_law 566 = .ok (.aload_n 0, 1) := by decide +kernel
theorem dL_law_567 : decode cL_law 567 = .ok (.iload_n 3, 1) := by decide +kernel
theorem dL_law_568 : decode cL_law 568 = .ok (.iconst 1, 1) := by decide +kernel
theorem dL_law_569 : decode cL_law 569 = .ok (.iadd, 1) := by decide +kernel
theorem dL_law_570 : decode cL_law 570 = .ok (.iaload, 1) := by decide +kernel
theorem dL_law_571 : decode cL_law 571 = .ok (.i2l, 1) := by decide +kernel
theorem dL_law_572 : decode cL_law 572 = .ok (.bipush 32, 2) := by decide +kernel
theorem dL_law_574 : decode cL_law 574 = .ok (.lshl, 1) := by decide +kernel
theorem dL_law_575 : decode cL_law 575 = .ok (.aload_n 0, 1) := by decide +kernel
theorem dL_law_576 : decode cL_law 576 = .ok (.iload_n 3, 1) := by decide +kernel
theorem dL_law_577 : decode cL_law 577 = .ok (.iconst 2, 1) := by decide +kernel
theorem dL_law_578 : decode cL_law 578 = .ok (.iadd, 1) := by decide +kernel
theorem dL_law_579 : decode cL_law 579 = .ok (.iaload, 1) := by decide +kernel
theorem dL_law_580 : decode cL_law 580 = .ok (.i2l, 1) := by decide +kernel
theorem dL_law_581 : decode cL_law 581 = .ok (.ldc2_w 60, 3) := by decide +kernel
theorem dL_law_584 : decode cL_law 584 = .ok (.land, 1) := by decide +kernel
theorem dL_law_585 : decode cL_law 585 = .ok (.lor, 1) := by decide +kernel
theorem dL_law_586 : decode cL_law 586 = .ok (.aload_n 0, 1) := by decide +kernel
theorem dL_law_587 : decode cL_law 587 = .ok (.iload_n 3, 1) := by decide +kernel
theorem dL_law_588 : decode cL_law 588 = .ok (.iconst 3, 1) := by decide +kernel
theorem dL_law_589 : decode cL_law 589 = .ok (.iadd, 1) := by decide +kernel
theorem dL_law_590 : decode cL_law 590 = .ok (.iaload, 1) := by decide +kernel
theorem dL_law_591 : decode cL_law 591 = .ok (.invokevirtual 62, 3) := by decide +kernel
theorem dL_law_594 : decode cL_law 594 = .ok (.aload_n 2, 1) := by decide +kernel
theorem dL_law_595 : decode cL_law 595 = .ok (.aload_n 0, 1) := by decide +kernel
theorem dL_law_596 : decode cL_law 596 = .ok (.iload_n 3, 1) := by decide +kernel
theorem dL_law_597 : decode cL_law 597 = .ok (.iconst 1, 1) := by decide +kernel
theorem dL_law_598 : decode cL_law 598 = .ok (.iadd, 1) := by decide +kernel
theorem dL_law_599 : decode cL_law 599 = .ok (.iaload, 1) := by decide +kernel
theorem dL_law_600 : decode cL_law 600 = .ok (.i2l, 1) := by decide +kernel
theorem dL_law_601 : decode cL_law 601 = .ok (.bipush 32, 2) := by decide +kernel
theorem dL_law_603 : decode cL_law 603 = .ok (.lshl, 1) := by decide +kernel
theorem dL_law_604 : decode cL_law 604 = .ok (.aload_n 0, 1) := by decide +kernel
theorem dL_law_605 : decode cL_law 605 = .ok (.iload_n 3, 1) := by decide +kernel
theorem dL_law_606 : decode cL_law 606 = .ok (.iconst 2, 1) := by decide +kernel
theorem dL_law_607 : decode cL_law 607 = .ok (.iadd, 1) := by decide +kernel
theorem dL_law_608 : decode cL_law 608 = .ok (.iaload, 1) := by decide +kernel
theorem dL_law_609 : decode cL_law 609 = .ok (.i2l, 1) := by decide +kernel
theorem dL_law_610 : decode cL_law 610 = .ok (.ldc2_w 60, 3) := by decide +kernel
theorem dL_law_613 : decode cL_law 613 = .ok (.land, 1) := by decide +kernel
theorem dL_law_614 : decode cL_law 614 = .ok (.lor, 1) := by decide +kernel
theorem dL_law_615 : decode cL_law 615 = .ok (.aload_n 0, 1) := by decide +kernel
theorem dL_law_616 : decode cL_law 616 = .ok (.iload_n 3, 1) := by decide +kernel
theorem dL_law_617 : decode cL_law 617 = .ok (.iconst 3, 1) := by decide +kernel
theorem dL_law_618 : decode cL_law 618 = .ok (.iadd, 1) := by decide +kernel
theorem dL_law_619 : decode cL_law 619 = .ok (.iaload, 1) := by decide +kernel
theorem dL_law_620 : decode cL_law 620 = .ok (.invokevirtual 66, 3) := by decide +kernel
theorem dL_law_623 : decode cL_law 623 = .ok (.if_icmp .eq 933, 3) := by decide +kernel
theorem dL_law_626 : decode cL_law 626 = .ok (.iconst 0, 1) := by decide +kernel
theorem dL_law_627 : decode cL_law 627 = .ok (.ireturn, 1) := by decide +kernel
theorem dL_law_628 : decode cL_law 628 = .ok (.aload_n 1, 1) := by decide +kernel
theorem dL_law_629 : decode cL_law 629 = .ok (.aload_n 0, 1) := by decide +kernel
theorem dL_law_630 : decode cL_law 630 = .ok (.iload_n 3, 1) := by decide +kernel
theorem dL_law_631 : decode cL_law 631 = .ok (.iconst 1, 1) := by decide +kernel
theorem dL_law_632 : decode cL_law 632 = .ok (.iadd, 1) := by decide +kernel
theorem dL_law_633 : decode cL_law 633 = .ok (.iaload, 1) := by decide +kernel
theorem dL_law_634 : decode cL_law 634 = .ok (.invokevirtual 67, 3) := by decide +kernel
theorem dL_law_637 : decode cL_law 637 = .ok (.aload_n 2, 1) := by decide +kernel
theorem dL_law_638 : decode cL_law 638 = .ok (.aload_n 0, 1) := by decide +kernel
theorem dL_law_639 : decode cL_law 639 = .ok (.iload_n 3, 1) := by decide +kernel
theorem dL_law_640 : decode cL_law 640 = .ok (.iconst 1, 1) := by decide +kernel
theorem dL_law_641 : decode cL_law 641 = .ok (.iadd, 1) := by decide +kernel
theorem dL_law_642 : decode cL_law 642 = .ok (.iaload, 1) := by decide +kernel
theorem dL_law_643 : decode cL_law 643 = .ok (.invokevirtual 70, 3) := by decide +kernel
theorem dL_law_646 : decode cL_law 646 = .ok (.if_icmp .eq 910, 3) := by decide +kernel
theorem dL_law_649 : decode cL_law 649 = .ok (.iconst 0, 1) := by decide +kernel
theorem dL_law_650 : decode cL_law 650 = .ok (.ireturn, 1) := by decide +kernel
theorem dL_law_651 : decode cL_law 651 = .ok (.aload_n 1, 1) := by decide +kernel
theorem dL_law_652 : decode cL_law 652 = .ok (.aload_n 0, 1) := by decide +kernel
theorem dL_law_653 : decode cL_law 653 = .ok (.iload_n 3, 1) := by decide +kernel
theorem dL_law_654 : decode cL_law 654 = .ok (.iconst 1, 1) := by decide +kernel
theorem dL_law_655 : decode cL_law 655 = .ok (.iadd, 1) := by decide +kernel
theorem dL_law_656 : decode cL_law 656 = .ok (.iaload, 1) := by decide +kernel
theorem dL_law_657 : decode cL_law 657 = .ok (.aload_n 0, 1) := by decide +kernel
theorem dL_law_658 : decode cL_law 658 = .ok (.iload_n 3, 1) := by decide +kernel
theorem dL_law_659 : decode cL_law 659 = .ok (.iconst 2, 1) := by decide +kernel
theorem dL_law_660 : decode cL_law 660 = .ok (.iadd, 1) := by decide +kernel
theorem dL_law_661 : decode cL_law 661 = .ok (.iaload, 1) := by decide +kernel
theorem dL_law_662 : decode cL_law 662 = .ok (.aload_n 0, 1) := by decide +kernel
theorem dL_law_663 : decode cL_law 663 = .ok (.iload_n 3, 1) := by decide +kernel
theorem dL_law_664 : decode cL_law 664 = .ok (.iconst 3, 1) := by decide +kernel
theorem dL_law_665 : decode cL_law 665 = .ok (.iadd, 1) := by decide +kernel
theorem dL_law_666 : decode cL_law 666 = .ok (.iaload, 1) := by decide +kernel
theorem dL_law_667 : decode cL_law 667 = .ok (.aload_n 0, 1) := by decide +kernel
theorem dL_law_668 : decode cL_law 668 = .ok (.iload_n 3, 1) := by decide +kernel
theorem dL_law_669 : decode cL_law 669 = .ok (.iconst 4, 1) := by decide +kernel
theorem dL_law_670 : decode cL_law 670 = .ok (.iadd, 1) := by decide +kernel
theorem dL_law_671 : decode cL_law 671 = .ok (.iaload, 1) := by decide +kernel
theorem dL_law_672 : decode cL_law 672 = .ok (.invokevirtual 71, 3) := by decide +kernel
theorem dL_law_675 : decode cL_law 675 = .ok (.aload_n 2, 1) := by decide +kernel
theorem dL_law_676 : decode cL_law 676 = .ok (.aload_n 0, 1) := by decide +kernel
theorem dL_law_677 : decode cL_law 677 = .ok (.iload_n 3, 1) := by decide +kernel
theorem dL_law_678 : decode cL_law 678 = .ok (.iconst 1, 1) := by decide +kernel
theorem dL_law_679 : decode cL_law 679 = .ok (.iadd, 1) := by decide +kernel
theorem dL_law_680 : decode cL_law 680 = .ok (.iaload, 1) := by decide +kernel
theorem dL_law_681 : decode cL_law 681 = .ok (.aload_n 0, 1) := by decide +kernel
theorem dL_law_682 : decode cL_law 682 = .ok (.iload_n 3, 1) := by decide +kernel
theorem dL_law_683 : decode cL_law 683 = .ok (.iconst 2, 1) := by decide +kernel
theorem dL_law_684 : decode cL_law 684 = .ok (.iadd, 1) := by decide +kernel
theorem dL_law_685 : decode cL_law 685 = .ok (.iaload, 1) := by decide +kernel
theorem dL_law_686 : decode cL_law 686 = .ok (.aload_n 0, 1) := by decide +kernel
theorem dL_law_687 : decode cL_law 687 = .ok (.iload_n 3, 1) := by decide +kernel
theorem dL_law_688 : decode cL_law 688 = .ok (.iconst 3, 1) := by decide +kernel
theorem dL_law_689 : decode cL_law 689 = .ok (.iadd, 1) := by decide +kernel
theorem dL_law_690 : decode cL_law 690 = .ok (.iaload, 1) := by decide +kernel
theorem dL_law_691 : decode cL_law 691 = .ok (.aload_n 0, 1) := by decide +kernel
theorem dL_law_692 : decode cL_law 692 = .ok (.iload_n 3, 1) := by decide +kernel
theorem dL_law_693 : decode cL_law 693 = .ok (.iconst 4, 1) := by decide +kernel
theorem dL_law_694 : decode cL_law 694 = .ok (.iadd, 1) := by decide +kernel
theorem dL_law_695 : decode cL_law 695 = .ok (.iaload, 1) := by decide +kernel
theorem dL_law_696 : decode cL_law 696 = .ok (.invokevirtual 75, 3) := by decide +kernel
theorem dL_law_699 : decode cL_law 699 = .ok (.if_icmp .eq 857, 3) := by decide +kernel
theorem dL_law_702 : decode cL_law 702 = .ok (.iconst 0, 1) := by decide +kernel
theorem dL_law_703 : decode cL_law 703 = .ok (.ireturn, 1) := by decide +kernel
theorem dL_law_704 : decode cL_law 704 = .ok (.aload_n 1, 1) := by decide +kernel
theorem dL_law_705 : decode cL_law 705 = .ok (.aload_n 0, 1) := by decide +kernel
theorem dL_law_706 : decode cL_law 706 = .ok (.iload_n 3, 1) := by decide +kernel
theorem dL_law_707 : decode cL_law 707 = .ok (.iconst 1, 1) := by decide +kernel
theorem dL_law_708 : decode cL_law 708 = .ok (.iadd, 1) := by decide +kernel
theorem dL_law_709 : decode cL_law 709 = .ok (.iaload, 1) := by decide +kernel
theorem dL_law_710 : decode cL_law 710 = .ok (.invokevirtual 76, 3) := by decide +kernel
theorem dL_law_713 : decode cL_law 713 = .ok (.aload_n 2, 1) := by decide +kernel
theorem dL_law_714 : decode cL_law 714 = .ok (.aload_n 0, 1) := by decide +kernel
theorem dL_law_715 : decode cL_law 715 = .ok (.iload_n 3, 1) := by decide +kernel
theorem dL_law_716 : decode cL_law 716 = .ok (.iconst 1, 1) := by decide +kernel
theorem dL_law_717 : decode cL_law 717 = .ok (.iadd, 1) := by decide +kernel
theorem dL_law_718 : decode cL_law 718 = .ok (.iaload, 1) := by decide +kernel
theorem dL_law_719 : decode cL_law 719 = .ok (.invokevirtual 79, 3) := by decide +kernel
theorem dL_law_722 : decode cL_law 722 = .ok (.if_icmp .eq 834, 3) := by decide +kernel
theorem dL_law_725 : decode cL_law 725 = .ok (.iconst 0, 1) := by decide +kernel
theorem dL_law_726 : decode cL_law 726 = .ok (.ireturn, 1) := by decide +kernel
theorem dL_law_727 : decode cL_law 727 = .ok (.aload_n 1, 1) := by decide +kernel
theorem dL_law_728 : decode cL_law 728 = .ok (.aload_n 0, 1) := by decide +kernel
theorem dL_law_729 : decode cL_law 729 = .ok (.iload_n 3, 1) := by decide +kernel
theorem dL_law_730 : decode cL_law 730 = .ok (.iconst 1, 1) := by decide +kernel
theorem dL_law_731 : decode cL_law 731 = .ok (.iadd, 1) := by decide +kernel
theorem dL_law_732 : decode cL_law 732 = .ok (.iaload, 1) := by decide +kernel
theorem dL_law_733 : decode cL_law 733 = .ok (.invokevirtual 80, 3) := by decide +kernel
theorem dL_law_736 : decode cL_law 736 = .ok (.aload_n 2, 1) := by decide +kernel
theorem dL_law_737 : decode cL_law 737 = .ok (.aload_n 0, 1) := by decide +kernel
theorem dL_law_738 : decode cL_law 738 = .ok (.iload_n 3, 1) := by decide +kernel
theorem dL_law_739 : decode cL_law 739 = .ok (.iconst 1, 1) := by decide +kernel
theorem dL_law_740 : decode cL_law 740 = .ok (.iadd, 1) := by decide +kernel
theorem dL_law_741 : decode cL_law 741 = .ok (.iaload, 1) := by decide +kernel
theorem dL_law_742 : decode cL_law 742 = .ok (.invokevirtual 83, 3) := by decide +kernel
theorem dL_law_745 : decode cL_law 745 = .ok (.if_icmp .eq 811, 3) := by decide +kernel
theorem dL_law_748 : decode cL_law 748 = .ok (.iconst 0, 1) := by decide +kernel
theorem dL_law_749 : decode cL_law 749 = .ok (.ireturn, 1) := by decide +kernel
theorem dL_law_750 : decode cL_law 750 = .ok (.aload_n 1, 1) := by decide +kernel
theorem dL_law_751 : decode cL_law 751 = .ok (.aload_n 0, 1) := by decide +kernel
theorem dL_law_752 : decode cL_law 752 = .ok (.iload_n 3, 1) := by decide +kernel
theorem dL_law_753 : decode cL_law 753 = .ok (.iconst 1, 1) := by decide +kernel
theorem dL_law_754 : decode cL_law 754 = .ok (.iadd, 1) := by decide +kernel
theorem dL_law_755 : decode cL_law 755 = .ok (.iaload, 1) := by decide +kernel
theorem dL_law_756 : decode cL_law 756 = .ok (.aload_n 0, 1) := by decide +kernel
theorem dL_law_757 : decode cL_law 757 = .ok (.iload_n 3, 1) := by decide +kernel
theorem dL_law_758 : decode cL_law 758 = .ok (.iconst 2, 1) := by decide +kernel
theorem dL_law_759 : decode cL_law 759 = .ok (.iadd, 1) := by decide +kernel
theorem dL_law_760 : decode cL_law 760 = .ok (.iaload, 1) := by decide +kernel
theorem dL_law_761 : decode cL_law 761 = .ok (.invokevirtual 84, 3) := by decide +kernel
theorem dL_law_764 : decode cL_law 764 = .ok (.aload_n 2, 1) := by decide +kernel
theorem dL_law_765 : decode cL_law 765 = .ok (.aload_n 0, 1) := by decide +kernel
theorem dL_law_766 : decode cL_law 766 = .ok (.iload_n 3, 1) := by decide +kernel
theorem dL_law_767 : decode cL_law 767 = .ok (.iconst 1, 1) := by decide +kernel
theorem dL_law_768 : decode cL_law 768 = .ok (.iadd, 1) := by decide +kernel
theorem dL_law_769 : decode cL_law 769 = .ok (.iaload, 1) := by decide +kernel
theorem dL_law_770 : decode cL_law 770 = .ok (.aload_n 0, 1) := by decide +kernel
theorem dL_law_771 : decode cL_law 771 = .ok (.iload_n 3, 1) := by decide +kernel
theorem dL_law_772 : decode cL_law 772 = .ok (.iconst 2, 1) := by decide +kernel
theorem dL_law_773 : decode cL_law 773 = .ok (.iadd, 1) := by decide +kernel
theorem dL_law_774 : decode cL_law 774 = .ok (.iaload, 1) := by decide +kernel
theorem dL_law_775 : decode cL_law 775 = .ok (.invokevirtual 87, 3) := by decide +kernel
theorem dL_law_778 : decode cL_law 778 = .ok (.if_icmp .eq 778, 3) := by decide +kernel
theorem dL_law_781 : decode cL_law 781 = .ok (.iconst 0, 1) := by decide +kernel
theorem dL_law_782 : decode cL_law 782 = .ok (.ireturn, 1) := by decide +kernel
theorem dL_law_783 : decode cL_law 783 = .ok (.aload_n 1, 1) := by decide +kernel
theorem dL_law_784 : decode cL_law 784 = .ok (.aload_n 0, 1) := by decide +kernel
theorem dL_law_785 : decode cL_law 785 = .ok (.iload_n 3, 1) := by decide +kernel
theorem dL_law_786 : decode cL_law 786 = .ok (.iconst 1, 1) := by decide +kernel
theorem dL_law_787 : decode cL_law 787 = .ok (.iadd, 1) := by decide +kernel
theorem dL_law_788 : decode cL_law 788 = .ok (.iaload, 1) := by decide +kernel
theorem dL_law_789 : decode cL_law 789 = .ok (.aload_n 0, 1) := by decide +kernel
theorem dL_law_790 : decode cL_law 790 = .ok (.iload_n 3, 1) := by decide +kernel
theorem dL_law_791 : decode cL_law 791 = .ok (.iconst 2, 1) := by decide +kernel
theorem dL_law_792 : decode cL_law 792 = .ok (.iadd, 1) := by decide +kernel
theorem dL_law_793 : decode cL_law 793 = .ok (.iaload, 1) := by decide +kernel
theorem dL_law_794 : decode cL_law 794 = .ok (.aload_n 0, 1) := by decide +kernel
theorem dL_law_795 : decode cL_law 795 = .ok (.iload_n 3, 1) := by decide +kernel
theorem dL_law_796 : decode cL_law 796 = .ok (.iconst 3, 1) := by decide +kernel
theorem dL_law_797 : decode cL_law 797 = .ok (.iadd, 1) := by decide +kernel
theorem dL_law_798 : decode cL_law 798 = .ok (.iaload, 1) := by decide +kernel
theorem dL_law_799 : decode cL_law 799 = .ok (.invokevirtual 88, 3) := by decide +kernel
theorem dL_law_802 : decode cL_law 802 = .ok (.aload_n 2, 1) := by decide +kernel
theorem dL_law_803 : decode cL_law 803 = .ok (.aload_n 0, 1) := by decide +kernel
theorem dL_law_804 : decode cL_law 804 = .ok (.iload_n 3, 1) := by decide +kernel
theorem dL_law_805 : decode cL_law 805 = .ok (.iconst 1, 1) := by decide +kernel
theorem dL_law_806 : decode cL_law 806 = .ok (.iadd, 1) := by decide +kernel
theorem dL_law_807 : decode cL_law 807 = .ok (.iaload, 1) := by decide +kernel
theorem dL_law_808 : decode cL_law 808 = .ok (.aload_n 0, 1) := by decide +kernel
theorem dL_law_809 : decode cL_law 809 = .ok (.iload_n 3, 1) := by decide +kernel
theorem dL_law_810 : decode cL_law 810 = .ok (.iconst 2, 1) := by decide +kernel
theorem dL_law_811 : decode cL_law 811 = .ok (.iadd, 1) := by decide +kernel
theorem dL_law_812 : decode cL_law 812 = .ok (.iaload, 1) := by decide +kernel
theorem dL_law_813 : decode cL_law 813 = .ok (.aload_n 0, 1) := by decide +kernel
theorem dL_law_814 : decode cL_law 814 = .ok (.iload_n 3, 1) := by decide +kernel
theorem dL_law_815 : decode cL_law 815 = .ok (.iconst 3, 1) := by decide +kernel
theorem dL_law_816 : decode cL_law 816 = .ok (.iadd, 1) := by decide +kernel
theorem dL_law_817 : decode cL_law 817 = .ok (.iaload, 1) := by decide +kernel
theorem dL_law_818 : decode cL_law 818 = .ok (.invokevirtual 91, 3) := by decide +kernel
theorem dL_law_821 : decode cL_law 821 = .ok (.if_icmp .eq 735, 3) := by decide +kernel
theorem dL_law_824 : decode cL_law 824 = .ok (.iconst 0, 1) := by decide +kernel
theorem dL_law_825 : decode cL_law 825 = .ok (.ireturn, 1) := by decide +kernel
theorem dL_law_826 : decode cL_law 826 = .ok (.aload_n 1, 1) := by decide +kernel
theorem dL_law_827 : decode cL_law 827 = .ok (.aload_n 0, 1) := by decide +kernel
theorem dL_law_828 : decode cL_law 828 = .ok (.iload_n 3, 1) := by decide +kernel
theorem dL_law_829 : decode cL_law 829 = .ok (.iconst 1, 1) := by decide +kernel
theorem dL_law_830 : decode cL_law 830 = .ok (.iadd, 1) := by decide +kernel
theorem dL_law_831 : decode cL_law 831 = .ok (.iaload, 1) := by decide +kernel
theorem dL_law_832 : decode cL_law 832 = .ok (.aload_n 0, 1) := by decide +kernel
theorem dL_law_833 : decode cL_law 833 = .ok (.iload_n 3, 1) := by decide +kernel
theorem dL_law_834 : decode cL_law 834 = .ok (.iconst 2, 1) := by decide +kernel
theorem dL_law_835 : decode cL_law 835 = .ok (.iadd, 1) := by decide +kernel
theorem dL_law_836 : decode cL_law 836 = .ok (.iaload, 1) := by decide +kernel
theorem dL_law_837 : decode cL_law 837 = .ok (.invokevirtual 92, 3) := by decide +kernel
theorem dL_law_840 : decode cL_law 840 = .ok (.aload_n 2, 1) := by decide +kernel
theorem dL_law_841 : decode cL_law 841 = .ok (.aload_n 0, 1) := by decide +kernel
theorem dL_law_842 : decode cL_law 842 = .ok (.iload_n 3, 1) := by decide +kernel
theorem dL_law_843 : decode cL_law 843 = .ok (.iconst 1, 1) := by decide +kernel
theorem dL_law_844 : decode cL_law 844 = .ok (.iadd, 1) := by decide +kernel
theorem dL_law_845 : decode cL_law 845 = .ok (.iaload, 1) := by decide +kernel
theorem dL_law_846 : decode cL_law 846 = .ok (.aload_n 0, 1) := by decide +kernel
theorem dL_law_847 : decode cL_law 847 = .ok (.iload_n 3, 1) := by decide +kernel
theorem dL_law_848 : decode cL_law 848 = .ok (.iconst 2, 1) := by decide +kernel
theorem dL_law_849 : decode cL_law 849 = .ok (.iadd, 1) := by decide +kernel
theorem dL_law_850 : decode cL_law 850 = .ok (.iaload, 1) := by decide +kernel
theorem dL_law_851 : decode cL_law 851 = .ok (.invokevirtual 95, 3) := by decide +kernel
theorem dL_law_854 : decode cL_law 854 = .ok (.if_icmp .eq 702, 3) := by decide +kernel
theorem dL_law_857 : decode cL_law 857 = .ok (.iconst 0, 1) := by decide +kernel
theorem dL_law_858 : decode cL_law 858 = .ok (.ireturn, 1) := by decide +kernel
theorem dL_law_859 : decode cL_law 859 = .ok (.aload_n 1, 1) := by decide +kernel
theorem dL_law_860 : decode cL_law 860 = .ok (.aload_n 0, 1) := by decide +kernel
theorem dL_law_861 : decode cL_law 861 = .ok (.iload_n 3, 1) := by decide +kernel
theorem dL_law_862 : decode cL_law 862 = .ok (.iconst 1, 1) := by decide +kernel
theorem dL_law_863 : decode cL_law 863 = .ok (.iadd, 1) := by decide +kernel
theorem dL_law_864 : decode cL_law 864 = .ok (.iaload, 1) := by decide +kernel
theorem dL_law_865 : decode cL_law 865 = .ok (.invokevirtual 96, 3) := by decide +kernel
theorem dL_law_868 : decode cL_law 868 = .ok (.aload_n 2, 1) := by decide +kernel
theorem dL_law_869 : decode cL_law 869 = .ok (.aload_n 0, 1) := by decide +kernel
theorem dL_law_870 : decode cL_law 870 = .ok (.iload_n 3, 1) := by decide +kernel
theorem dL_law_871 : decode cL_law 871 = .ok (.iconst 1, 1) := by decide +kernel
theorem dL_law_872 : decode cL_law 872 = .ok (.iadd, 1) := by decide +kernel
theorem dL_law_873 : decode cL_law 873 = .ok (.iaload, 1) := by decide +kernel
theorem dL_law_874 : decode cL_law 874 = .ok (.invokevirtual 99, 3) := by decide +kernel
theorem dL_law_877 : decode cL_law 877 = .ok (.if_icmp .eq 679, 3) := by decide +kernel
theorem dL_law_880 : decode cL_law 880 = .ok (.iconst 0, 1) := by decide +kernel
theorem dL_law_881 : decode cL_law 881 = .ok (.ireturn, 1) := by decide +kernel
theorem dL_law_882 : decode cL_law 882 = .ok (.aload_n 1, 1) := by decide +kernel
theorem dL_law_883 : decode cL_law 883 = .ok (.aload_n 0, 1) := by decide +kernel
theorem dL_law_884 : decode cL_law 884 = .ok (.iload_n 3, 1) := by decide +kernel
theorem dL_law_885 : decode cL_law 885 = .ok (.iconst 1, 1) := by decide +kernel
theorem dL_law_886 : decode cL_law 886 = .ok (.iadd, 1) := by decide +kernel
theorem dL_law_887 : decode cL_law 887 = .ok (.iaload, 1) := by decide +kernel
theorem dL_law_888 : decode cL_law 888 = .ok (.invokevirtual 100, 3) := by decide +kernel
theorem dL_law_891 : decode cL_law 891 = .ok (.aload_n 2, 1) := by decide +kernel
theorem dL_law_892 : decode cL_law 892 = .ok (.aload_n 0, 1) := by decide +kernel
theorem dL_law_893 : decode cL_law 893 = .ok (.iload_n 3, 1) := by decide +kernel
theorem dL_law_894 : decode cL_law 894 = .ok (.iconst 1, 1) := by decide +kernel
theorem dL_law_895 : decode cL_law 895 = .ok (.iadd, 1) := by decide +kernel
theorem dL_law_896 : decode cL_law 896 = .ok (.iaload, 1) := by decide +kernel
theorem dL_law_897 : decode cL_law 897 = .ok (.invokevirtual 104, 3) := by decide +kernel
theorem dL_law_900 : decode cL_law 900 = .ok (.lcmp, 1) := by decide +kernel
theorem dL_law_901 : decode cL_law 901 = .ok (.ifCond .eq 655, 3) := by decide +kernel
theorem dL_law_904 : decode cL_law 904 = .ok (.iconst 0, 1) := by decide +kernel
theorem dL_law_905 : decode cL_law 905 = .ok (.ireturn, 1) := by decide +kernel
theorem dL_law_906 : decode cL_law 906 = .ok (.aload_n 1, 1) := by decide +kernel
theorem dL_law_907 : decode cL_law 907 = .ok (.aload_n 0, 1) := by decide +kernel
theorem dL_law_908 : decode cL_law 908 = .ok (.iload_n 3, 1) := by decide +kernel
theorem dL_law_909 : decode cL_law 909 = .ok (.iconst 1, 1) := by decide +kernel
theorem dL_law_910 : decode cL_law 910 = .ok (.iadd, 1) := by decide +kernel
theorem dL_law_911 : decode cL_law 911 = .ok (.iaload, 1) := by decide +kernel
theorem dL_law_912 : decode cL_law 912 = .ok (.aload_n 0, 1) := by decide +kernel
theorem dL_law_913 : decode cL_law 913 = .ok (.iload_n 3, 1) := by decide +kernel
theorem dL_law_914 : decode cL_law 914 = .ok (.iconst 2, 1) := by decide +kernel
theorem dL_law_915 : decode cL_law 915 = .ok (.iadd, 1) := by decide +kernel
theorem dL_law_916 : decode cL_law 916 = .ok (.iaload, 1) := by decide +kernel
theorem dL_law_917 : decode cL_law 917 = .ok (.aload_n 0, 1) := by decide +kernel
theorem dL_law_918 : decode cL_law 918 = .ok (.iload_n 3, 1) := by decide +kernel
theorem dL_law_919 : decode cL_law 919 = .ok (.iconst 3, 1) := by decide +kernel
theorem dL_law_920 : decode cL_law 920 = .ok (.iadd, 1) := by decide +kernel
theorem dL_law_921 : decode cL_law 921 = .ok (.iaload, 1) := by decide +kernel
theorem dL_law_922 : decode cL_law 922 = .ok (.invokevirtual 105, 3) := by decide +kernel
theorem dL_law_925 : decode cL_law 925 = .ok (.aload_n 2, 1) := by decide +kernel
theorem dL_law_926 : decode cL_law 926 = .ok (.aload_n 0, 1) := by decide +kernel
theorem dL_law_927 : decode cL_law 927 = .ok (.iload_n 3, 1) := by decide +kernel
theorem dL_law_928 : decode cL_law 928 = .ok (.iconst 1, 1) := by decide +kernel
theorem dL_law_929 : decode cL_law 929 = .ok (.iadd, 1) := by decide +kernel
theorem dL_law_930 : decode cL_law 930 = .ok (.iaload, 1) := by decide +kernel
theorem dL_law_931 : decode cL_law 931 = .ok (.aload_n 0, 1) := by decide +kernel
theorem dL_law_932 : decode cL_law 932 = .ok (.iload_n 3, 1) := by decide +kernel
theorem dL_law_933 : decode cL_law 933 = .ok (.iconst 2, 1) := by decide +kernel
theorem dL_law_934 : decode cL_law 934 = .ok (.iadd, 1) := by decide +kernel
theorem dL_law_935 : decode cL_law 935 = .ok (.iaload, 1) := by decide +kernel
theorem dL_law_936 : decode cL_law 936 = .ok (.aload_n 0, 1) := by decide +kernel
theorem dL_law_937 : decode cL_law 937 = .ok (.iload_n 3, 1) := by decide +kernel
theorem dL_law_938 : decode cL_law 938 = .ok (.iconst 3, 1) := by decide +kernel
theorem dL_law_939 : decode cL_law 939 = .ok (.iadd, 1) := by decide +kernel
theorem dL_law_940 : decode cL_law 940 = .ok (.iaload, 1) := by decide +kernel
theorem dL_law_941 : decode cL_law 941 = .ok (.invokevirtual 108, 3) := by decide +kernel
theorem dL_law_944 : decode cL_law 944 = .ok (.if_icmp .eq 612, 3) := by decide +kernel
theorem dL_law_947 : decode cL_law 947 = .ok (.iconst 0, 1) := by decide +kernel
theorem dL_law_948 : decode cL_law 948 = .ok (.ireturn, 1) := by decide +kernel
theorem dL_law_949 : decode cL_law 949 = .ok (.aload_n 1, 1) := by decide +kernel
theorem dL_law_950 : decode cL_law 950 = .ok (.aload_n 0, 1) := by decide +kernel
theorem dL_law_951 : decode cL_law 951 = .ok (.iload_n 3, 1) := by decide +kernel
theorem dL_law_952 : decode cL_law 952 = .ok (.iconst 1, 1) := by decide +kernel
theorem dL_law_953 : decode cL_law 953 = .ok (.iadd, 1) := by decide +kernel
theorem dL_law_954 : decode cL_law 954 = .ok (.iaload, 1) := by decide +kernel
theorem dL_law_955 : decode cL_law 955 = .ok (.aload_n 0, 1) := by decide +kernel
theorem dL_law_956 : decode cL_law 956 = .ok (.iload_n 3, 1) := by decide +kernel
theorem dL_law_957 : decode cL_law 957 = .ok (.iconst 2, 1) := by decide +kernel
theorem dL_law_958 : decode cL_law 958 = .ok (.iadd, 1) := by decide +kernel
theorem dL_law_959 : decode cL_law 959 = .ok (.iaload, 1) := by decide +kernel
theorem dL_law_960 : decode cL_law 960 = .ok (.aload_n 0, 1) := by decide +kernel
theorem dL_law_961 : decode cL_law 961 = .ok (.iload_n 3, 1) := by decide +kernel
theorem dL_law_962 : decode cL_law 962 = .ok (.iconst 3, 1) := by decide +kernel
theorem dL_law_963 : decode cL_law 963 = .ok (.iadd, 1) := by decide +kernel
theorem dL_law_964 : decode cL_law 964 = .ok (.iaload, 1) := by decide +kernel
theorem dL_law_965 : decode cL_law 965 = .ok (.invokevirtual 109, 3) := by decide +kernel
theorem dL_law_968 : decode cL_law 968 = .ok (.aload_n 2, 1) := by decide +kernel
theorem dL_law_969 : decode cL_law 969 = .ok (.aload_n 0, 1) := by decide +kernel
theorem dL_law_970 : decode cL_law 970 = .ok (.iload_n 3, 1) := by decide +kernel
theorem dL_law_971 : decode cL_law 971 = .ok (.iconst 1, 1) := by decide +kernel
theorem dL_law_972 : decode cL_law 972 = .ok (.iadd, 1) := by decide +kernel
theorem dL_law_973 : decode cL_law 973 = .ok (.iaload, 1) := by decide +kernel
theorem dL_law_974 : decode cL_law 974 = .ok (.aload_n 0, 1) := by decide +kernel
theorem dL_law_975 : decode cL_law 975 = .ok (.iload_n 3, 1) := by decide +kernel
theorem dL_law_976 : decode cL_law 976 = .ok (.iconst 2, 1) := by decide +kernel
theorem dL_law_977 : decode cL_law 977 = .ok (.iadd, 1) := by decide +kernel
theorem dL_law_978 : decode cL_law 978 = .ok (.iaload, 1) := by decide +kernel
theorem dL_law_979 : decode cL_law 979 = .ok (.aload_n 0, 1) := by decide +kernel
theorem dL_law_980 : decode cL_law 980 = .ok (.iload_n 3, 1) := by decide +kernel
theorem dL_law_981 : decode cL_law 981 = .ok (.iconst 3, 1) := by decide +kernel
theorem dL_law_982 : decode cL_law 982 = .ok (.iadd, 1) := by decide +kernel
theorem dL_law_983 : decode cL_law 983 = .ok (.iaload, 1) := by decide +kernel
theorem dL_law_984 : decode cL_law 984 = .ok (.invokevirtual 112, 3) := by decide +kernel
theorem dL_law_987 : decode cL_law 987 = .ok (.if_icmp .eq 569, 3) := by decide +kernel
theorem dL_law_990 : decode cL_law 990 = .ok (.iconst 0, 1) := by decide +kernel
theorem dL_law_991 : decode cL_law 991 = .ok (.ireturn, 1) := by decide +kernel
theorem dL_law_992 : decode cL_law 992 = .ok (.aload_n 1, 1) := by decide +kernel
theorem dL_law_993 : decode cL_law 993 = .ok (.aload_n 0, 1) := by decide +kernel
theorem dL_law_994 : decode cL_law 994 = .ok (.iload_n 3, 1) := by decide +kernel
theorem dL_law_995 : decode cL_law 995 = .ok (.iconst 1, 1) := by decide +kernel
theorem dL_law_996 : decode cL_law 996 = .ok (.iadd, 1) := by decide +kernel
theorem dL_law_997 : decode cL_law 997 = .ok (.iaload, 1) := by decide +kernel
theorem dL_law_998 : decode cL_law 998 = .ok (.aload_n 0, 1) := by decide +kernel
theorem dL_law_999 : decode cL_law 999 = .ok (.iload_n 3, 1) := by decide +kernel
theorem dL_law_1000 : decode cL_law 1000 = .ok (.iconst 2, 1) := by decide +kernel
theorem dL_law_1001 : decode cL_law 1001 = .ok (.iadd, 1) := by decide +kernel
theorem dL_law_1002 : decode cL_law 1002 = .ok (.iaload, 1) := by decide +kernel
theorem dL_law_1003 : decode cL_law 1003 = .ok (.invokevirtual 113, 3) := by decide +kernel
theorem dL_law_1006 : decode cL_law 1006 = .ok (.aload_n 2, 1) := by decide +kernel
theorem dL_law_1007 : decode cL_law 1007 = .ok (.aload_n 0, 1) := by decide +kernel
theorem dL_law_1008 : decode cL_law 1008 = .ok (.iload_n 3, 1) := by decide +kernel
theorem dL_law_1009 : decode cL_law 1009 = .ok (.iconst 1, 1) := by decide +kernel
theorem dL_law_1010 : decode cL_law 1010 = .ok (.iadd, 1) := by decide +kernel
theorem dL_law_1011 : decode cL_law 1011 = .ok (.iaload, 1) := by decide +kernel
theorem dL_law_1012 : decode cL_law 1012 = .ok (.aload_n 0, 1) := by decide +kernel
theorem dL_law_1013 : decode cL_law 1013 = .ok (.iload_n 3, 1) := by decide +kernel
theorem dL_law_1014 : decode cL_law 1014 = .ok (.iconst 2, 1) := by decide +kernel
theorem dL_law_1015 : decode cL_law 1015 = .ok (.iadd, 1) := by decide +kernel
theorem dL_law_1016 : decode cL_law 1016 = .ok (.iaload, 1) := by decide +kernel
theorem dL_law_1017 : decode cL_law 1017 = .ok (.invokevirtual 116, 3) := by decide +kernel
theorem dL_law_1020 : decode cL_law 1020 = .ok (.if_icmp .eq 536, 3) := by decide +kernel
theorem dL_law_1023 : decode cL_law 1023 = .ok (.iconst 0, 1) := by decide +kernel
theorem dL_law_1024 : decode cL_law 1024 = .ok (.ireturn, 1) := by decide +kernel
theorem dL_law_1025 : decode cL_law 1025 = .ok (.aload_n 1, 1) := by decide +kernel
theorem dL_law_1026 : decode cL_law 1026 = .ok (.aload_n 0, 1) := by decide +kernel
theorem dL_law_1027 : decode cL_law 1027 = .ok (.iload_n 3, 1) := by decide +kernel
theorem dL_law_1028 : decode cL_law 1028 = .ok (.iconst 1, 1) := by decide +kernel
theorem dL_law_1029 : decode cL_law 1029 = .ok (.iadd, 1) := by decide +kernel
theorem dL_law_1030 : decode cL_law 1030 = .ok (.iaload, 1) := by decide +kernel
theorem dL_law_1031 : decode cL_law 1031 = .ok (.aload_n 0, 1) := by decide +kernel
theorem dL_law_1032 : decode cL_law 1032 = .ok (.iload_n 3, 1) := by decide +kernel
theorem dL_law_1033 : decode cL_law 1033 = .ok (.iconst 2, 1) := by decide +kernel
theorem dL_law_1034 : decode cL_law 1034 = .ok (.iadd, 1) := by decide +kernel
theorem dL_law_1035 : decode cL_law 1035 = .ok (.iaload, 1) := by decide +kernel
theorem dL_law_1036 : decode cL_law 1036 = .ok (.invokevirtual 117, 3) := by decide +kernel
theorem dL_law_1039 : decode cL_law 1039 = .ok (.aload_n 2, 1) := by decide +kernel
theorem dL_law_1040 : decode cL_law 1040 = .ok (.aload_n 0, 1) := by decide +kernel
theorem dL_law_1041 : decode cL_law 1041 = .ok (.iload_n 3, 1) := by decide +kernel
theorem dL_law_1042 : decode cL_law 1042 = .ok (.iconst 1, 1) := by decide +kernel
theorem dL_law_1043 : decode cL_law 1043 = .ok (.iadd, 1) := by decide +kernel
theorem dL_law_1044 : decode cL_law 1044 = .ok (.iaload, 1) := by decide +kernel
theorem dL_law_1045 : decode cL_law 1045 = .ok (.aload_n 0, 1) := by decide +kernel
theorem dL_law_1046 : decode cL_law 1046 = .ok (.iload_n 3, 1) := by decide +kernel
theorem dL_law_1047 : decode cL_law 1047 = .ok (.iconst 2, 1) := by decide +kernel
theorem dL_law_1048 : decode cL_law 1048 = .ok (.iadd, 1) := by decide +kernel
theorem dL_law_1049 : decode cL_law 1049 = .ok (.iaload, 1) := by decide +kernel
theorem dL_law_1050 : decode cL_law 1050 = .ok (.invokevirtual 120, 3) := by decide +kernel
theorem dL_law_1053 : decode cL_law 1053 = .ok (.if_icmp .eq 503, 3) := by decide +kernel
theorem dL_law_1056 : decode cL_law 1056 = .ok (.iconst 0, 1) := by decide +kernel
theorem dL_law_1057 : decode cL_law 1057 = .ok (.ireturn, 1) := by decide +kernel
theorem dL_law_1058 : decode cL_law 1058 = .ok (.aload_n 1, 1) := by decide +kernel
theorem dL_law_1059 : decode cL_law 1059 = .ok (.aload_n 0, 1) := by decide +kernel
theorem dL_law_1060 : decode cL_law 1060 = .ok (.iload_n 3, 1) := by decide +kernel
theorem dL_law_1061 : decode cL_law 1061 = .ok (.iconst 1, 1) := by decide +kernel
theorem dL_law_1062 : decode cL_law 1062 = .ok (.iadd, 1) := by decide +kernel
theorem dL_law_1063 : decode cL_law 1063 = .ok (.iaload, 1) := by decide +kernel
theorem dL_law_1064 : decode cL_law 1064 = .ok (.aload_n 0, 1) := by decide +kernel
theorem dL_law_1065 : decode cL_law 1065 = .ok (.iload_n 3, 1) := by decide +kernel
theorem dL_law_1066 : decode cL_law 1066 = .ok (.iconst 2, 1) := by decide +kernel
theorem dL_law_1067 : decode cL_law 1067 = .ok (.iadd, 1) := by decide +kernel
theorem dL_law_1068 : decode cL_law 1068 = .ok (.iaload, 1) := by decide +kernel
theorem dL_law_1069 : decode cL_law 1069 = .ok (.aload_n 0, 1) := by decide +kernel
theorem dL_law_1070 : decode cL_law 1070 = .ok (.iload_n 3, 1) := by decide +kernel
theorem dL_law_1071 : decode cL_law 1071 = .ok (.iconst 3, 1) := by decide +kernel
theorem dL_law_1072 : decode cL_law 1072 = .ok (.iadd, 1) := by decide +kernel
theorem dL_law_1073 : decode cL_law 1073 = .ok (.iaload, 1) := by decide +kernel
theorem dL_law_1074 : decode cL_law 1074 = .ok (.invokevirtual 121, 3) := by decide +kernel
theorem dL_law_1077 : decode cL_law 1077 = .ok (.aload_n 2, 1) := by decide +kernel
theorem dL_law_1078 : decode cL_law 1078 = .ok (.aload_n 0, 1) := by decide +kernel
theorem dL_law_1079 : decode cL_law 1079 = .ok (.iload_n 3, 1) := by decide +kernel
theorem dL_law_1080 : decode cL_law 1080 = .ok (.iconst 1, 1) := by decide +kernel
theorem dL_law_1081 : decode cL_law 1081 = .ok (.iadd, 1) := by decide +kernel
theorem dL_law_1082 : decode cL_law 1082 = .ok (.iaload, 1) := by decide +kernel
theorem dL_law_1083 : decode cL_law 1083 = .ok (.aload_n 0, 1) := by decide +kernel
theorem dL_law_1084 : decode cL_law 1084 = .ok (.iload_n 3, 1) := by decide +kernel
theorem dL_law_1085 : decode cL_law 1085 = .ok (.iconst 2, 1) := by decide +kernel
theorem dL_law_1086 : decode cL_law 1086 = .ok (.iadd, 1) := by decide +kernel
theorem dL_law_1087 : decode cL_law 1087 = .ok (.iaload, 1) := by decide +kernel
theorem dL_law_1088 : decode cL_law 1088 = .ok (.aload_n 0, 1) := by decide +kernel
theorem dL_law_1089 : decode cL_law 1089 = .ok (.iload_n 3, 1) := by decide +kernel
theorem dL_law_1090 : decode cL_law 1090 = .ok (.iconst 3, 1) := by decide +kernel
theorem dL_law_1091 : decode cL_law 1091 = .ok (.iadd, 1) := by decide +kernel
theorem dL_law_1092 : decode cL_law 1092 = .ok (.iaload, 1) := by decide +kernel
theorem dL_law_1093 : decode cL_law 1093 = .ok (.invokevirtual 124, 3) := by decide +kernel
theorem dL_law_1096 : decode cL_law 1096 = .ok (.if_icmp .eq 460, 3) := by decide +kernel
theorem dL_law_1099 : decode cL_law 1099 = .ok (.iconst 0, 1) := by decide +kernel
theorem dL_law_1100 : decode cL_law 1100 = .ok (.ireturn, 1) := by decide +kernel
theorem dL_law_1101 : decode cL_law 1101 = .ok (.aload_n 1, 1) := by decide +kernel
theorem dL_law_1102 : decode cL_law 1102 = .ok (.aload_n 0, 1) := by decide +kernel
theorem dL_law_1103 : decode cL_law 1103 = .ok (.iload_n 3, 1) := by decide +kernel
theorem dL_law_1104 : decode cL_law 1104 = .ok (.iconst 1, 1) := by decide +kernel
theorem dL_law_1105 : decode cL_law 1105 = .ok (.iadd, 1) := by decide +kernel
theorem dL_law_1106 : decode cL_law 1106 = .ok (.iaload, 1) := by decide +kernel
theorem dL_law_1107 : decode cL_law 1107 = .ok (.aload_n 0, 1) := by decide +kernel
theorem dL_law_1108 : decode cL_law 1108 = .ok (.iload_n 3, 1) := by decide +kernel
theorem dL_law_1109 : decode cL_law 1109 = .ok (.iconst 2, 1) := by decide +kernel
theorem dL_law_1110 : decode cL_law 1110 = .ok (.iadd, 1) := by decide +kernel
theorem dL_law_1111 : decode cL_law 1111 = .ok (.iaload, 1) := by decide +kernel
theorem dL_law_1112 : decode cL_law 1112 = .ok (.invokevirtual 125, 3) := by decide +kernel
theorem dL_law_1115 : decode cL_law 1115 = .ok (.aload_n 2, 1) := by decide +kernel
theorem dL_law_1116 : decode cL_law 1116 = .ok (.aload_n 0, 1) := by decide +kernel
theorem dL_law_1117 : decode cL_law 1117 = .ok (.iload_n 3, 1) := by decide +kernel
theorem dL_law_1118 : decode cL_law 1118 = .ok (.iconst 1, 1) := by decide +kernel
theorem dL_law_1119 : decode cL_law 1119 = .ok (.iadd, 1) := by decide +kernel
theorem dL_law_1120 : decode cL_law 1120 = .ok (.iaload, 1) := by decide +kernel
theorem dL_law_1121 : decode cL_law 1121 = .ok (.aload_n 0, 1) := by decide +kernel
theorem dL_law_1122 : decode cL_law 1122 = .ok (.iload_n 3, 1) := by decide +kernel
theorem dL_law_1123 : decode cL_law 1123 = .ok (.iconst 2, 1) := by decide +kernel
theorem dL_law_1124 : decode cL_law 1124 = .ok (.iadd, 1) := by decide +kernel
theorem dL_law_1125 : decode cL_law 1125 = .ok (.iaload, 1) := by decide +kernel
theorem dL_law_1126 : decode cL_law 1126 = .ok (.invokevirtual 128, 3) := by decide +kernel
theorem dL_law_1129 : decode cL_law 1129 = .ok (.if_icmp .eq 427, 3) := by decide +kernel
theorem dL_law_1132 : decode cL_law 1132 = .ok (.iconst 0, 1) := by decide +kernel
theorem dL_law_1133 : decode cL_law 1133 = .ok (.ireturn, 1) := by decide +kernel
theorem dL_law_1134 : decode cL_law 1134 = .ok (.aload_n 1, 1) := by decide +kernel
theorem dL_law_1135 : decode cL_law 1135 = .ok (.aload_n 0, 1) := by decide +kernel
theorem dL_law_1136 : decode cL_law 1136 = .ok (.iload_n 3, 1) := by decide +kernel
theorem dL_law_1137 : decode cL_law 1137 = .ok (.iconst 1, 1) := by decide +kernel
theorem dL_law_1138 : decode cL_law 1138 = .ok (.iadd, 1) := by decide +kernel
theorem dL_law_1139 : decode cL_law 1139 = .ok (.iaload, 1) := by decide +kernel
theorem dL_law_1140 : decode cL_law 1140 = .ok (.invokevirtual 129, 3) := by decide +kernel
theorem dL_law_1143 : decode cL_law 1143 = .ok (.aload_n 2, 1) := by decide +kernel
theorem dL_law_1144 : decode cL_law 1144 = .ok (.aload_n 0, 1) := by decide +kernel
theorem dL_law_1145 : decode cL_law 1145 = .ok (.iload_n 3, 1) := by decide +kernel
theorem dL_law_1146 : decode cL_law 1146 = .ok (.iconst 1, 1) := by decide +kernel
theorem dL_law_1147 : decode cL_law 1147 = .ok (.iadd, 1) := by decide +kernel
theorem dL_law_1148 : decode cL_law 1148 = .ok (.iaload, 1) := by decide +kernel
theorem dL_law_1149 : decode cL_law 1149 = .ok (.invokevirtual 132, 3) := by decide +kernel
theorem dL_law_1152 : decode cL_law 1152 = .ok (.if_icmp .eq 404, 3) := by decide +kernel
theorem dL_law_1155 : decode cL_law 1155 = .ok (.iconst 0, 1) := by decide +kernel
theorem dL_law_1156 : decode cL_law 1156 = .ok (.ireturn, 1) := by decide +kernel
theorem dL_law_1157 : decode cL_law 1157 = .ok (.aload_n 1, 1) := by decide +kernel
theorem dL_law_1158 : decode cL_law 1158 = .ok (.aload_n 0, 1) := by decide +kernel
theorem dL_law_1159 : decode cL_law 1159 = .ok (.iload_n 3, 1) := by decide +kernel
theorem dL_law_1160 : decode cL_law 1160 = .ok (.iconst 1, 1) := by decide +kernel
theorem dL_law_1161 : decode cL_law 1161 = .ok (.iadd, 1) := by decide +kernel
theorem dL_law_1162 : decode cL_law 1162 = .ok (.iaload, 1) := by decide +kernel
theorem dL_law_1163 : decode cL_law 1163 = .ok (.aload_n 0, 1) := by decide +kernel
theorem dL_law_1164 : decode cL_law 1164 = .ok (.iload_n 3, 1) := by decide +kernel
theorem dL_law_1165 : decode cL_law 1165 = .ok (.iconst 2, 1) := by decide +kernel
theorem dL_law_1166 : decode cL_law 1166 = .ok (.iadd, 1) := by decide +kernel
theorem dL_law_1167 : decode cL_law 1167 = .ok (.iaload, 1) := by decide +kernel
theorem dL_law_1168 : decode cL_law 1168 = .ok (.aload_n 0, 1) := by decide +kernel
theorem dL_law_1169 : decode cL_law 1169 = .ok (.iload_n 3, 1) := by decide +kernel
theorem dL_law_1170 : decode cL_law 1170 = .ok (.iconst 3, 1) := by decide +kernel
theorem dL_law_1171 : decode cL_law 1171 = .ok (.iadd, 1) := by decide +kernel
theorem dL_law_1172 : decode cL_law 1172 = .ok (.iaload, 1) := by decide +kernel
theorem dL_law_1173 : decode cL_law 1173 = .ok (.invokevirtual 133, 3) := by decide +kernel
theorem dL_law_1176 : decode cL_law 1176 = .ok (.aload_n 2, 1) := by decide +kernel
theorem dL_law_1177 : decode cL_law 1177 = .ok (.aload_n 0, 1) := by decide +kernel
theorem dL_law_1178 : decode cL_law 1178 = .ok (.iload_n 3, 1) := by decide +kernel
theorem dL_law_1179 : decode cL_law 1179 = .ok (.iconst 1, 1) := by decide +kernel
theorem dL_law_1180 : decode cL_law 1180 = .ok (.iadd, 1) := by decide +kernel
theorem dL_law_1181 : decode cL_law 1181 = .ok (.iaload, 1) := by decide +kernel
theorem dL_law_1182 : decode cL_law 1182 = .ok (.aload_n 0, 1) := by decide +kernel
theorem dL_law_1183 : decode cL_law 1183 = .ok (.iload_n 3, 1) := by decide +kernel
theorem dL_law_1184 : decode cL_law 1184 = .ok (.iconst 2, 1) := by decide +kernel
theorem dL_law_1185 : decode cL_law 1185 = .ok (.iadd, 1) := by decide +kernel
theorem dL_law_1186 : decode cL_law 1186 = .ok (.iaload, 1) := by decide +kernel
theorem dL_law_1187 : decode cL_law 1187 = .ok (.aload_n 0, 1) := by decide +kernel
theorem dL_law_1188 : decode cL_law 1188 = .ok (.iload_n 3, 1) := by decide +kernel
theorem dL_law_1189 : decode cL_law 1189 = .ok (.iconst 3, 1) := by decide +kernel
theorem dL_law_1190 : decode cL_law 1190 = .ok (.iadd, 1) := by decide +kernel
theorem dL_law_1191 : decode cL_law 1191 = .ok (.iaload, 1) := by decide +kernel
theorem dL_law_1192 : decode cL_law 1192 = .ok (.invokevirtual 136, 3) := by decide +kernel
theorem dL_law_1195 : decode cL_law 1195 = .ok (.if_icmp .eq 361, 3) := by decide +kernel
theorem dL_law_1198 : decode cL_law 1198 = .ok (.iconst 0, 1) := by decide +kernel
theorem dL_law_1199 : decode cL_law 1199 = .ok (.ireturn, 1) := by decide +kernel
theorem dL_law_1200 : decode cL_law 1200 = .ok (.aload_n 1, 1) := by decide +kernel
theorem dL_law_1201 : decode cL_law 1201 = .ok (.aload_n 0, 1) := by decide +kernel
theorem dL_law_1202 : decode cL_law 1202 = .ok (.iload_n 3, 1) := by decide +kernel
theorem dL_law_1203 : decode cL_law 1203 = .ok (.iconst 1, 1) := by decide +kernel
theorem dL_law_1204 : decode cL_law 1204 = .ok (.iadd, 1) := by decide +kernel
theorem dL_law_1205 : decode cL_law 1205 = .ok (.iaload, 1) := by decide +kernel
theorem dL_law_1206 : decode cL_law 1206 = .ok (.invokevirtual 137, 3) := by decide +kernel
theorem dL_law_1209 : decode cL_law 1209 = .ok (.aload_n 2, 1) := by decide +kernel
theorem dL_law_1210 : decode cL_law 1210 = .ok (.aload_n 0, 1) := by decide +kernel
theorem dL_law_1211 : decode cL_law 1211 = .ok (.iload_n 3, 1) := by decide +kernel
theorem dL_law_1212 : decode cL_law 1212 = .ok (.iconst 1, 1) := by decide +kernel
theorem dL_law_1213 : decode cL_law 1213 = .ok (.iadd, 1) := by decide +kernel
theorem dL_law_1214 : decode cL_law 1214 = .ok (.iaload, 1) := by decide +kernel
theorem dL_law_1215 : decode cL_law 1215 = .ok (.invokevirtual 140, 3) := by decide +kernel
theorem dL_law_1218 : decode cL_law 1218 = .ok (.if_icmp .eq 338, 3) := by decide +kernel
theorem dL_law_1221 : decode cL_law 1221 = .ok (.iconst 0, 1) := by decide +kernel
theorem dL_law_1222 : decode cL_law 1222 = .ok (.ireturn, 1) := by decide +kernel
theorem dL_law_1223 : decode cL_law 1223 = .ok (.aload_n 1, 1) := by decide +kernel
theorem dL_law_1224 : decode cL_law 1224 = .ok (.aload_n 0, 1) := by decide +kernel
theorem dL_law_1225 : decode cL_law 1225 = .ok (.iload_n 3, 1) := by decide +kernel
theorem dL_law_1226 : decode cL_law 1226 = .ok (.iconst 1, 1) := by decide +kernel
theorem dL_law_1227 : decode cL_law 1227 = .ok (.iadd, 1) := by decide +kernel
theorem dL_law_1228 : decode cL_law 1228 = .ok (.iaload, 1) := by decide +kernel
theorem dL_law_1229 : decode cL_law 1229 = .ok (.aload_n 0, 1) := by decide +kernel
theorem dL_law_1230 : decode cL_law 1230 = .ok (.iload_n 3, 1) := by decide +kernel
theorem dL_law_1231 : decode cL_law 1231 = .ok (.iconst 2, 1) := by decide +kernel
theorem dL_law_1232 : decode cL_law 1232 = .ok (.iadd, 1) := by decide +kernel
theorem dL_law_1233 : decode cL_law 1233 = .ok (.iaload, 1) := by decide +kernel
theorem dL_law_1234 : decode cL_law 1234 = .ok (.aload_n 0, 1) := by decide +kernel
theorem dL_law_1235 : decode cL_law 1235 = .ok (.iload_n 3, 1) := by decide +kernel
theorem dL_law_1236 : decode cL_law 1236 = .ok (.iconst 3, 1) := by decide +kernel
theorem dL_law_1237 : decode cL_law 1237 = .ok (.iadd, 1) := by decide +kernel
theorem dL_law_1238 : decode cL_law 1238 = .ok (.iaload, 1) := by decide +kernel
theorem dL_law_1239 : decode cL_law 1239 = .ok (.invokevirtual 141, 3) := by decide +kernel
theorem dL_law_1242 : decode cL_law 1242 = .ok (.aload_n 2, 1) := by decide +kernel
theorem dL_law_1243 : decode cL_law 1243 = .ok (.aload_n 0, 1) := by decide +kernel
theorem dL_law_1244 : decode cL_law 1244 = .ok (.iload_n 3, 1) := by decide +kernel
theorem dL_law_1245 : decode cL_law 1245 = .ok (.iconst 1, 1) := by decide +kernel
theorem dL_law_1246 : decode cL_law 1246 = .ok (.iadd, 1) := by decide +kernel
theorem dL_law_1247 : decode cL_law 1247 = .ok (.iaload, 1) := by decide +kernel
theorem dL_law_1248 : decode cL_law 1248 = .ok (.aload_n 0, 1) := by decide +kernel
theorem dL_law_1249 : decode cL_law 1249 = .ok (.iload_n 3, 1) := by decide +kernel
theorem dL_law_1250 : decode cL_law 1250 = .ok (.iconst 2, 1) := by decide +kernel
theorem dL_law_1251 : decode cL_law 1251 = .ok (.iadd, 1) := by decide +kernel
theorem dL_law_1252 : decode cL_law 1252 = .ok (.iaload, 1) := by decide +kernel
theorem dL_law_1253 : decode cL_law 1253 = .ok (.aload_n 0, 1) := by decide +kernel
theorem dL_law_1254 : decode cL_law 1254 = .ok (.iload_n 3, 1) := by decide +kernel
theorem dL_law_1255 : decode cL_law 1255 = .ok (.iconst 3, 1) := by decide +kernel
theorem dL_law_1256 : decode cL_law 1256 = .ok (.iadd, 1) := by decide +kernel
theorem dL_law_1257 : decode cL_law 1257 = .ok (.iaload, 1) := by decide +kernel
theorem dL_law_1258 : decode cL_law 1258 = .ok (.invokevirtual 144, 3) := by decide +kernel
theorem dL_law_1261 : decode cL_law 1261 = .ok (.if_icmp .eq 295, 3) := by decide +kernel
theorem dL_law_1264 : decode cL_law 1264 = .ok (.iconst 0, 1) := by decide +kernel
theorem dL_law_1265 : decode cL_law 1265 = .ok (.ireturn, 1) := by decide +kernel
theorem dL_law_1266 : decode cL_law 1266 = .ok (.aload_n 1, 1) := by decide +kernel
theorem dL_law_1267 : decode cL_law 1267 = .ok (.aload_n 0, 1) := by decide +kernel
theorem dL_law_1268 : decode cL_law 1268 = .ok (.iload_n 3, 1) := by decide +kernel
theorem dL_law_1269 : decode cL_law 1269 = .ok (.iconst 1, 1) := by decide +kernel
theorem dL_law_1270 : decode cL_law 1270 = .ok (.iadd, 1) := by decide +kernel
theorem dL_law_1271 : decode cL_law 1271 = .ok (.iaload, 1) := by decide +kernel
theorem dL_law_1272 : decode cL_law 1272 = .ok (.aload_n 0, 1) := by decide +kernel
theorem dL_law_1273 : decode cL_law 1273 = .ok (.iload_n 3, 1) := by decide +kernel
theorem dL_law_1274 : decode cL_law 1274 = .ok (.iconst 2, 1) := by decide +kernel
theorem dL_law_1275 : decode cL_law 1275 = .ok (.iadd, 1) := by decide +kernel
theorem dL_law_1276 : decode cL_law 1276 = .ok (.iaload, 1) := by decide +kernel
theorem dL_law_1277 : decode cL_law 1277 = .ok (.aload_n 0, 1) := by decide +kernel
theorem dL_law_1278 : decode cL_law 1278 = .ok (.iload_n 3, 1) := by decide +kernel
theorem dL_law_1279 : decode cL_law 1279 = .ok (.iconst 3, 1) := by decide +kernel
theorem dL_law_1280 : decode cL_law 1280 = .ok (.iadd, 1) := by decide +kernel
theorem dL_law_1281 : decode cL_law 1281 = .ok (.iaload, 1) := by decide +kernel
theorem dL_law_1282 : decode cL_law 1282 = .ok (.invokevirtual 145, 3) := by decide +kernel
theorem dL_law_1285 : decode cL_law 1285 = .ok (.aload_n 2, 1) := by decide +kernel
theorem dL_law_1286 : decode cL_law 1286 = .ok (.aload_n 0, 1) := by decide +kernel
theorem dL_law_1287 : decode cL_law 1287 = .ok (.iload_n 3, 1) := by decide +kernel
theorem dL_law_1288 : decode cL_law 1288 = .ok (.iconst 1, 1) := by decide +kernel
theorem dL_law_1289 : decode cL_law 1289 = .ok (.iadd, 1) := by decide +kernel
theorem dL_law_1290 : decode cL_law 1290 = .ok (.iaload, 1) := by decide +kernel
theorem dL_law_1291 : decode cL_law 1291 = .ok (.aload_n 0, 1) := by decide +kernel
theorem dL_law_1292 : decode cL_law 1292 = .ok (.iload_n 3, 1) := by decide +kernel
theorem dL_law_1293 : decode cL_law 1293 = .ok (.iconst 2, 1) := by decide +kernel
theorem dL_law_1294 : decode cL_law 1294 = .ok (.iadd, 1) := by decide +kernel
theorem dL_law_1295 : decode cL_law 1295 = .ok (.iaload, 1) := by decide +kernel
theorem dL_law_1296 : decode cL_law 1296 = .ok (.aload_n 0, 1) := by decide +kernel
theorem dL_law_1297 : decode cL_law 1297 = .ok (.iload_n 3, 1) := by decide +kernel
theorem dL_law_1298 : decode cL_law 1298 = .ok (.iconst 3, 1) := by decide +kernel
theorem dL_law_1299 : decode cL_law 1299 = .ok (.iadd, 1) := by decide +kernel
theorem dL_law_1300 : decode cL_law 1300 = .ok (.iaload, 1) := by decide +kernel
theorem dL_law_1301 : decode cL_law 1301 = .ok (.invokevirtual 148, 3) := by decide +kernel
theorem dL_law_1304 : decode cL_law 1304 = .ok (.if_icmp .eq 252, 3) := by decide +kernel
theorem dL_law_1307 : decode cL_law 1307 = .ok (.iconst 0, 1) := by decide +kernel
theorem dL_law_1308 : decode cL_law 1308 = .ok (.ireturn, 1) := by decide +kernel
theorem dL_law_1309 : decode cL_law 1309 = .ok (.aload_n 1, 1) := by decide +kernel
theorem dL_law_1310 : decode cL_law 1310 = .ok (.aload_n 0, 1) := by decide +kernel
theorem dL_law_1311 : decode cL_law 1311 = .ok (.iload_n 3, 1) := by decide +kernel
theorem dL_law_1312 : decode cL_law 1312 = .ok (.iconst 1, 1) := by decide +kernel
theorem dL_law_1313 : decode cL_law 1313 = .ok (.iadd, 1) := by decide +kernel
theorem dL_law_1314 : decode cL_law 1314 = .ok (.iaload, 1) := by decide +kernel
theorem dL_law_1315 : decode cL_law 1315 = .ok (.aload_n 0, 1) := by decide +kernel
theorem dL_law_1316 : decode cL_law 1316 = .ok (.iload_n 3, 1) := by decide +kernel
theorem dL_law_1317 : decode cL_law 1317 = .ok (.iconst 2, 1) := by decide +kernel
theorem dL_law_1318 : decode cL_law 1318 = .ok (.iadd, 1) := by decide +kernel
theorem dL_law_1319 : decode cL_law 1319 = .ok (.iaload, 1) := by decide +kernel
theorem dL_law_1320 : decode cL_law 1320 = .ok (.aload_n 0, 1) := by decide +kernel
theorem dL_law_1321 : decode cL_law 1321 = .ok (.iload_n 3, 1) := by decide +kernel
theorem dL_law_1322 : decode cL_law 1322 = .ok (.iconst 3, 1) := by decide +kernel
theorem dL_law_1323 : decode cL_law 1323 = .ok (.iadd, 1) := by decide +kernel
theorem dL_law_1324 : decode cL_law 1324 = .ok (.iaload, 1) := by decide +kernel
theorem dL_law_1325 : decode cL_law 1325 = .ok (.aload_n 0, 1) := by decide +kernel
theorem dL_law_1326 : decode cL_law 1326 = .ok (.iload_n 3, 1) := by decide +kernel
theorem dL_law_1327 : decode cL_law 1327 = .ok (.iconst 4, 1) := by decide +kernel
theorem dL_law_1328 : decode cL_law 1328 = .ok (.iadd, 1) := by decide +kernel
theorem dL_law_1329 : decode cL_law 1329 = .ok (.iaload, 1) := by decide +kernel
theorem dL_law_1330 : decode cL_law 1330 = .ok (.aload_n 0, 1) := by decide +kernel
theorem dL_law_1331 : decode cL_law 1331 = .ok (.iload_n 3, 1) := by decide +kernel
theorem dL_law_1332 : decode cL_law 1332 = .ok (.iconst 5, 1) := by decide +kernel
theorem dL_law_1333 : decode cL_law 1333 = .ok (.iadd, 1) := by decide +kernel
theorem dL_law_1334 : decode cL_law 1334 = .ok (.iaload, 1) := by decide +kernel
theorem dL_law_1335 : decode cL_law 1335 = .ok (.invokevirtual 149, 3) := by decide +kernel
theorem dL_law_1338 : decode cL_law 1338 = .ok (.aload_n 2, 1) := by decide +kernel
theorem dL_law_1339 : decode cL_law 1339 = .ok (.aload_n 0, 1) := by decide +kernel
theorem dL_law_1340 : decode cL_law 1340 = .ok (.iload_n 3, 1) := by decide +kernel
theorem dL_law_1341 : decode cL_law 1341 = .ok (.iconst 1, 1) := by decide +kernel
theorem dL_law_1342 : decode cL_law 1342 = .ok (.iadd, 1) := by decide +kernel
theorem dL_law_1343 : decode cL_law 1343 = .ok (.iaload, 1) := by decide +kernel
theorem dL_law_1344 : decode cL_law 1344 = .ok (.aload_n 0, 1) := by decide +kernel
theorem dL_law_1345 : decode cL_law 1345 = .ok (.iload_n 3, 1) := by decide +kernel
theorem dL_law_1346 : decode cL_law 1346 = .ok (.iconst 2, 1) := by decide +kernel
theorem dL_law_1347 : decode cL_law 1347 = .ok (.iadd, 1) := by decide +kernel
theorem dL_law_1348 : decode cL_law 1348 = .ok (.iaload, 1) := by decide +kernel
theorem dL_law_1349 : decode cL_law 1349 = .ok (.aload_n 0, 1) := by decide +kernel
theorem dL_law_1350 : decode cL_law 1350 = .ok (.iload_n 3, 1) := by decide +kernel
theorem dL_law_1351 : decode cL_law 1351 = .ok (.iconst 3, 1) := by decide +kernel
theorem dL_law_1352 : decode cL_law 1352 = .ok (.iadd, 1) := by decide +kernel
theorem dL_law_1353 : decode cL_law 1353 = .ok (.iaload, 1) := by decide +kernel
theorem dL_law_1354 : decode cL_law 1354 = .ok (.aload_n 0, 1) := by decide +kernel
theorem dL_law_1355 : decode cL_law 1355 = .ok (.iload_n 3, 1) := by decide +kernel
theorem dL_law_1356 : decode cL_law 1356 = .ok (.iconst 4, 1) := by decide +kernel
theorem dL_law_1357 : decode cL_law 1357 = .ok (.iadd, 1) := by decide +kernel
theorem dL_law_1358 : decode cL_law 1358 = .ok (.iaload, 1) := by decide +kernel
theorem dL_law_1359 : decode cL_law 1359 = .ok (.aload_n 0, 1) := by decide +kernel
theorem dL_law_1360 : decode cL_law 1360 = .ok (.iload_n 3, 1) := by decide +kernel
theorem dL_law_1361 : decode cL_law 1361 = .ok (.iconst 5, 1) := by decide +kernel
theorem dL_law_1362 : decode cL_law 1362 = .ok (.iadd, 1) := by decide +kernel
theorem dL_law_1363 : decode cL_law 1363 = .ok (.iaload, 1) := by decide +kernel
theorem dL_law_1364 : decode cL_law 1364 = .ok (.invokevirtual 153, 3) := by decide +kernel
theorem dL_law_1367 : decode cL_law 1367 = .ok (.if_icmp .eq 189, 3) := by decide +kernel
theorem dL_law_1370 : decode cL_law 1370 = .ok (.iconst 0, 1) := by decide +kernel
theorem dL_law_1371 : decode cL_law 1371 = .ok (.ireturn, 1) := by decide +kernel
theorem dL_law_1372 : decode cL_law 1372 = .ok (.aload_n 1, 1) := by decide +kernel
theorem dL_law_1373 : decode cL_law 1373 = .ok (.aload_n 0, 1) := by decide +kernel
theorem dL_law_1374 : decode cL_law 1374 = .ok (.iload_n 3, 1) := by decide +kernel
theorem dL_law_1375 : decode cL_law 1375 = .ok (.iconst 1, 1) := by decide +kernel
theorem dL_law_1376 : decode cL_law 1376 = .ok (.iadd, 1) := by decide +kernel
theorem dL_law_1377 : decode cL_law 1377 = .ok (.iaload, 1) := by decide +kernel
theorem dL_law_1378 : decode cL_law 1378 = .ok (.aload_n 0, 1) := by decide +kernel
theorem dL_law_1379 : decode cL_law 1379 = .ok (.iload_n 3, 1) := by decide +kernel
theorem dL_law_1380 : decode cL_law 1380 = .ok (.iconst 2, 1) := by decide +kernel
theorem dL_law_1381 : decode cL_law 1381 = .ok (.iadd, 1) := by decide +kernel
theorem dL_law_1382 : decode cL_law 1382 = .ok (.iaload, 1) := by decide +kernel
theorem dL_law_1383 : decode cL_law 1383 = .ok (.invokevirtual 154, 3) := by decide +kernel
theorem dL_law_1386 : decode cL_law 1386 = .ok (.aload_n 2, 1) := by decide +kernel
theorem dL_law_1387 : decode cL_law 1387 = .ok (.aload_n 0, 1) := by decide +kernel
theorem dL_law_1388 : decode cL_law 1388 = .ok (.iload_n 3, 1) := by decide +kernel
theorem dL_law_1389 : decode cL_law 1389 = .ok (.iconst 1, 1) := by decide +kernel
theorem dL_law_1390 : decode cL_law 1390 = .ok (.iadd, 1) := by decide +kernel
theorem dL_law_1391 : decode cL_law 1391 = .ok (.iaload, 1) := by decide +kernel
theorem dL_law_1392 : decode cL_law 1392 = .ok (.aload_n 0, 1) := by decide +kernel
theorem dL_law_1393 : decode cL_law 1393 = .ok (.iload_n 3, 1) := by decide +kernel
theorem dL_law_1394 : decode cL_law 1394 = .ok (.iconst 2, 1) := by decide +kernel
theorem dL_law_1395 : decode cL_law 1395 = .ok (.iadd, 1) := by decide +kernel
theorem dL_law_1396 : decode cL_law 1396 = .ok (.iaload, 1) := by decide +kernel
theorem dL_law_1397 : decode cL_law 1397 = .ok (.invokevirtual 157, 3) := by decide +kernel
theorem dL_law_1400 : decode cL_law 1400 = .ok (.if_icmp .eq 156, 3) := by decide +kernel
theorem dL_law_1403 : decode cL_law 1403 = .ok (.iconst 0, 1) := by decide +kernel
theorem dL_law_1404 : decode cL_law 1404 = .ok (.ireturn, 1) := by decide +kernel
theorem dL_law_1405 : decode cL_law 1405 = .ok (.aload_n 1, 1) := by decide +kernel
theorem dL_law_1406 : decode cL_law 1406 = .ok (.aload_n 0, 1) := by decide +kernel
theorem dL_law_1407 : decode cL_law 1407 = .ok (.iload_n 3, 1) := by decide +kernel
theorem dL_law_1408 : decode cL_law 1408 = .ok (.iconst 1, 1) := by decide +kernel
theorem dL_law_1409 : decode cL_law 1409 = .ok (.iadd, 1) := by decide +kernel
theorem dL_law_1410 : decode cL_law 1410 = .ok (.iaload, 1) := by decide +kernel
theorem dL_law_1411 : decode cL_law 1411 = .ok (.aload_n 0, 1) := by decide +kernel
theorem dL_law_1412 : decode cL_law 1412 = .ok (.iload_n 3, 1) := by decide +kernel
theorem dL_law_1413 : decode cL_law 1413 = .ok (.iconst 2, 1) := by decide +kernel
theorem dL_law_1414 : decode cL_law 1414 = .ok (.iadd, 1) := by decide +kernel
theorem dL_law_1415 : decode cL_law 1415 = .ok (.iaload, 1) := by decide +kernel
theorem dL_law_1416 : decode cL_law 1416 = .ok (.invokevirtual 158, 3) := by decide +kernel
theorem dL_law_1419 : decode cL_law 1419 = .ok (.aload_n 2, 1) := by decide +kernel
theorem dL_law_1420 : decode cL_law 1420 = .ok (.aload_n 0, 1) := by decide +kernel
theorem dL_law_1421 : decode cL_law 1421 = .ok (.iload_n 3, 1) := by decide +kernel
theorem dL_law_1422 : decode cL_law 1422 = .ok (.iconst 1, 1) := by decide +kernel
theorem dL_law_1423 : decode cL_law 1423 = .ok (.iadd, 1) := by decide +kernel
theorem dL_law_1424 : decode cL_law 1424 = .ok (.iaload, 1) := by decide +kernel
theorem dL_law_1425 : decode cL_law 1425 = .ok (.aload_n 0, 1) := by decide +kernel
theorem dL_law_1426 : decode cL_law 1426 = .ok (.iload_n 3, 1) := by decide +kernel
theorem dL_law_1427 : decode cL_law 1427 = .ok (.iconst 2, 1) := by decide +kernel
theorem dL_law_1428 : decode cL_law 1428 = .ok (.iadd, 1) := by decide +kernel
theorem dL_law_1429 : decode cL_law 1429 = .ok (.iaload, 1) := by decide +kernel
theorem dL_law_1430 : decode cL_law 1430 = .ok (.invokevirtual 161, 3) := by decide +kernel
theorem dL_law_1433 : decode cL_law 1433 = .ok (.if_icmp .eq 123, 3) := by decide +kernel
theorem dL_law_1436 : decode cL_law 1436 = .ok (.iconst 0, 1) := by decide +kernel
theorem dL_law_1437 : decode cL_law 1437 = .ok (.ireturn, 1) := by decide +kernel
theorem dL_law_1438 : decode cL_law 1438 = .ok (.aload_n 1, 1) := by decide +kernel
theorem dL_law_1439 : decode cL_law 1439 = .ok (.invokevirtual 162, 3) := by decide +kernel
theorem dL_law_1442 : decode cL_law 1442 = .ok (.aload_n 2, 1) := by decide +kernel
theorem dL_law_1443 : decode cL_law 1443 = .ok (.invokevirtual 166, 3) := by decide +kernel
theorem dL_law_1446 : decode cL_law 1446 = .ok (.if_icmp .eq 110, 3) := by decide +kernel
theorem dL_law_1449 : decode cL_law 1449 = .ok (.iconst 0, 1) := by decide +kernel
theorem dL_law_1450 : decode cL_law 1450 = .ok (.ireturn, 1) := by decide +kernel
theorem dL_law_1451 : decode cL_law 1451 = .ok (.aload_n 1, 1) := by decide +kernel
theorem dL_law_1452 : decode cL_law 1452 = .ok (.invokevirtual 167, 3) := by decide +kernel
theorem dL_law_1455 : decode cL_law 1455 = .ok (.aload_n 2, 1) := by decide +kernel
theorem dL_law_1456 : decode cL_law 1456 = .ok (.invokevirtual 170, 3) := by decide +kernel
theorem dL_law_1459 : decode cL_law 1459 = .ok (.if_icmp .eq 97, 3) := by decide +kernel
theorem dL_law_1462 : decode cL_law 1462 = .ok (.iconst 0, 1) := by decide +kernel
theorem dL_law_1463 : decode cL_law 1463 = .ok (.ireturn, 1) := by decide +kernel
theorem dL_law_1464 : decode cL_law 1464 = .ok (.aload_n 1, 1) := by decide +kernel
theorem dL_law_1465 : decode cL_law 1465 = .ok (.aload_n 0, 1) := by decide +kernel
theorem dL_law_1466 : decode cL_law 1466 = .ok (.iload_n 3, 1) := by decide +kernel
theorem dL_law_1467 : decode cL_law 1467 = .ok (.iconst 1, 1) := by decide +kernel
theorem dL_law_1468 : decode cL_law 1468 = .ok (.iadd, 1) := by decide +kernel
theorem dL_law_1469 : decode cL_law 1469 = .ok (.iaload, 1) := by decide +kernel
theorem dL_law_1470 : decode cL_law 1470 = .ok (.invokevirtual 171, 3) := by decide +kernel
theorem dL_law_1473 : decode cL_law 1473 = .ok (.aload_n 2, 1) := by decide +kernel
theorem dL_law_1474 : decode cL_law 1474 = .ok (.aload_n 0, 1) := by decide +kernel
theorem dL_law_1475 : decode cL_law 1475 = .ok (.iload_n 3, 1) := by decide +kernel
theorem dL_law_1476 : decode cL_law 1476 = .ok (.iconst 1, 1) := by decide +kernel
theorem dL_law_1477 : decode cL_law 1477 = .ok (.iadd, 1) := by decide +kernel
theorem dL_law_1478 : decode cL_law 1478 = .ok (.iaload, 1) := by decide +kernel
theorem dL_law_1479 : decode cL_law 1479 = .ok (.invokevirtual 174, 3) := by decide +kernel
theorem dL_law_1482 : decode cL_law 1482 = .ok (.if_icmp .eq 74, 3) := by decide +kernel
theorem dL_law_1485 : decode cL_law 1485 = .ok (.iconst 0, 1) := by decide +kernel
theorem dL_law_1486 : decode cL_law 1486 = .ok (.ireturn, 1) := by decide +kernel
theorem dL_law_1487 : decode cL_law 1487 = .ok (.aload_n 1, 1) := by decide +kernel
theorem dL_law_1488 : decode cL_law 1488 = .ok (.aload_n 0, 1) := by decide +kernel
theorem dL_law_1489 : decode cL_law 1489 = .ok (.iload_n 3, 1) := by decide +kernel
theorem dL_law_1490 : decode cL_law 1490 = .ok (.iconst 1, 1) := by decide +kernel
theorem dL_law_1491 : decode cL_law 1491 = .ok (.iadd, 1) := by decide +kernel
theorem dL_law_1492 : decode cL_law 1492 = .ok (.iaload, 1) := by decide +kernel
theorem dL_law_1493 : decode cL_law 1493 = .ok (.invokevirtual 175, 3) := by decide +kernel
theorem dL_law_1496 : decode cL_law 1496 = .ok (.aload_n 2, 1) := by decide +kernel
theorem dL_law_1497 : decode cL_law 1497 = .ok (.aload_n 0, 1) := by decide +kernel
theorem dL_law_1498 : decode cL_law 1498 = .ok (.iload_n 3, 1) := by decide +kernel
theorem dL_law_1499 : decode cL_law 1499 = .ok (.iconst 1, 1) := by decide +kernel
theorem dL_law_1500 : decode cL_law 1500 = .ok (.iadd, 1) := by decide +kernel
theorem dL_law_1501 : decode cL_law 1501 = .ok (.iaload, 1) := by decide +kernel
theorem dL_law_1502 : decode cL_law 1502 = .ok (.invokevirtual 178, 3) := by decide +kernel
theorem dL_law_1505 : decode cL_law 1505 = .ok (.if_icmp .eq 51, 3) := by decide +kernel
theorem dL_law_1508 : decode cL_law 1508 = .ok (.iconst 0, 1) := by decide +kernel
theorem dL_law_1509 : decode cL_law 1509 = .ok (.ireturn, 1) := by decide +kernel
theorem dL_law_1510 : decode cL_law 1510 = .ok (.aload_n 1, 1) := by decide +kernel
theorem dL_law_1511 : decode cL_law 1511 = .ok (.aload_n 0, 1) := by decide +kernel
theorem dL_law_1512 : decode cL_law 1512 = .ok (.iload_n 3, 1) := by decide +kernel
theorem dL_law_1513 : decode cL_law 1513 = .ok (.iconst 1, 1) := by decide +kernel
theorem dL_law_1514 : decode cL_law 1514 = .ok (.iadd, 1) := by decide +kernel
theorem dL_law_1515 : decode cL_law 1515 = .ok (.iaload, 1) := by decide +kernel
theorem dL_law_1516 : decode cL_law 1516 = .ok (.invokevirtual 179, 3) := by decide +kernel
theorem dL_law_1519 : decode cL_law 1519 = .ok (.aload_n 2, 1) := by decide +kernel
theorem dL_law_1520 : decode cL_law 1520 = .ok (.aload_n 0, 1) := by decide +kernel
theorem dL_law_1521 : decode cL_law 1521 = .ok (.iload_n 3, 1) := by decide +kernel
theorem dL_law_1522 : decode cL_law 1522 = .ok (.iconst 1, 1) := by decide +kernel
theorem dL_law_1523 : decode cL_law 1523 = .ok (.iadd, 1) := by decide +kernel
theorem dL_law_1524 : decode cL_law 1524 = .ok (.iaload, 1) := by decide +kernel
theorem dL_law_1525 : decode cL_law 1525 = .ok (.invokevirtual 182, 3) := by decide +kernel
theorem dL_law_1528 : decode cL_law 1528 = .ok (.if_icmp .eq 28, 3) := by decide +kernel
theorem dL_law_1531 : decode cL_law 1531 = .ok (.iconst 0, 1) := by decide +kernel
theorem dL_law_1532 : decode cL_law 1532 = .ok (.ireturn, 1) := by decide +kernel
theorem dL_law_1533 : decode cL_law 1533 = .ok (.aload_n 1, 1) := by decide +kernel
theorem dL_law_1534 : decode cL_law 1534 = .ok (.aload_n 0, 1) := by decide +kernel
theorem dL_law_1535 : decode cL_law 1535 = .ok (.iload_n 3, 1) := by decide +kernel
theorem dL_law_1536 : decode cL_law 1536 = .ok (.iconst 1, 1) := by decide +kernel
theorem dL_law_1537 : decode cL_law 1537 = .ok (.iadd, 1) := by decide +kernel
theorem dL_law_1538 : decode cL_law 1538 = .ok (.iaload, 1) := by decide +kernel
theorem dL_law_1539 : decode cL_law 1539 = .ok (.invokevirtual 183, 3) := by decide +kernel
theorem dL_law_1542 : decode cL_law 1542 = .ok (.aload_n 2, 1) := by decide +kernel
theorem dL_law_1543 : decode cL_law 1543 = .ok (.aload_n 0, 1) := by decide +kernel
theorem dL_law_1544 : decode cL_law 1544 = .ok (.iload_n 3, 1) := by decide +kernel
theorem dL_law_1545 : decode cL_law 1545 = .ok (.iconst 1, 1) := by decide +kernel
theorem dL_law_1546 : decode cL_law 1546 = .ok (.iadd, 1) := by decide +kernel
theorem dL_law_1547 : decode cL_law 1547 = .ok (.iaload, 1) := by decide +kernel
theorem dL_law_1548 : decode cL_law 1548 = .ok (.invokevirtual 186, 3) := by decide +kernel
theorem dL_law_1551 : decode cL_law 1551 = .ok (.if_icmp .eq 5, 3) := by decide +kernel
theorem dL_law_1554 : decode cL_law 1554 = .ok (.iconst 0, 1) := by decide +kernel
theorem dL_law_1555 : decode cL_law 1555 = .ok (.ireturn, 1) := by decide +kernel
theorem dL_law_1556 : decode cL_law 1556 = .ok (.iinc 3 6, 3) := by decide +kernel
theorem dL_law_1559 : decode cL_law 1559 = .ok (.goto (-1541), 3) := by decide +kernel
theorem dL_law_1562 : decode cL_law 1562 = .ok (.iconst 1, 1) := by decide +kernel
theorem dL_law_1563 : decode cL_law 1563 = .ok (.ireturn, 1) := by decide +kernel
end
section
/-! the walk over a fixed world: all cells of a system stand in a list by their numbers, every method keeps the whole list -/
def bGood : List Cond := lw_tbl.filter goodWord
def bNest : Cond → Bool
  | .fieldLinkNest .. => true
  | .methodLinkNest .. => true
  | _ => false
def bNl : List Cond := lw_tbl.filter bNest
theorem bGoodIn {c : Cond} (hc : goodWord c = true) {c0 : Cond} (h : c ∈ bGood) : GoodIn (c0 :: bGood) (c :: bGood) := by
  intro q hq
  rcases List.mem_cons.mp hq with rfl | h2
  · exact ⟨List.mem_cons_of_mem _ h, good_of_word hc⟩
  · exact ⟨List.mem_cons_of_mem _ h2, good_of_word (List.mem_filter.mp h2).2⟩
abbrev bX : Type := Program × Launch × Env × Room × State × MethodId × Array Value × List Frame × Method × Code
abbrev bS : Type := (Nat ⊕ (Nat × Nat × (Nat → Option Nat))) ⊕ (Nat × Nat × (Nat → Option Nat))
abbrev bw : Type := va_G × (Nat → ClassId) × (Nat → Nat) × (Nat → bS) × Nat
abbrev bSt : Type := Nat → Nat → Int32
def b_ad (w : bw) : Nat → Nat := w.2.2.1
def b_sh (w : bw) : Nat → bS := w.2.2.2.1
def b_K (w : bw) : Nat := w.2.2.2.2
def b_ty (w : bw) : List (ClassId × FieldType) := [(w.2.1 0, .int), (w.2.1 1, .object "LagoonOpera$Sheet"), (w.2.1 2, .array .int), (w.2.1 3, .object "java/lang/String")]
def b_val (w : bw) (r : Nat → Option Nat) (f : Nat → Int32) (k : Nat) : Value := match r k with
  | none => .int (f k)
  | some j => .ref (b_ad w j)
def b_vals (w : bw) (N : Nat) (r : Nat → Option Nat) (f : Nat → Int32) : List Value := (List.range N).map (b_val w r f)
def b_ref (w : bw) (r : Nat → Option Nat) : Nat → Option Nat := fun i => (r i).map (b_ad w)
def b_of (w : bw) (f : Nat → Int32) : bS → va_E
  | .inl (.inl n) => .inl (w.2.1 0, n, .inl f)
  | .inl (.inr (t, n, r)) => .inl (w.2.1 t, n, .inr (.inr (.inr (.inr (b_ref w r)))))
  | .inr (ci, N, r) => .inr (ci, b_vals w N r f)
def b_cell (w : bw) (j : Nat) (f : Nat → Int32) : va_E := b_of w f (b_sh w j)
def b_wl (w : bw) (σ : bSt) : va_W := (List.range (b_K w)).map (fun j => (b_ad w j, b_cell w j (σ j)))
def b_set (σ : bSt) (j : Nat) (f : Nat → Int32) : bSt := fun a => if a = j then f else σ a
def b_up (σ : bSt) (j k : Nat) (v : Int32) : bSt := b_set σ j (upd (σ j) k v)
theorem b_set_s {σ : bSt} {j : Nat} {f : Nat → Int32} : b_set σ j f j = f := if_pos rfl
theorem b_set_n {σ : bSt} {j a : Nat} {f : Nat → Int32} (h : a ≠ j) : b_set σ j f a = σ a := if_neg h
theorem b_up_s {σ : bSt} {j k : Nat} {v : Int32} : b_up σ j k v j = upd (σ j) k v := if_pos rfl
theorem b_up_n {σ : bSt} {j a k : Nat} {v : Int32} (h : a ≠ j) : b_up σ j k v a = σ a := if_neg h
def b_A (w : bw) : Nat → Prop := fun q => ∃ j, j < b_K w ∧ q = b_ad w j
def b_inj (w : bw) : Prop := ∀ i j, i < b_K w → j < b_K w → b_ad w i = b_ad w j → i = j
theorem b_wl_get {w : bw} {σ : bSt} {j : Nat} (hj : j < b_K w) : (b_wl w σ)[j]? = some (b_ad w j, b_cell w j (σ j)) := by
  unfold b_wl
  rw [List.getElem?_map, List.getElem?_range hj]
  rfl
theorem b_wl_inv {w : bw} {σ : bSt} {j : Nat} {q : Nat × va_E} (h : (b_wl w σ)[j]? = some q) : j < b_K w ∧ q = (b_ad w j, b_cell w j (σ j)) := by
  have hj : j < b_K w := by
    have := (List.getElem?_eq_some_iff.mp h).1
    simpa [b_wl] using this
  exact ⟨hj, Option.some.inj (h.symm.trans (b_wl_get hj))⟩
theorem b_wl_set {w : bw} {σ : bSt} {j : Nat} {f : Nat → Int32} : (b_wl w σ).set j (b_ad w j, b_cell w j f) = b_wl w (b_set σ j f) := by
  apply List.ext_getElem?
  intro k
  by_cases hk : k < b_K w
  · rw [b_wl_get hk]
    by_cases e : k = j
    · subst e
      rw [List.getElem?_set_self (by simpa [b_wl] using hk), b_set_s]
    · rw [List.getElem?_set_ne (Ne.symm e), b_wl_get hk, b_set_n e]
  · rw [List.getElem?_eq_none (by simpa [b_wl] using hk), List.getElem?_eq_none (by simpa [b_wl] using hk)]
theorem b_wl_D {w : bw} {σ : bSt} (hi : b_inj w) : va_D (b_A w) (b_wl w σ) := by
  refine ⟨fun i j p q h1 h2 h3 => ?_, fun k q h => ?_⟩
  · obtain ⟨a1, rfl⟩ := b_wl_inv h1
    obtain ⟨a2, rfl⟩ := b_wl_inv h2
    exact hi i j a1 a2 h3
  · obtain ⟨a1, rfl⟩ := b_wl_inv h
    exact ⟨k, a1, rfl⟩
def b_tKA : Nat → Int32 := fun j => [(-1 : Int32), 0, 0, 0, 1, 2, 3].getD j 0
def b_tBO : Nat → Int32 := fun j => [(10 : Int32), 11, 12, 13, 0, 20, 0, 0, 30, 0, 0, 0, 0, 0, 40, 0, 0, 50, 0, 0, 0, 0, 0, 60, 0, 0, 70, 71].getD j 0
def b_tNA : Nat → Int32 := fun j => [(100 : Int32), 115, 116, 110, 105, 116].getD j 0
/-- what is never written: statics, static rows, texts -/
def b_stat (w : bw) (U : State) : Prop :=
  va_Z "LagoonOpera" "KIND_ABOVE" "[I" (.ref (b_ad w 1000)) (b_A w) U U.heap ∧ va_T .int (b_ad w 1000) 7 (fun j => .int (b_tKA j)) (b_A w) U U.heap ∧
  va_Z "LagoonOpera$Voices" "BODIES" "[I" (.ref (b_ad w 1001)) (b_A w) U U.heap ∧ va_T .int (b_ad w 1001) 28 (fun j => .int (b_tBO j)) (b_A w) U U.heap ∧
  va_Z "LagoonOpera$Reader" "NAMES" "[C" (.ref (b_ad w 1002)) (b_A w) U U.heap ∧ va_T .char (b_ad w 1002) 6 (fun j => .int (b_tNA j)) (b_A w) U U.heap ∧
  va_Z "java/lang/String" "COMPACT_STRINGS" "Z" (.int 1) (b_A w) U U.heap ∧ va_Zq "jdk/internal/util/Preconditions" "SIOOBE_FORMATTER" "Ljava/util/function/BiFunction;" (b_A w) U U.heap ∧
  vk_S 2 [3, 3] [[100, 115, 116], [110, 105, 116]] (fun i => b_ad w (1010 + i)) (fun i => b_ad w (1020 + i)) (b_A w) U U.heap
def b_EV (w : bw) (U : State) : Prop := va_K w.1 vwCl (b_ty w) U ∧ (∀ q ∈ bNl, va_Nw q U) ∧ b_inj w ∧ b_stat w U
theorem b_stat_mv {w : bw} {s U : State} (hvm : s.vm.Alike U.vm) (hq : ∀ a : Nat, a < s.heap.size → ¬ b_A w a → U.heap[a]? = s.heap[a]?) (h : b_stat w s) : b_stat w U := by
  obtain ⟨h1, h2, h3, h4, h5, h6, h7, h8, h9⟩ := h
  exact ⟨(h1.kept hq).moved hvm, (h2.kept hq).moved hvm, (h3.kept hq).moved hvm, (h4.kept hq).moved hvm, (h5.kept hq).moved hvm, (h6.kept hq).moved hvm, (h7.kept hq).moved hvm, (h8.kept hq).moved hvm, (h9.kept hq).moved hvm⟩
theorem b_nest_mv {s U : State} (hW : s.WarmedH U.vm) {q : Cond} (hq : bNest q = true) (h : va_Nw q s) : va_Nw q U := by
  cases q <;> first | exact va_Nw.warmF hW h | exact va_Nw.warmM hW h | exact absurd hq (by simp [bNest])
theorem b_EV_mv {w : bw} {s U : State} (hW : s.WarmedH U.vm) (hq : ∀ a : Nat, a < s.heap.size → ¬ b_A w a → U.heap[a]? = s.heap[a]?) (h : b_EV w s) : b_EV w U := by
  obtain ⟨h1, h2, h3, h4⟩ := h
  exact ⟨va_K.moved hW.alike h1, fun q hq => b_nest_mv hW (List.mem_filter.mp hq).2 (h2 q hq), h3, b_stat_mv hW.alike hq h4⟩
theorem b_EV_call {w : bw} {U : State} {g : JFrame} {mk : MethodId} {a : Array Value} (h : b_EV w U) : b_EV w (U.calling g mk a) := by
  obtain ⟨h1, h2, h3, h4⟩ := h
  exact ⟨va_K.moved (u := U) (U := U.calling g mk a) (Vm.Alike.refl U.vm) h1, fun q hq => va_Nw.same (u := U) (U := U.calling g mk a) (by
    have hb := (List.mem_filter.mp hq).2
    cases q <;> first | rfl | exact absurd hb (by simp [bNest])) rfl (h2 q hq), h3, b_stat_mv (s := U) (U := U.calling g mk a) (Vm.Alike.refl U.vm) (fun _ _ _ => rfl) h4⟩
/-- a method's start and end over the whole world -/
def PV (w : bw) (av : List Value) (σ : bSt) : Array Value → State → Prop := va_Pc av (fun U => va_P w.1 vwCl (b_wl w σ) U.heap ∧ b_EV w U)
def QV (w : bw) (post : Option Value → bSt → Prop) : Array Value → State → Outcome → State → Prop := fun _ st oc t => (∃ (v : Option Value) (σ' : bSt), oc = .returned v ∧ post v σ' ∧ va_P w.1 vwCl (b_wl w σ') t.heap) ∧ va_F (b_A w) st t
def MV (y : MethodName) (cc : ByteArray) (nL : Nat) (ret : Option FieldType) (rm : Room) (w : bw) (av : List Value) (σ : bSt) (post : Option Value → bSt → Prop) : Prop :=
  ∀ l : Launch, Met l y (Cond.code y cc nL ret :: bGood) rm (PV w av σ) (QV w post) 0 0 (b_A w)
theorem PV_blind {w : bw} {av : List Value} {σ : bSt} : FrameBlind (PV w av σ) := fun a U g mk h => ⟨h.1, h.2.1, b_EV_call h.2.2⟩
abbrev rmm (f lo : Nat) : Room := { frames := f, cells := 0, slots := 0, locals := lo }
/-- what holds all the while a method runs -/
def Cx (x : bX) (w : bw) (cc : ByteArray) (own : String) (nL : Nat) (ret : Option FieldType) (rm : Room) : Prop :=
  x.1.tables.exec = Jvm.exec ∧ x.2.2.2.2.2.2.2.2.2.code = cc ∧ x.2.2.2.2.2.2.2.2.1.sig.returnType = ret ∧ (∃ c0 : Cond, ∀ q ∈ c0 :: bGood, q.before x.2.2.2.2.2.2.1 x.2.2.2.2.1 = true) ∧ x.2.2.2.2.1.vm.findClass own = some x.2.2.2.2.2.1.cls ∧ x.2.2.2.2.2.2.2.2.2.maxLocals = nL ∧ x.2.2.2.2.2.2.2.2.1.locks = false ∧ x.2.2.2.1 = rm ∧ b_EV w x.2.2.2.2.1
def V (x : bX) (w : bw) (nL : Nat) (post : Option Value → bSt → Prop) (pc : Nat) (ls : List (Nat × Value)) (st : List Value) (σ : bSt) : Prop :=
  ∀ (H : Heap) (locs : List Loc) (a : Array Slot), va_P w.1 vwCl (b_wl w σ) H → va_S (b_A w) x.2.2.2.2.1.heap H locs → lv_has a nL ls →
    W x.1 x.2.1 x.2.2.1 x.2.2.2.1 x.2.2.2.2.1 x.2.2.2.2.2.1 x.2.2.2.2.2.2.1 x.2.2.2.2.2.2.2.1 x.2.2.2.2.2.2.2.2.1 x.2.2.2.2.2.2.2.2.2 H locs 0 0 (MQ x.2.2.2.2.2.2.2.1 (QV w post) x.2.2.2.2.2.2.1 x.2.2.2.2.1 0 0 (b_A w)) (F0 x.2.2.2.2.2.1 pc a st)
theorem b_met {y : MethodName} {cc : ByteArray} {nL : Nat} {ret : Option FieldType} {rm : Room} {w : bw} {av : List Value} {σ : bSt} {post : Option Value → bSt → Prop} {ls : List (Nat × Value)} (hy : plainName y.cls = true) (hlen : (lg_sl av).length ≤ nL) (hls : lv_args 0 av = ls)
    (body : ∀ x : bX, Cx x w cc y.cls nL ret rm → V x w nL post 0 ls [] σ) : MV y cc nL ret rm w av σ post := by
  intro l
  refine Met.ofW (cc := cc) (maxL := nL) (ret := ret) hy rfl ?_
  intro p e s m args below meth c s₁ B hml hv
  obtain ⟨rfl, hP, hE⟩ := hv
  have hts := atoms_spec (ws := Cond.code y cc nL ret :: bGood) B.pre
  have hown : s.vm.findClass y.cls = some m.cls := findClass_of_methodNamed B.named
  have hl := lv_entry av (n := nL) hlen
  rw [lg_entry_eq]
  subst hls
  have key := body (p, l, e, rm, s, m, av.toArray, below, meth, c) ⟨B.exec, B.bytes, B.returns, ⟨_, hts⟩, hown, hml, B.notSynchronized, rfl, hE⟩
  exact key s.heap [] _ hP va_S.rf hl
section BV
variable {x : bX} {w : bw} {cc : ByteArray} {own : String} {nL : Nat} {ret : Option FieldType} {rm : Room} {post : Option Value → bSt → Prop} {pc q : Nat} {ls : List (Nat × Value)} {st : List Value} {σ : bSt}
theorem v_iconst (h : Cx x w cc own nL ret rm) {n : Int} {v : Int32} (hd : decode cc pc = .ok (.iconst n, 1)) (e : pc + 1 = q) (hv : Int32.ofInt n = v) (k : V x w nL post q ls (.int v :: st) σ) : V x w nL post pc ls (st) σ := by
  subst e
  exact fun H lo a hP hS hL => lv_iconst h.1 h.2.1 hd hv (k H lo a hP hS hL)
theorem v_bipush (h : Cx x w cc own nL ret rm) {n : Int} {v : Int32} (hd : decode cc pc = .ok (.bipush n, 2)) (e : pc + 2 = q) (hv : (Int8.ofInt n).toInt32 = v) (k : V x w nL post q ls (.int v :: st) σ) : V x w nL post pc ls (st) σ := by
  subst e
  exact fun H lo a hP hS hL => lv_bipush h.1 h.2.1 hd hv (k H lo a hP hS hL)
theorem v_sipush (h : Cx x w cc own nL ret rm) {n : Int} {v : Int32} (hd : decode cc pc = .ok (.sipush n, 3)) (e : pc + 3 = q) (hv : (Int16.ofInt n).toInt32 = v) (k : V x w nL post q ls (.int v :: st) σ) : V x w nL post pc ls (st) σ := by
  subst e
  exact fun H lo a hP hS hL => lv_sipush h.1 h.2.1 hd hv (k H lo a hP hS hL)
theorem v_lconst (h : Cx x w cc own nL ret rm) {n : Fin 2} {v : Int64} (hd : decode cc pc = .ok (.lconst n, 1)) (e : pc + 1 = q) (hv : Int64.ofNat (n : Nat) = v) (k : V x w nL post q ls (.long v :: st) σ) : V x w nL post pc ls (st) σ := by
  subst e
  exact fun H lo a hP hS hL => lv_lconst h.1 h.2.1 hd hv (k H lo a hP hS hL)
theorem v_iload_n (h : Cx x w cc own nL ret rm) {k : Fin 4} {i : Nat} {v : Int32} (hd : decode cc pc = .ok (.iload_n k, 1)) (e : pc + 1 = q) (hi : (k : Nat) = i) (p : Nat) (hl : ls[p]? = some (i, .int v)) (kk : V x w nL post q ls (.int v :: st) σ) : V x w nL post pc ls st σ := by
  subst e
  exact fun H lo a hP hS hL => lv_iload_n h.1 h.2.1 hd hi (lv_at hL p hl) (kk H lo a hP hS hL)
theorem v_iload (h : Cx x w cc own nL ret rm) {i : Nat} {v : Int32} (hd : decode cc pc = .ok (.iload i, 2)) (e : pc + 2 = q) (p : Nat) (hl : ls[p]? = some (i, .int v)) (kk : V x w nL post q ls (.int v :: st) σ) : V x w nL post pc ls st σ := by
  subst e
  exact fun H lo a hP hS hL => lv_iload h.1 h.2.1 hd (lv_at hL p hl) (kk H lo a hP hS hL)
theorem v_lload_n (h : Cx x w cc own nL ret rm) {k : Fin 4} {i : Nat} {v : Int64} (hd : decode cc pc = .ok (.lload_n k, 1)) (e : pc + 1 = q) (hi : (k : Nat) = i) (p : Nat) (hl : ls[p]? = some (i, .long v)) (kk : V x w nL post q ls (.long v :: st) σ) : V x w nL post pc ls st σ := by
  subst e
  exact fun H lo a hP hS hL => lv_lload_n h.1 h.2.1 hd hi (lv_at hL p hl) (kk H lo a hP hS hL)
theorem v_lload (h : Cx x w cc own nL ret rm) {i : Nat} {v : Int64} (hd : decode cc pc = .ok (.lload i, 2)) (e : pc + 2 = q) (p : Nat) (hl : ls[p]? = some (i, .long v)) (kk : V x w nL post q ls (.long v :: st) σ) : V x w nL post pc ls st σ := by
  subst e
  exact fun H lo a hP hS hL => lv_lload h.1 h.2.1 hd (lv_at hL p hl) (kk H lo a hP hS hL)
theorem v_aload_n (h : Cx x w cc own nL ret rm) {k : Fin 4} {i : Nat} {v : Nat} (hd : decode cc pc = .ok (.aload_n k, 1)) (e : pc + 1 = q) (hi : (k : Nat) = i) (p : Nat) (hl : ls[p]? = some (i, .ref v)) (kk : V x w nL post q ls (.ref v :: st) σ) : V x w nL post pc ls st σ := by
  subst e
  exact fun H lo a hP hS hL => lv_aload_n h.1 h.2.1 hd hi (lv_at hL p hl) (kk H lo a hP hS hL)
theorem v_aload (h : Cx x w cc own nL ret rm) {i : Nat} {v : Nat} (hd : decode cc pc = .ok (.aload i, 2)) (e : pc + 2 = q) (p : Nat) (hl : ls[p]? = some (i, .ref v)) (kk : V x w nL post q ls (.ref v :: st) σ) : V x w nL post pc ls st σ := by
  subst e
  exact fun H lo a hP hS hL => lv_aload h.1 h.2.1 hd (lv_at hL p hl) (kk H lo a hP hS hL)
theorem v_istore_n (h : Cx x w cc own nL ret rm) {k : Fin 4} {i : Nat} {v : Int32} {ls1 : List (Nat × Value)} (hd : decode cc pc = .ok (.istore_n k, 1)) (e : pc + 1 = q) (hi : (k : Nat) = i) (hn : i < nL) (hl : (i, Value.int v) :: ls.filter (fun q => !(q.1 == i) && !(q.1 + 1 == i && q.2.category == 2)) = ls1) (kk : V x w nL post q ls1 st σ) : V x w nL post pc ls (.int v :: st) σ := by
  subst e
  exact fun H lo a hP hS hL => lv_istore_n h.1 h.2.1 hd hi hL hn hl (fun a2 hL2 => kk H lo a2 hP hS hL2)
theorem v_istore (h : Cx x w cc own nL ret rm) {i : Nat} {v : Int32} {ls1 : List (Nat × Value)} (hd : decode cc pc = .ok (.istore i, 2)) (e : pc + 2 = q) (hn : i < nL) (hl : (i, Value.int v) :: ls.filter (fun q => !(q.1 == i) && !(q.1 + 1 == i && q.2.category == 2)) = ls1) (kk : V x w nL post q ls1 st σ) : V x w nL post pc ls (.int v :: st) σ := by
  subst e
  exact fun H lo a hP hS hL => lv_istore h.1 h.2.1 hd hL hn hl (fun a2 hL2 => kk H lo a2 hP hS hL2)
theorem v_astore_n (h : Cx x w cc own nL ret rm) {k : Fin 4} {i : Nat} {v : Nat} {ls1 : List (Nat × Value)} (hd : decode cc pc = .ok (.astore_n k, 1)) (e : pc + 1 = q) (hi : (k : Nat) = i) (hn : i < nL) (hl : (i, Value.ref v) :: ls.filter (fun q => !(q.1 == i) && !(q.1 + 1 == i && q.2.category == 2)) = ls1) (kk : V x w nL post q ls1 st σ) : V x w nL post pc ls (.ref v :: st) σ := by
  subst e
  exact fun H lo a hP hS hL => lv_astore_n h.1 h.2.1 hd hi hL hn hl (fun a2 hL2 => kk H lo a2 hP hS hL2)
theorem v_astore (h : Cx x w cc own nL ret rm) {i : Nat} {v : Nat} {ls1 : List (Nat × Value)} (hd : decode cc pc = .ok (.astore i, 2)) (e : pc + 2 = q) (hn : i < nL) (hl : (i, Value.ref v) :: ls.filter (fun q => !(q.1 == i) && !(q.1 + 1 == i && q.2.category == 2)) = ls1) (kk : V x w nL post q ls1 st σ) : V x w nL post pc ls (.ref v :: st) σ := by
  subst e
  exact fun H lo a hP hS hL => lv_astore h.1 h.2.1 hd hL hn hl (fun a2 hL2 => kk H lo a2 hP hS hL2)
theorem v_lstore_n (h : Cx x w cc own nL ret rm) {k : Fin 4} {i : Nat} {v : Int64} {ls1 : List (Nat × Value)} (hd : decode cc pc = .ok (.lstore_n k, 1)) (e : pc + 1 = q) (hi : (k : Nat) = i) (hn : i + 1 < nL) (hl : (i, Value.long v) :: ls.filter (fun q => !(q.1 == i) && (!(q.1 == i + 1) && !(q.1 + 1 == i && q.2.category == 2))) = ls1) (kk : V x w nL post q ls1 st σ) : V x w nL post pc ls (.long v :: st) σ := by
  subst e
  exact fun H lo a hP hS hL => lv_lstore_n h.1 h.2.1 hd hi hL hn hl (fun a2 hL2 => kk H lo a2 hP hS hL2)
theorem v_lstore (h : Cx x w cc own nL ret rm) {i : Nat} {v : Int64} {ls1 : List (Nat × Value)} (hd : decode cc pc = .ok (.lstore i, 2)) (e : pc + 2 = q) (hn : i + 1 < nL) (hl : (i, Value.long v) :: ls.filter (fun q => !(q.1 == i) && (!(q.1 == i + 1) && !(q.1 + 1 == i && q.2.category == 2))) = ls1) (kk : V x w nL post q ls1 st σ) : V x w nL post pc ls (.long v :: st) σ := by
  subst e
  exact fun H lo a hP hS hL => lv_lstore h.1 h.2.1 hd hL hn hl (fun a2 hL2 => kk H lo a2 hP hS hL2)
theorem v_iinc (h : Cx x w cc own nL ret rm) {i p : Nat} {n : Int} {v u : Int32} {ls1 : List (Nat × Value)} (hd : decode cc pc = .ok (.iinc i n, 3)) (e : pc + 3 = q) (hk : ls[p]? = some (i, .int v)) (hv : v + Int32.ofInt n = u) (hn : i < nL) (hl : (i, Value.int u) :: ls.filter (fun q => !(q.1 == i) && !(q.1 + 1 == i && q.2.category == 2)) = ls1) (kk : V x w nL post q ls1 st σ) : V x w nL post pc ls st σ := by
  subst e
  exact fun H lo a hP hS hL => lv_iinc h.1 h.2.1 hd hL hk hv hn hl (fun a2 hL2 => kk H lo a2 hP hS hL2)
theorem v_iadd (h : Cx x w cc own nL ret rm) {a b : Int32} (hd : decode cc pc = .ok (.iadd, 1)) (e : pc + 1 = q)  (k : V x w nL post q ls (.int (a + b) :: st) σ) : V x w nL post pc ls (.int b :: .int a :: st) σ := by
  subst e
  exact fun H lo a hP hS hL => lv_iadd h.1 h.2.1 hd  (k H lo a hP hS hL)
theorem v_isub (h : Cx x w cc own nL ret rm) {a b : Int32} (hd : decode cc pc = .ok (.isub, 1)) (e : pc + 1 = q)  (k : V x w nL post q ls (.int (a - b) :: st) σ) : V x w nL post pc ls (.int b :: .int a :: st) σ := by
  subst e
  exact fun H lo a hP hS hL => lv_isub h.1 h.2.1 hd  (k H lo a hP hS hL)
theorem v_imul (h : Cx x w cc own nL ret rm) {a b : Int32} (hd : decode cc pc = .ok (.imul, 1)) (e : pc + 1 = q)  (k : V x w nL post q ls (.int (a * b) :: st) σ) : V x w nL post pc ls (.int b :: .int a :: st) σ := by
  subst e
  exact fun H lo a hP hS hL => lv_imul h.1 h.2.1 hd  (k H lo a hP hS hL)
theorem v_iand (h : Cx x w cc own nL ret rm) {a b : Int32} (hd : decode cc pc = .ok (.iand, 1)) (e : pc + 1 = q)  (k : V x w nL post q ls (.int (a &&& b) :: st) σ) : V x w nL post pc ls (.int b :: .int a :: st) σ := by
  subst e
  exact fun H lo a hP hS hL => lv_iand h.1 h.2.1 hd  (k H lo a hP hS hL)
theorem v_ior (h : Cx x w cc own nL ret rm) {a b : Int32} (hd : decode cc pc = .ok (.ior, 1)) (e : pc + 1 = q)  (k : V x w nL post q ls (.int (a ||| b) :: st) σ) : V x w nL post pc ls (.int b :: .int a :: st) σ := by
  subst e
  exact fun H lo a hP hS hL => lv_ior h.1 h.2.1 hd  (k H lo a hP hS hL)
theorem v_ixor (h : Cx x w cc own nL ret rm) {a b : Int32} (hd : decode cc pc = .ok (.ixor, 1)) (e : pc + 1 = q)  (k : V x w nL post q ls (.int (a ^^^ b) :: st) σ) : V x w nL post pc ls (.int b :: .int a :: st) σ := by
  subst e
  exact fun H lo a hP hS hL => lv_ixor h.1 h.2.1 hd  (k H lo a hP hS hL)
theorem v_ishl (h : Cx x w cc own nL ret rm) {a b : Int32} (hd : decode cc pc = .ok (.ishl, 1)) (e : pc + 1 = q)  (k : V x w nL post q ls (.int (a <<< (b &&& 31)) :: st) σ) : V x w nL post pc ls (.int b :: .int a :: st) σ := by
  subst e
  exact fun H lo a hP hS hL => lv_ishl h.1 h.2.1 hd  (k H lo a hP hS hL)
theorem v_ishr (h : Cx x w cc own nL ret rm) {a b : Int32} (hd : decode cc pc = .ok (.ishr, 1)) (e : pc + 1 = q)  (k : V x w nL post q ls (.int (a >>> (b &&& 31)) :: st) σ) : V x w nL post pc ls (.int b :: .int a :: st) σ := by
  subst e
  exact fun H lo a hP hS hL => lv_ishr h.1 h.2.1 hd  (k H lo a hP hS hL)
theorem v_iushr (h : Cx x w cc own nL ret rm) {a b v : Int32} (hd : decode cc pc = .ok (.iushr, 1)) (e : pc + 1 = q) (hv : (a.toUInt32 >>> (b.toUInt32 &&& 31)).toInt32 = v) (k : V x w nL post q ls (.int v :: st) σ) : V x w nL post pc ls (.int b :: .int a :: st) σ := by
  subst e
  exact fun H lo a hP hS hL => lv_iushr h.1 h.2.1 hd hv (k H lo a hP hS hL)
theorem v_idiv (h : Cx x w cc own nL ret rm) {a b : Int32} (hd : decode cc pc = .ok (.idiv, 1)) (e : pc + 1 = q) (hne : ¬ b = 0) (k : V x w nL post q ls (.int (a / b) :: st) σ) : V x w nL post pc ls (.int b :: .int a :: st) σ := by
  subst e
  exact fun H lo a hP hS hL => lv_idiv h.1 h.2.1 hd hne (k H lo a hP hS hL)
theorem v_irem (h : Cx x w cc own nL ret rm) {a b : Int32} (hd : decode cc pc = .ok (.irem, 1)) (e : pc + 1 = q) (hne : ¬ b = 0) (k : V x w nL post q ls (.int (a - a / b * b) :: st) σ) : V x w nL post pc ls (.int b :: .int a :: st) σ := by
  subst e
  exact fun H lo a hP hS hL => lv_irem h.1 h.2.1 hd hne (k H lo a hP hS hL)
theorem v_ineg (h : Cx x w cc own nL ret rm) {a : Int32} (hd : decode cc pc = .ok (.ineg, 1)) (e : pc + 1 = q)  (k : V x w nL post q ls (.int (-a) :: st) σ) : V x w nL post pc ls (.int a :: st) σ := by
  subst e
  exact fun H lo a hP hS hL => lv_ineg h.1 h.2.1 hd  (k H lo a hP hS hL)
theorem v_ladd (h : Cx x w cc own nL ret rm) {a b : Int64} (hd : decode cc pc = .ok (.ladd, 1)) (e : pc + 1 = q)  (k : V x w nL post q ls (.long (a + b) :: st) σ) : V x w nL post pc ls (.long b :: .long a :: st) σ := by
  subst e
  exact fun H lo a hP hS hL => lv_ladd h.1 h.2.1 hd  (k H lo a hP hS hL)
theorem v_land (h : Cx x w cc own nL ret rm) {a b : Int64} (hd : decode cc pc = .ok (.land, 1)) (e : pc + 1 = q)  (k : V x w nL post q ls (.long (a &&& b) :: st) σ) : V x w nL post pc ls (.long b :: .long a :: st) σ := by
  subst e
  exact fun H lo a hP hS hL => lv_land h.1 h.2.1 hd  (k H lo a hP hS hL)
theorem v_lor (h : Cx x w cc own nL ret rm) {a b : Int64} (hd : decode cc pc = .ok (.lor, 1)) (e : pc + 1 = q)  (k : V x w nL post q ls (.long (a ||| b) :: st) σ) : V x w nL post pc ls (.long b :: .long a :: st) σ := by
  subst e
  exact fun H lo a hP hS hL => lv_lor h.1 h.2.1 hd  (k H lo a hP hS hL)
theorem v_lshl (h : Cx x w cc own nL ret rm) {a v : Int64} {b : Int32} (hd : decode cc pc = .ok (.lshl, 1)) (e : pc + 1 = q) (hv : a <<< (b.toInt64 &&& 63) = v) (k : V x w nL post q ls (.long v :: st) σ) : V x w nL post pc ls (.int b :: .long a :: st) σ := by
  subst e
  exact fun H lo a hP hS hL => lv_lshl h.1 h.2.1 hd hv (k H lo a hP hS hL)
theorem v_lshr (h : Cx x w cc own nL ret rm) {a v : Int64} {b : Int32} (hd : decode cc pc = .ok (.lshr, 1)) (e : pc + 1 = q) (hv : a >>> (b.toInt64 &&& 63) = v) (k : V x w nL post q ls (.long v :: st) σ) : V x w nL post pc ls (.int b :: .long a :: st) σ := by
  subst e
  exact fun H lo a hP hS hL => lv_lshr h.1 h.2.1 hd hv (k H lo a hP hS hL)
theorem v_lushr (h : Cx x w cc own nL ret rm) {a v : Int64} {b : Int32} (hd : decode cc pc = .ok (.lushr, 1)) (e : pc + 1 = q) (hv : (a.toUInt64 >>> (b.toInt64.toUInt64 &&& Int64.toUInt64 63)).toInt64 = v) (k : V x w nL post q ls (.long v :: st) σ) : V x w nL post pc ls (.int b :: .long a :: st) σ := by
  subst e
  exact fun H lo a hP hS hL => lv_lushr h.1 h.2.1 hd hv (k H lo a hP hS hL)
theorem v_i2l (h : Cx x w cc own nL ret rm) {a : Int32} {v : Int64} (hd : decode cc pc = .ok (.i2l, 1)) (e : pc + 1 = q) (hv : a.toInt64 = v) (k : V x w nL post q ls (.long v :: st) σ) : V x w nL post pc ls (.int a :: st) σ := by
  subst e
  exact fun H lo a hP hS hL => lv_i2l h.1 h.2.1 hd hv (k H lo a hP hS hL)
theorem v_l2i (h : Cx x w cc own nL ret rm) {a : Int64} {v : Int32} (hd : decode cc pc = .ok (.l2i, 1)) (e : pc + 1 = q) (hv : a.toInt32 = v) (k : V x w nL post q ls (.int v :: st) σ) : V x w nL post pc ls (.long a :: st) σ := by
  subst e
  exact fun H lo a hP hS hL => lv_l2i h.1 h.2.1 hd hv (k H lo a hP hS hL)
theorem v_i2b (h : Cx x w cc own nL ret rm) {a v : Int32} (hd : decode cc pc = .ok (.i2b, 1)) (e : pc + 1 = q) (hv : a.toInt8.toInt32 = v) (k : V x w nL post q ls (.int v :: st) σ) : V x w nL post pc ls (.int a :: st) σ := by
  subst e
  exact fun H lo a hP hS hL => lv_i2b h.1 h.2.1 hd hv (k H lo a hP hS hL)
theorem v_i2s (h : Cx x w cc own nL ret rm) {a v : Int32} (hd : decode cc pc = .ok (.i2s, 1)) (e : pc + 1 = q) (hv : a.toInt16.toInt32 = v) (k : V x w nL post q ls (.int v :: st) σ) : V x w nL post pc ls (.int a :: st) σ := by
  subst e
  exact fun H lo a hP hS hL => lv_i2s h.1 h.2.1 hd hv (k H lo a hP hS hL)
theorem v_lcmp (h : Cx x w cc own nL ret rm) {a b : Int64} (hd : decode cc pc = .ok (.lcmp, 1)) (e : pc + 1 = q)  (k : V x w nL post q ls (.int (lg_cmp a b) :: st) σ) : V x w nL post pc ls (.long b :: .long a :: st) σ := by
  subst e
  exact fun H lo a hP hS hL => W.lcmp h.1 h.2.1 hd  (k H lo a hP hS hL)
theorem v_dup (h : Cx x w cc own nL ret rm) {v : Value} (hd : decode cc pc = .ok (.dup, 1)) (e : pc + 1 = q) (hc : v.category = 1) (k : V x w nL post q ls (v :: v :: st) σ) : V x w nL post pc ls (v :: st) σ := by
  subst e
  exact fun H lo a hP hS hL => lv_dup h.1 h.2.1 hd hc (k H lo a hP hS hL)
theorem v_dup2 (h : Cx x w cc own nL ret rm) {v u : Value} (hd : decode cc pc = .ok (.dup2, 1)) (e : pc + 1 = q) (hc : v.category = 1) (hc2 : u.category = 1) (k : V x w nL post q ls (v :: u :: v :: u :: st) σ) : V x w nL post pc ls (v :: u :: st) σ := by
  subst e
  exact fun H lo a hP hS hL => lv_dup2_11 h.1 h.2.1 hd hc hc2 (k H lo a hP hS hL)
theorem v_pop (h : Cx x w cc own nL ret rm) {v : Value} (hd : decode cc pc = .ok (.pop, 1)) (e : pc + 1 = q) (hc : v.category = 1) (k : V x w nL post q ls (st) σ) : V x w nL post pc ls (v :: st) σ := by
  subst e
  exact fun H lo a hP hS hL => lv_pop h.1 h.2.1 hd hc (k H lo a hP hS hL)
theorem v_null (h : Cx x w cc own nL ret rm)  (hd : decode cc pc = .ok (.aconst_null, 1)) (e : pc + 1 = q)  (k : V x w nL post q ls (.null :: st) σ) : V x w nL post pc ls (st) σ := by
  subst e
  exact fun H lo a hP hS hL => lv_null h.1 h.2.1 hd  (k H lo a hP hS hL)
theorem v_if_eq (h : Cx x w cc own nL ret rm) {a : Int32} {off : Int} {t : Nat} (hd : decode cc pc = .ok (.ifCond .eq off, 3)) (ht : (pc : Int) + off = (t : Int)) (e : pc + 3 = q) (kt : a = 0 → V x w nL post t ls st σ) (kf : ¬ a = 0 → V x w nL post q ls st σ) : V x w nL post pc ls (.int a :: st) σ := by
  subst e
  exact fun H lo a hP hS hL => lv_if_eq h.1 h.2.1 hd ht (fun c => kt c H lo a hP hS hL) (fun c => kf c H lo a hP hS hL)
theorem v_icmp_eq (h : Cx x w cc own nL ret rm) {a b : Int32} {off : Int} {t : Nat} (hd : decode cc pc = .ok (.if_icmp .eq off, 3)) (ht : (pc : Int) + off = (t : Int)) (e : pc + 3 = q) (kt : a = b → V x w nL post t ls st σ) (kf : ¬ a = b → V x w nL post q ls st σ) : V x w nL post pc ls (.int b :: .int a :: st) σ := by
  subst e
  exact fun H lo a hP hS hL => lv_icmp_eq h.1 h.2.1 hd ht (fun c => kt c H lo a hP hS hL) (fun c => kf c H lo a hP hS hL)
theorem v_if_ne (h : Cx x w cc own nL ret rm) {a : Int32} {off : Int} {t : Nat} (hd : decode cc pc = .ok (.ifCond .ne off, 3)) (ht : (pc : Int) + off = (t : Int)) (e : pc + 3 = q) (kt : ¬ a = 0 → V x w nL post t ls st σ) (kf : a = 0 → V x w nL post q ls st σ) : V x w nL post pc ls (.int a :: st) σ := by
  subst e
  exact fun H lo a hP hS hL => lv_if_ne h.1 h.2.1 hd ht (fun c => kt c H lo a hP hS hL) (fun c => kf c H lo a hP hS hL)
theorem v_icmp_ne (h : Cx x w cc own nL ret rm) {a b : Int32} {off : Int} {t : Nat} (hd : decode cc pc = .ok (.if_icmp .ne off, 3)) (ht : (pc : Int) + off = (t : Int)) (e : pc + 3 = q) (kt : ¬ a = b → V x w nL post t ls st σ) (kf : a = b → V x w nL post q ls st σ) : V x w nL post pc ls (.int b :: .int a :: st) σ := by
  subst e
  exact fun H lo a hP hS hL => lv_icmp_ne h.1 h.2.1 hd ht (fun c => kt c H lo a hP hS hL) (fun c => kf c H lo a hP hS hL)
theorem v_if_lt (h : Cx x w cc own nL ret rm) {a : Int32} {off : Int} {t : Nat} (hd : decode cc pc = .ok (.ifCond .lt off, 3)) (ht : (pc : Int) + off = (t : Int)) (e : pc + 3 = q) (kt : a < 0 → V x w nL post t ls st σ) (kf : ¬ a < 0 → V x w nL post q ls st σ) : V x w nL post pc ls (.int a :: st) σ := by
  subst e
  exact fun H lo a hP hS hL => lv_if_lt h.1 h.2.1 hd ht (fun c => kt c H lo a hP hS hL) (fun c => kf c H lo a hP hS hL)
theorem v_icmp_lt (h : Cx x w cc own nL ret rm) {a b : Int32} {off : Int} {t : Nat} (hd : decode cc pc = .ok (.if_icmp .lt off, 3)) (ht : (pc : Int) + off = (t : Int)) (e : pc + 3 = q) (kt : a < b → V x w nL post t ls st σ) (kf : ¬ a < b → V x w nL post q ls st σ) : V x w nL post pc ls (.int b :: .int a :: st) σ := by
  subst e
  exact fun H lo a hP hS hL => lv_icmp_lt h.1 h.2.1 hd ht (fun c => kt c H lo a hP hS hL) (fun c => kf c H lo a hP hS hL)
theorem v_if_ge (h : Cx x w cc own nL ret rm) {a : Int32} {off : Int} {t : Nat} (hd : decode cc pc = .ok (.ifCond .ge off, 3)) (ht : (pc : Int) + off = (t : Int)) (e : pc + 3 = q) (kt : 0 ≤ a → V x w nL post t ls st σ) (kf : ¬ 0 ≤ a → V x w nL post q ls st σ) : V x w nL post pc ls (.int a :: st) σ := by
  subst e
  exact fun H lo a hP hS hL => lv_if_ge h.1 h.2.1 hd ht (fun c => kt c H lo a hP hS hL) (fun c => kf c H lo a hP hS hL)
theorem v_icmp_ge (h : Cx x w cc own nL ret rm) {a b : Int32} {off : Int} {t : Nat} (hd : decode cc pc = .ok (.if_icmp .ge off, 3)) (ht : (pc : Int) + off = (t : Int)) (e : pc + 3 = q) (kt : b ≤ a → V x w nL post t ls st σ) (kf : ¬ b ≤ a → V x w nL post q ls st σ) : V x w nL post pc ls (.int b :: .int a :: st) σ := by
  subst e
  exact fun H lo a hP hS hL => lv_icmp_ge h.1 h.2.1 hd ht (fun c => kt c H lo a hP hS hL) (fun c => kf c H lo a hP hS hL)
theorem v_if_gt (h : Cx x w cc own nL ret rm) {a : Int32} {off : Int} {t : Nat} (hd : decode cc pc = .ok (.ifCond .gt off, 3)) (ht : (pc : Int) + off = (t : Int)) (e : pc + 3 = q) (kt : 0 < a → V x w nL post t ls st σ) (kf : ¬ 0 < a → V x w nL post q ls st σ) : V x w nL post pc ls (.int a :: st) σ := by
  subst e
  exact fun H lo a hP hS hL => lv_if_gt h.1 h.2.1 hd ht (fun c => kt c H lo a hP hS hL) (fun c => kf c H lo a hP hS hL)
theorem v_icmp_gt (h : Cx x w cc own nL ret rm) {a b : Int32} {off : Int} {t : Nat} (hd : decode cc pc = .ok (.if_icmp .gt off, 3)) (ht : (pc : Int) + off = (t : Int)) (e : pc + 3 = q) (kt : b < a → V x w nL post t ls st σ) (kf : ¬ b < a → V x w nL post q ls st σ) : V x w nL post pc ls (.int b :: .int a :: st) σ := by
  subst e
  exact fun H lo a hP hS hL => lv_icmp_gt h.1 h.2.1 hd ht (fun c => kt c H lo a hP hS hL) (fun c => kf c H lo a hP hS hL)
theorem v_if_le (h : Cx x w cc own nL ret rm) {a : Int32} {off : Int} {t : Nat} (hd : decode cc pc = .ok (.ifCond .le off, 3)) (ht : (pc : Int) + off = (t : Int)) (e : pc + 3 = q) (kt : a ≤ 0 → V x w nL post t ls st σ) (kf : ¬ a ≤ 0 → V x w nL post q ls st σ) : V x w nL post pc ls (.int a :: st) σ := by
  subst e
  exact fun H lo a hP hS hL => lv_if_le h.1 h.2.1 hd ht (fun c => kt c H lo a hP hS hL) (fun c => kf c H lo a hP hS hL)
theorem v_icmp_le (h : Cx x w cc own nL ret rm) {a b : Int32} {off : Int} {t : Nat} (hd : decode cc pc = .ok (.if_icmp .le off, 3)) (ht : (pc : Int) + off = (t : Int)) (e : pc + 3 = q) (kt : a ≤ b → V x w nL post t ls st σ) (kf : ¬ a ≤ b → V x w nL post q ls st σ) : V x w nL post pc ls (.int b :: .int a :: st) σ := by
  subst e
  exact fun H lo a hP hS hL => lv_icmp_le h.1 h.2.1 hd ht (fun c => kt c H lo a hP hS hL) (fun c => kf c H lo a hP hS hL)
theorem v_goto (h : Cx x w cc own nL ret rm) {off : Int} {t : Nat} (hd : decode cc pc = .ok (.goto off, 3)) (ht : (pc : Int) + off = (t : Int)) (k : V x w nL post t ls st σ) : V x w nL post pc ls st σ := fun H lo a hP hS hL => lv_goto h.1 h.2.1 hd ht (k H lo a hP hS hL)
theorem v_ifnullR (h : Cx x w cc own nL ret rm) {v : Nat} {off : Int} (hd : decode cc pc = .ok (.ifnull off, 3)) (e : pc + 3 = q) (k : V x w nL post q ls st σ) : V x w nL post pc ls (.ref v :: st) σ := by
  subst e
  exact fun H lo a hP hS hL => lv_ifnull h.1 h.2.1 hd (k H lo a hP hS hL)
theorem v_ifnullN (h : Cx x w cc own nL ret rm) {off : Int} {t : Nat} (hd : decode cc pc = .ok (.ifnull off, 3)) (ht : (pc : Int) + off = (t : Int)) (k : V x w nL post t ls st σ) : V x w nL post pc ls (.null :: st) σ := fun H lo a hP hS hL => lv_ifnullN h.1 h.2.1 hd ht (k H lo a hP hS hL)
theorem v_ifnonnullR (h : Cx x w cc own nL ret rm) {v : Nat} {off : Int} {t : Nat} (hd : decode cc pc = .ok (.ifnonnull off, 3)) (ht : (pc : Int) + off = (t : Int)) (k : V x w nL post t ls st σ) : V x w nL post pc ls (.ref v :: st) σ := fun H lo a hP hS hL => lv_ifnonnull h.1 h.2.1 hd ht (k H lo a hP hS hL)
theorem v_ifnonnullN (h : Cx x w cc own nL ret rm) {off : Int} (hd : decode cc pc = .ok (.ifnonnull off, 3)) (e : pc + 3 = q) (k : V x w nL post q ls st σ) : V x w nL post pc ls (.null :: st) σ := by
  subst e
  exact fun H lo a hP hS hL => lv_ifnonnullN h.1 h.2.1 hd (k H lo a hP hS hL)
theorem v_aload_nN (h : Cx x w cc own nL ret rm) {k : Fin 4} {i : Nat} (hd : decode cc pc = .ok (.aload_n k, 1)) (e : pc + 1 = q) (hi : (k : Nat) = i) (p : Nat) (hl : ls[p]? = some (i, .null)) (kk : V x w nL post q ls (.null :: st) σ) : V x w nL post pc ls st σ := by
  subst e
  exact fun H lo a hP hS hL => lv_aload_nN h.1 h.2.1 hd hi (lv_at hL p hl) (kk H lo a hP hS hL)
theorem v_aloadN (h : Cx x w cc own nL ret rm) {i : Nat} (hd : decode cc pc = .ok (.aload i, 2)) (e : pc + 2 = q) (p : Nat) (hl : ls[p]? = some (i, .null)) (kk : V x w nL post q ls (.null :: st) σ) : V x w nL post pc ls st σ := by
  subst e
  exact fun H lo a hP hS hL => lv_aloadN h.1 h.2.1 hd (lv_at hL p hl) (kk H lo a hP hS hL)
theorem v_astore_nN (h : Cx x w cc own nL ret rm) {k : Fin 4} {i : Nat} {ls1 : List (Nat × Value)} (hd : decode cc pc = .ok (.astore_n k, 1)) (e : pc + 1 = q) (hi : (k : Nat) = i) (hn : i < nL) (hl : (i, Value.null) :: ls.filter (fun q => !(q.1 == i) && !(q.1 + 1 == i && q.2.category == 2)) = ls1) (kk : V x w nL post q ls1 st σ) : V x w nL post pc ls (.null :: st) σ := by
  subst e
  exact fun H lo a hP hS hL => lv_astore_nN h.1 h.2.1 hd hi hL hn hl (fun a2 hL2 => kk H lo a2 hP hS hL2)
theorem v_astoreN (h : Cx x w cc own nL ret rm) {i : Nat} {ls1 : List (Nat × Value)} (hd : decode cc pc = .ok (.astore i, 2)) (e : pc + 2 = q) (hn : i < nL) (hl : (i, Value.null) :: ls.filter (fun q => !(q.1 == i) && !(q.1 + 1 == i && q.2.category == 2)) = ls1) (kk : V x w nL post q ls1 st σ) : V x w nL post pc ls (.null :: st) σ := by
  subst e
  exact fun H lo a hP hS hL => lv_astoreN h.1 h.2.1 hd hL hn hl (fun a2 hL2 => kk H lo a2 hP hS hL2)
theorem v_lookup (h : Cx x w cc own nL ret rm) {dflt : Int} {ps : Array (Int × Int)} {len : Nat} {a : Int32} {off : Int} {t : Nat} (hd : decode cc pc = .ok (.lookupswitch dflt ps, len)) (hp : (ps.toList.zip (ps.toList.drop 1)).all (fun (a, next) => a.1 < next.1) = true) (ho : Op.lookupswitch.offset ps.toList dflt a.toInt = off) (ht : (pc : Int) + off = (t : Int)) (k : V x w nL post t ls st σ) : V x w nL post pc ls (.int a :: st) σ :=
  fun H lo a hP hS hL => lv_lookup h.1 h.2.1 hd hp ho ht (k H lo a hP hS hL)
theorem v_tableOut (h : Cx x w cc own nL ret rm) {dflt lo hi : Int} {offs : Array Int} {len : Nat} {a : Int32} {t : Nat} (hd : decode cc pc = .ok (.tableswitch dflt lo hi offs, len)) (ho : a.toInt < lo ∨ hi < a.toInt) (ht : (pc : Int) + dflt = (t : Int)) (k : V x w nL post t ls st σ) : V x w nL post pc ls (.int a :: st) σ :=
  fun H lo a hP hS hL => lv_tableOut h.1 h.2.1 hd ho ht (k H lo a hP hS hL)
theorem v_tableIn (h : Cx x w cc own nL ret rm) {dflt lo hi : Int} {offs : Array Int} {len : Nat} {a : Int32} {off : Int} {t : Nat} (hd : decode cc pc = .ok (.tableswitch dflt lo hi offs, len)) (h1 : ¬ a.toInt < lo) (h2 : ¬ hi < a.toInt) (ho : offs[(a.toInt - lo).toNat]? = some off) (ht : (pc : Int) + off = (t : Int)) (k : V x w nL post t ls st σ) : V x w nL post pc ls (.int a :: st) σ :=
  fun H lo a hP hS hL => lv_tableIn h.1 h.2.1 hd h1 h2 ho ht (k H lo a hP hS hL)
theorem Cx.ok (h : Cx x w cc own nL ret rm) {c : Cond} (hc : c ∈ bGood) : c.before x.2.2.2.2.2.2.1 x.2.2.2.2.1 = true := by
  obtain ⟨c0, hts⟩ := h.2.2.2.1
  exact hts c (List.mem_cons_of_mem _ hc)
theorem Cx.ow (h : Cx x w cc own nL ret rm) : x.2.2.2.2.1.vm.findClass own = some x.2.2.2.2.2.1.cls := h.2.2.2.2.1
theorem Cx.ev (h : Cx x w cc own nL ret rm) : b_EV w x.2.2.2.2.1 := h.2.2.2.2.2.2.2.2
theorem Cx.ml (h : Cx x w cc own nL ret rm) : x.2.2.2.2.2.2.2.2.2.maxLocals = nL := h.2.2.2.2.2.1
theorem Cx.rmq (h : Cx x w cc own nL ret rm) : x.2.2.2.1 = rm := h.2.2.2.2.2.2.2.1
theorem Cx.nest (h : Cx x w cc own nL ret rm) {c : Cond} (hc : c ∈ bNl) : va_Nw c x.2.2.2.2.1 := h.ev.2.1 c hc
theorem v_ldc (h : Cx x w cc own nL ret rm) {index : Nat} {v : Int32} (hw : Jvm.Cond.constant own index v ∈ bGood) (hd : decode cc pc = .ok (.ldc index, 2)) (e : pc + 2 = q) (k : V x w nL post q ls (.int v :: st) σ) : V x w nL post pc ls st σ := by
  subst e
  exact fun H lo a hP hS hL => lv_ldc h.1 h.2.1 h.ow (h.ok hw) hd (k H lo a hP hS hL)
theorem v_ldcw (h : Cx x w cc own nL ret rm) {index : Nat} {v : Int32} (hw : Jvm.Cond.constant own index v ∈ bGood) (hd : decode cc pc = .ok (.ldc_w index, 3)) (e : pc + 3 = q) (k : V x w nL post q ls (.int v :: st) σ) : V x w nL post pc ls st σ := by
  subst e
  exact fun H lo a hP hS hL => lv_ldcw h.1 h.2.1 h.ow (h.ok hw) hd (k H lo a hP hS hL)
theorem v_ldc2 (h : Cx x w cc own nL ret rm) {index : Nat} {v : Int64} (hw : Jvm.Cond.constantLong own index v ∈ bGood) (hd : decode cc pc = .ok (.ldc2_w index, 3)) (e : pc + 3 = q) (k : V x w nL post q ls (.long v :: st) σ) : V x w nL post pc ls st σ := by
  subst e
  exact fun H lo a hP hS hL => lv_ldc2 h.1 h.2.1 h.ow (h.ok hw) hd (k H lo a hP hS hL)
/-- the ends -/
theorem v_zret {ty0 : FieldType} (h : Cx x w cc own nL (some ty0) rm) {v : Int32} (hn : narrow ty0 (.int v) = .int v) (hd : decode cc pc = .ok (.ireturn, 1)) (hp : post (some (.int v)) σ) : V x w nL post pc ls [.int v] σ :=
  fun H lo a hP hS hL => W.zret h.1 h.2.1 h.2.2.1 hn (fun t ht hW => ⟨⟨some (.int v), σ, rfl, hp, by rw [ht]; exact hP⟩, hS.F ht⟩) hS.2.2 hd h.2.2.2.2.2.2.1
theorem v_iret (h : Cx x w cc own nL (some .int) rm) {v : Int32} (hd : decode cc pc = .ok (.ireturn, 1)) (hp : post (some (.int v)) σ) : V x w nL post pc ls [.int v] σ := v_zret h rfl hd hp
theorem v_vret (h : Cx x w cc own nL none rm) (hd : decode cc pc = .ok (.return_, 1)) (hp : post none σ) : V x w nL post pc ls [] σ :=
  fun H lo a hP hS hL => W.vret h.1 h.2.1 h.2.2.1 (fun t ht hW => ⟨⟨none, σ, rfl, hp, by rw [ht]; exact hP⟩, hS.F ht⟩) hS.2.2 hd h.2.2.2.2.2.2.1
theorem v_lret (h : Cx x w cc own nL (some .long) rm) {v : Int64} (hd : decode cc pc = .ok (.lreturn, 1)) (hp : post (some (.long v)) σ) : V x w nL post pc ls [.long v] σ :=
  fun H lo a hP hS hL => W.lret h.1 h.2.1 h.2.2.1 (fun t ht hW => ⟨⟨some (.long v), σ, rfl, hp, by rw [ht]; exact hP⟩, hS.F ht⟩) hS.2.2 hd h.2.2.2.2.2.2.1
theorem v_aret {rt : FieldType} (h : Cx x w cc own nL (some rt) rm) {v : Value} (hrt : (∃ n, rt = .object n) ∨ ∃ t, rt = .array t) (hv : v = .null ∨ ∃ a, v = .ref a) (hd : decode cc pc = .ok (.areturn, 1)) (hp : post (some v) σ) : V x w nL post pc ls [v] σ :=
  fun H lo a hP hS hL => W.aret h.1 h.2.1 h.2.2.1 hrt hv (fun t ht hW => ⟨⟨some v, σ, rfl, hp, by rw [ht]; exact hP⟩, hS.F ht⟩) hS.2.2 hd h.2.2.2.2.2.2.1
/-- fields: a class by its place in vwCl -/
def b_cls (ci : Nat) (C : String) (T : u_T) (N : Nat) (ty : Nat → FieldType) : Prop := (∀ q ∈ u_ws C T N, q ∈ bGood) ∧ vwCl[ci]? = some (C, T, N) ∧ (∀ k, k < N → parseFieldDescriptor (T k).2.2.1 = some (ty k)) ∧ (∀ a, a < N → ∀ b, b < N → a ≠ b → (T a).2.1 ≠ (T b).2.1)
theorem b_cell_o {w : bw} {j ci N : Nat} {r : Nat → Option Nat} {f : Nat → Int32} (h : b_sh w j = .inr (ci, N, r)) : b_cell w j f = .inr (ci, b_vals w N r f) := by
  unfold b_cell; rw [h]; rfl
theorem b_cell_i {w : bw} {j n : Nat} {f : Nat → Int32} (h : b_sh w j = .inl (.inl n)) : b_cell w j f = .inl (w.2.1 0, n, .inl f) := by
  unfold b_cell; rw [h]; rfl
theorem b_cell_r {w : bw} {j t n : Nat} {r : Nat → Option Nat} {f : Nat → Int32} (h : b_sh w j = .inl (.inr (t, n, r))) : b_cell w j f = .inl (w.2.1 t, n, .inr (.inr (.inr (.inr (b_ref w r))))) := by
  unfold b_cell; rw [h]; rfl
theorem b_vals_get {w : bw} {N : Nat} {r : Nat → Option Nat} {f : Nat → Int32} {k : Nat} (hk : k < N) : (b_vals w N r f)[k]? = some (b_val w r f k) := by
  unfold b_vals; rw [List.getElem?_map, List.getElem?_range hk]; rfl
theorem b_vals_set {w : bw} {N : Nat} {r : Nat → Option Nat} {f : Nat → Int32} {k : Nat} {v : Int32} (hr : r k = none) : (b_vals w N r f).set k (.int v) = b_vals w N r (upd f k v) := by
  apply List.ext_getElem?
  intro i
  by_cases hi : i < N
  · by_cases e : i = k
    · subst e
      rw [List.getElem?_set_self (by simpa [b_vals] using hi), b_vals_get hi]
      simp [b_val, hr, upd]
    · rw [List.getElem?_set_ne (Ne.symm e), b_vals_get hi, b_vals_get hi]
      unfold b_val
      cases r i <;> simp [upd, e]
  · rw [List.getElem?_eq_none (by simpa [b_vals] using hi), List.getElem?_eq_none (by simpa [b_vals] using hi)]
theorem v_get (h : Cx x w cc own nL ret rm) {C : String} {T : u_T} {N ci j k index : Nat} {ty : Nat → FieldType} {r : Nat → Option Nat} {v : Value} (hc : b_cls ci C T N ty) (hj : j < b_K w) (hsh : b_sh w j = .inr (ci, N, r)) (hk : k < N) (hl : Cond.fieldLink own index (T k).1 (T k).2.1 (T k).2.2.1 ∈ bGood) (hv : b_val w r (σ j) k = v) (hd : decode cc pc = .ok (.getfield index, 3)) (e : pc + 3 = q)
    (kk : V x w nL post q ls (v :: st) σ) : V x w nL post pc ls (.ref (b_ad w j) :: st) σ := by
  subst e
  obtain ⟨c0, hts⟩ := h.2.2.2.1
  exact fun H lo a hP hS hL => va_get (Ts := c0 :: bGood) h.1 h.2.1 hts (fun q hq => List.mem_cons_of_mem _ (hc.1 q hq)) h.ow h.ev.1 hP j (by rw [b_wl_get hj, b_cell_o hsh]) hc.2.1 k hk (h.ok hl) (fun _ h9 => h9) (by rw [b_vals_get hk, hv]) hd (kk H lo a hP hS hL)
theorem v_getN (h : Cx x w cc own nL ret rm) {C host : String} {T : u_T} {N ci j k index : Nat} {ty : Nat → FieldType} {r : Nat → Option Nat} {v : Value} (hc : b_cls ci C T N ty) (hj : j < b_K w) (hsh : b_sh w j = .inr (ci, N, r)) (hk : k < N) (hl : Cond.fieldLinkNest own index (T k).1 (T k).2.1 (T k).2.2.1 host ∈ bNl) (hv : b_val w r (σ j) k = v) (hd : decode cc pc = .ok (.getfield index, 3)) (e : pc + 3 = q)
    (kk : V x w nL post q ls (v :: st) σ) : V x w nL post pc ls (.ref (b_ad w j) :: st) σ := by
  subst e
  obtain ⟨c0, hts⟩ := h.2.2.2.1
  exact fun H lo a hP hS hL => va_getN (Ts := c0 :: bGood) h.1 h.2.1 hts (fun q hq => List.mem_cons_of_mem _ (hc.1 q hq)) h.ow h.ev.1 hP j (by rw [b_wl_get hj, b_cell_o hsh]) hc.2.1 k hk (va_Nw.use rfl (h.nest hl)) (fun _ h9 => h9) (by rw [b_vals_get hk, hv]) hd (kk H lo a hP hS hL)
theorem b_put_w {w : bw} {σ : bSt} {j k ci N : Nat} {r : Nat → Option Nat} {v : Int32} (hsh : b_sh w j = .inr (ci, N, r)) (hr : r k = none) : (b_wl w σ).set j (b_ad w j, .inr (ci, (b_vals w N r (σ j)).set k (.int v))) = b_wl w (b_up σ j k v) := by
  rw [b_vals_set hr, ← b_cell_o hsh, b_wl_set]; rfl
theorem v_put (h : Cx x w cc own nL ret rm) {C : String} {T : u_T} {N ci j k index : Nat} {ty : Nat → FieldType} {r : Nat → Option Nat} {v : Int32} (hc : b_cls ci C T N ty) (hj : j < b_K w) (hsh : b_sh w j = .inr (ci, N, r)) (hk : k < N) (hr : r k = none) (hl : Cond.fieldLink own index (T k).1 (T k).2.1 (T k).2.2.1 ∈ bGood) (hf : (T k).2.2.2 = false) (hn : narrow (ty k) (.int v) = .int v ∧ fits (ty k) (.int v) = true) (hd : decode cc pc = .ok (.putfield index, 3)) (e : pc + 3 = q)
    (kk : V x w nL post q ls st (b_up σ j k v)) : V x w nL post pc ls (.int v :: .ref (b_ad w j) :: st) σ := by
  subst e
  obtain ⟨c0, hts⟩ := h.2.2.2.1
  exact fun H lo a hP hS hL => va_put (Ts := c0 :: bGood) h.1 h.2.1 hts (fun q hq => List.mem_cons_of_mem _ (hc.1 q hq)) ty hc.2.2.1 hc.2.2.2 h.ow h.ev.1 hP (b_wl_D h.ev.2.2.1) hS j (by rw [b_wl_get hj, b_cell_o hsh]) hc.2.1 k hk (h.ok hl) (fun _ h9 => h9) hf (hc.2.2.1 k hk) hn.1 hn.2 (by simpa [b_vals] using hk) hd (fun H1 lo1 hP1 _ hS1 => kk H1 lo1 a (by rw [← b_put_w hsh hr]; exact hP1) hS1 hL)
theorem v_putN (h : Cx x w cc own nL ret rm) {C host : String} {T : u_T} {N ci j k index : Nat} {ty : Nat → FieldType} {r : Nat → Option Nat} {v : Int32} (hc : b_cls ci C T N ty) (hj : j < b_K w) (hsh : b_sh w j = .inr (ci, N, r)) (hk : k < N) (hr : r k = none) (hl : Cond.fieldLinkNest own index (T k).1 (T k).2.1 (T k).2.2.1 host ∈ bNl) (hf : (T k).2.2.2 = false) (hn : narrow (ty k) (.int v) = .int v ∧ fits (ty k) (.int v) = true) (hd : decode cc pc = .ok (.putfield index, 3)) (e : pc + 3 = q)
    (kk : V x w nL post q ls st (b_up σ j k v)) : V x w nL post pc ls (.int v :: .ref (b_ad w j) :: st) σ := by
  subst e
  obtain ⟨c0, hts⟩ := h.2.2.2.1
  exact fun H lo a hP hS hL => va_putN (Ts := c0 :: bGood) h.1 h.2.1 hts (fun q hq => List.mem_cons_of_mem _ (hc.1 q hq)) ty hc.2.2.1 hc.2.2.2 h.ow h.ev.1 hP (b_wl_D h.ev.2.2.1) hS j (by rw [b_wl_get hj, b_cell_o hsh]) hc.2.1 k hk (va_Nw.use rfl (h.nest hl)) (fun _ h9 => h9) hf (hc.2.2.1 k hk) hn.1 hn.2 (by simpa [b_vals] using hk) hd (fun H1 lo1 hP1 _ hS1 => kk H1 lo1 a (by rw [← b_put_w hsh hr]; exact hP1) hS1 hL)
theorem v_iald (h : Cx x w cc own nL ret rm) {j n k : Nat} {i : Int32} (hj : j < b_K w) (hsh : b_sh w j = .inl (.inl n)) (hin : vp_in i n) (hk : i.toNatClampNeg = k) (hd : decode cc pc = .ok (.iaload, 1)) (e : pc + 1 = q)
    (kk : V x w nL post q ls (.int (σ j k) :: st) σ) : V x w nL post pc ls (.int i :: .ref (b_ad w j) :: st) σ := by
  subst e
  subst hk
  exact fun H lo a hP hS hL => va_iald h.1 h.2.1 h.ev.1 hP j 0 (by rw [b_wl_get hj, b_cell_i hsh]) rfl hin hd (kk H lo a hP hS hL)
theorem v_iast (h : Cx x w cc own nL ret rm) {j n k : Nat} {i v : Int32} (hj : j < b_K w) (hsh : b_sh w j = .inl (.inl n)) (hin : vp_in i n) (hk : i.toNatClampNeg = k) (hd : decode cc pc = .ok (.iastore, 1)) (e : pc + 1 = q)
    (kk : V x w nL post q ls st (b_up σ j k v)) : V x w nL post pc ls (.int v :: .int i :: .ref (b_ad w j) :: st) σ := by
  subst e
  subst hk
  exact fun H lo a hP hS hL => va_iast h.1 h.2.1 h.ev.1 hP (b_wl_D h.ev.2.2.1) hS j 0 (by rw [b_wl_get hj, b_cell_i hsh]) rfl hin hd (fun H1 lo1 hP1 _ hS1 => kk H1 lo1 a (by unfold b_up; rw [← b_wl_set, b_cell_i hsh]; exact hP1) hS1 hL)
theorem v_aald (h : Cx x w cc own nL ret rm) {j t n j2 : Nat} {r : Nat → Option Nat} {ty : FieldType} {cA : ClassId} {i : Int32} (hj : j < b_K w) (hsh : b_sh w j = .inl (.inr (t, n, r))) (ht : (b_ty w)[t]? = some (w.2.1 t, ty)) (hty : ty.isReference = true) (hin : vp_in i n) (hr : r i.toNatClampNeg = some j2) (hd : decode cc pc = .ok (.aaload, 1)) (e : pc + 1 = q)
    (kk : V x w nL post q ls (.ref (b_ad w j2) :: st) σ) : V x w nL post pc ls (.int i :: .ref (b_ad w j) :: st) σ := by
  subst e
  have hlt : i.toNatClampNeg < n := Nat.not_le.mp fun q => hin (Or.inr q)
  exact fun H lo a hP hS hL => W.aald (v := .ref (b_ad w j2)) (ty := ty) h.1 h.2.1 (show H[b_ad w j]? = some (vp_cell (w.2.1 t) (n, .inr (.inr (.inr (.inr (b_ref w r)))))) from hP j (b_ad w j, .inl (w.2.1 t, n, .inr (.inr (.inr (.inr (b_ref w r)))))) (by rw [b_wl_get hj, b_cell_r hsh])) ((h.ev.1.2 t _ ht).1 n (fun k => va_rf (b_ref w r k))) hty (fun q => by cases q) (by show ¬ (i < 0 ∨ (arrV _ _ _).slots.size ≤ _); rw [arrV_size]; exact hin) (by show (arrV _ _ _).slots[_]? = _; rw [arrV_read _ _ hlt]; simp [b_ref, hr, va_rf]) rfl rfl hd (kk H lo a hP hS hL)
theorem v_aleni (h : Cx x w cc own nL ret rm) {j n : Nat} {v : Int32} (hj : j < b_K w) (hsh : b_sh w j = .inl (.inl n)) (hv : Int32.ofNat n = v) (hd : decode cc pc = .ok (.arraylength, 1)) (e : pc + 1 = q)
    (kk : V x w nL post q ls (.int v :: st) σ) : V x w nL post pc ls (.ref (b_ad w j) :: st) σ := by
  subst e
  exact fun H lo a hP hS hL => va_alen h.1 h.2.1 h.ev.1 hP j 0 (by rw [b_wl_get hj, b_cell_i hsh]) rfl hv hd (kk H lo a hP hS hL)
theorem v_alenr (h : Cx x w cc own nL ret rm) {j t n : Nat} {r : Nat → Option Nat} {ty : FieldType} {v : Int32} (hj : j < b_K w) (hsh : b_sh w j = .inl (.inr (t, n, r))) (ht : (b_ty w)[t]? = some (w.2.1 t, ty)) (hv : Int32.ofNat n = v) (hd : decode cc pc = .ok (.arraylength, 1)) (e : pc + 1 = q)
    (kk : V x w nL post q ls (.int v :: st) σ) : V x w nL post pc ls (.ref (b_ad w j) :: st) σ := by
  subst e
  exact fun H lo a hP hS hL => va_alen h.1 h.2.1 h.ev.1 hP j t (by rw [b_wl_get hj, b_cell_r hsh]) ht hv hd (kk H lo a hP hS hL)
/-- what a method owes to its callers: the words of it -/
def b_Cal (y : MethodName) (bytes : ByteArray) (maxL : Nat) (ret : Option FieldType) (n : Nat) : Prop := Cond.code y bytes maxL ret ∈ bGood ∧ Cond.initialized y.cls ∈ bGood ∧ (y.cls ≠ "java/lang/invoke/MethodHandle" ∧ y.cls ≠ "java/lang/invoke/VarHandle" ∧ (parseMethodDescriptor y.desc).map (fun d => d.parameters.length) = some n)
def b_CalV (y : MethodName) : Prop := Cond.instanceMethod y ∈ bGood ∧ Cond.selects y.cls y y ∈ bGood
def b_fit (rm' : Room) (maxL : Nat) (rm : Room) : Prop := rm'.cells = 0 ∧ rm'.slots = 0 ∧ rm'.frames + 1 ≤ rm.frames ∧ 8 + (maxL + 11) + rm'.locals ≤ rm.locals
theorem b_goes {p : Program} {l : Launch} {e : Env} {R : Room} {s : State} {m : MethodId} {args : Array Value} {below : List Frame} {meth : Method} {c : Code} {H : Heap} {locs : List Loc} {w : bw} {a : Array Slot} {aa : Array Value} {st0 rest : List Value} {pc nL : Nat} {post' : Option Value → bSt → Prop} {Q : State → Prop} {ls : List (Nat × Value)}
    (hr : va_Run p l e R s m args below meth c H locs 0 0 0 0 (F0 m pc a st0) rest (QV w post' aa) (b_A w)) (hS : va_S (b_A w) s.heap H locs) (hL : lv_has a nL ls)
    (kk : ∀ (v : Option Value) (σ' : bSt), post' v σ' → ∀ (H : Heap) (locs : List Loc) (a : Array Slot), va_P w.1 vwCl (b_wl w σ') H → va_S (b_A w) s.heap H locs → lv_has a nL ls → W p l e R s m args below meth c H locs 0 0 Q (F0 m (pc + 3) a (v.toList ++ rest))) : W p l e R s m args below meth c H locs 0 0 Q (F0 m pc a st0) := by
  intro T hT X
  obtain ⟨v, st₀, t, T', L, h0, X', hf, e1, e2, ⟨⟨v', σ', hv, hp, hb⟩, hz, hk⟩, st⟩ := hr T hT X
  cases hv
  rw [h0] at hz hk
  obtain ⟨t2, a1, b1⟩ := kk v σ' hp T'.heap (locs ++ L) a (by rw [e1]; exact hb)
    ⟨Nat.le_trans hS.1 (by rw [e1]; exact hz), fun q h1 h2 => by rw [e1, hk q (Nat.lt_of_lt_of_le h1 hS.1) h2]; exact hS.2.1 q h1 h2, fun q hq => by
      rcases List.mem_append.mp hq with h | h
      · exact hS.2.2 q h
      · exact hf _ h⟩ hL T' rfl X'
  exact ⟨t2, st t2 a1, b1⟩
theorem Cx.pre (h : Cx x w cc own nL ret rm) {As : List Value} {H : Heap} {lo : List Loc} (hP : va_P w.1 vwCl (b_wl w σ) H) (hS : va_S (b_A w) x.2.2.2.2.1.heap H lo) : ∀ U : State, U.heap = H → x.2.2.2.2.1.WarmedH U.vm → PV w As σ As.toArray U := fun U hU hW => ⟨rfl, by rw [hU]; exact hP, b_EV_mv hW (fun a h1 h2 => by rw [hU]; exact hS.2.1 a h1 h2) h.ev⟩
theorem Cx.calB (h : Cx x w cc own nL ret rm) {y : MethodName} {bytes : ByteArray} {maxL n index : Nat} {ret' : Option FieldType} {rm' : Room} (hc : b_Cal y bytes maxL ret' n) (hl : Cond.methodLink own index y ∈ bGood) (hr : b_fit rm' maxL rm) : CallB x.2.2.2.1 x.2.2.2.2.1 x.2.2.2.2.2.2.1 own index y bytes maxL ret' (Cond.code y bytes maxL ret' :: bGood) rm' 0 0 n := by
  obtain ⟨c0, hts⟩ := h.2.2.2.1
  exact callB_of (Ts := c0 :: bGood) n hts (bGoodIn (List.mem_filter.mp hc.1).2 hc.1) rfl hr.1 hr.2.1 (h.ok hc.2.1) (h.ok hl) hc.2.2 (by rw [h.rmq]; exact hr.2.2)
theorem Cx.calN (h : Cx x w cc own nL ret rm) {y : MethodName} {host : String} {bytes : ByteArray} {maxL n index : Nat} {ret' : Option FieldType} {rm' : Room} (hc : b_Cal y bytes maxL ret' n) (hl : Cond.methodLinkNest own index y host ∈ bNl) (hr : b_fit rm' maxL rm) : va_CN x.2.2.2.1 x.2.2.2.2.1 x.2.2.2.2.2.2.1 own index y host bytes maxL ret' (Cond.code y bytes maxL ret' :: bGood) rm' 0 0 n := by
  obtain ⟨c0, hts⟩ := h.2.2.2.1
  exact va_cnB (Ts := c0 :: bGood) n hts (bGoodIn (List.mem_filter.mp hc.1).2 hc.1) rfl hr.1 hr.2.1 (h.nest hl) (h.ok hc.2.1) hc.2.2 (by rw [h.rmq]; exact hr.2.2)
theorem v_callV (h : Cx x w cc own nL ret rm) {y : MethodName} {bytes : ByteArray} {maxL n j ci N index : Nat} {ret' : Option FieldType} {rm' : Room} {post' : Option Value → bSt → Prop} {As rest st0 : List Value} {r : Nat → Option Nat}
    (hM : MV y bytes maxL ret' rm' w (.ref (b_ad w j) :: As) σ post') (hc : b_Cal y bytes maxL ret' n) (hcv : b_CalV y) (hl : Cond.methodLink own index y ∈ bGood) (hr : b_fit rm' maxL rm) (hn : As.length = n) (hj : j < b_K w) (hsh : b_sh w j = .inr (ci, N, r)) (hcl : ∃ T N', vwCl[ci]? = some (y.cls, T, N'))
    (hst : st0 = As.reverse ++ .ref (b_ad w j) :: rest) (hcat : (rest.map fun v => v.category).sum ≤ 8) (hd : decode cc pc = .ok (.invokevirtual index, 3)) (e : pc + 3 = q)
    (kk : ∀ (v : Option Value) (σ' : bSt), post' v σ' → V x w nL post q ls (v.toList ++ rest) σ') : V x w nL post pc ls st0 σ := by
  subst e
  obtain ⟨T, N', hcl⟩ := hcl
  obtain ⟨c0, hts⟩ := id h.2.2.2.1
  exact fun H lo a hP hS hL => b_goes (va_runV (As := As) (rest := rest) (Ts := c0 :: bGood) ⟨h.1, h.2.1, h.ml, h.ow, hts⟩ (hM _) ⟨h.calB hc hl hr, h.ok hcv.1, h.ok hcv.2⟩ ⟨PV_blind, va_recv h.ev.1 hP (ci := ci) (q0 := j) hcl (by rw [b_wl_get hj, b_cell_o hsh]), h.pre hP hS⟩ rfl hn hL.1 hst (lv_room hcat) hd ⟨Nat.zero_le _, Nat.zero_le _⟩) hS hL (fun v σ' hp => kk v σ' hp)
theorem v_callVN (h : Cx x w cc own nL ret rm) {y : MethodName} {host : String} {bytes : ByteArray} {maxL n j ci N index : Nat} {ret' : Option FieldType} {rm' : Room} {post' : Option Value → bSt → Prop} {As rest st0 : List Value} {r : Nat → Option Nat}
    (hM : MV y bytes maxL ret' rm' w (.ref (b_ad w j) :: As) σ post') (hc : b_Cal y bytes maxL ret' n) (hcv : b_CalV y) (hl : Cond.methodLinkNest own index y host ∈ bNl) (hr : b_fit rm' maxL rm) (hn : As.length = n) (hj : j < b_K w) (hsh : b_sh w j = .inr (ci, N, r)) (hcl : ∃ T N', vwCl[ci]? = some (y.cls, T, N'))
    (hst : st0 = As.reverse ++ .ref (b_ad w j) :: rest) (hcat : (rest.map fun v => v.category).sum ≤ 8) (hd : decode cc pc = .ok (.invokevirtual index, 3)) (e : pc + 3 = q)
    (kk : ∀ (v : Option Value) (σ' : bSt), post' v σ' → V x w nL post q ls (v.toList ++ rest) σ') : V x w nL post pc ls st0 σ := by
  subst e
  obtain ⟨T, N', hcl⟩ := hcl
  obtain ⟨c0, hts⟩ := id h.2.2.2.1
  exact fun H lo a hP hS hL => b_goes (va_runVN (As := As) (rest := rest) (Ts := c0 :: bGood) ⟨h.1, h.2.1, h.ml, h.ow, hts⟩ (hM _) ⟨h.calN hc hl hr, h.ok hcv.1, h.ok hcv.2⟩ ⟨PV_blind, va_recv h.ev.1 hP (ci := ci) (q0 := j) hcl (by rw [b_wl_get hj, b_cell_o hsh]), h.pre hP hS⟩ rfl hn hL.1 hst (lv_room hcat) hd ⟨Nat.zero_le _, Nat.zero_le _⟩) hS hL (fun v σ' hp => kk v σ' hp)
theorem v_callS (h : Cx x w cc own nL ret rm) {y : MethodName} {bytes : ByteArray} {maxL n index : Nat} {ret' : Option FieldType} {rm' : Room} {post' : Option Value → bSt → Prop} {As rest st0 : List Value}
    (hM : MV y bytes maxL ret' rm' w As σ post') (hc : b_Cal y bytes maxL ret' n) (hcs : Cond.static y ∈ bGood) (hl : Cond.methodLink own index y ∈ bGood) (hr : b_fit rm' maxL rm) (hn : As.length = n)
    (hst : st0 = As.reverse ++ rest) (hcat : (rest.map fun v => v.category).sum ≤ 8) (hd : decode cc pc = .ok (.invokestatic index, 3)) (e : pc + 3 = q)
    (kk : ∀ (v : Option Value) (σ' : bSt), post' v σ' → V x w nL post q ls (v.toList ++ rest) σ') : V x w nL post pc ls st0 σ := by
  subst e
  obtain ⟨c0, hts⟩ := id h.2.2.2.1
  exact fun H lo a hP hS hL => b_goes (va_runS (As := As) (rest := rest) (Ts := c0 :: bGood) ⟨h.1, h.2.1, h.ml, h.ow, hts⟩ (hM _) ⟨h.calB hc hl hr, h.ok hcs⟩ ⟨PV_blind, h.pre hP hS⟩ rfl hn hL.1 hst (lv_room hcat) hd ⟨Nat.zero_le _, Nat.zero_le _⟩) hS hL (fun v σ' hp => kk v σ' hp)
theorem v_callSN (h : Cx x w cc own nL ret rm) {y : MethodName} {host : String} {bytes : ByteArray} {maxL n index : Nat} {ret' : Option FieldType} {rm' : Room} {post' : Option Value → bSt → Prop} {As rest st0 : List Value}
    (hM : MV y bytes maxL ret' rm' w As σ post') (hc : b_Cal y bytes maxL ret' n) (hcs : Cond.static y ∈ bGood) (hl : Cond.methodLinkNest own index y host ∈ bNl) (hr : b_fit rm' maxL rm) (hn : As.length = n)
    (hst : st0 = As.reverse ++ rest) (hcat : (rest.map fun v => v.category).sum ≤ 8) (hd : decode cc pc = .ok (.invokestatic index, 3)) (e : pc + 3 = q)
    (kk : ∀ (v : Option Value) (σ' : bSt), post' v σ' → V x w nL post q ls (v.toList ++ rest) σ') : V x w nL post pc ls st0 σ := by
  subst e
  obtain ⟨c0, hts⟩ := id h.2.2.2.1
  exact fun H lo a hP hS hL => b_goes (va_runSN (As := As) (rest := rest) (Ts := c0 :: bGood) ⟨h.1, h.2.1, h.ml, h.ow, hts⟩ (hM _) ⟨h.calN hc hl hr, h.ok hcs, trivial⟩ ⟨PV_blind, h.pre hP hS⟩ rfl hn hL.1 hst (lv_room hcat) hd ⟨Nat.zero_le _, Nat.zero_le _⟩) hS hL (fun v σ' hp => kk v σ' hp)
end BV
end
