theorem tm1 {c : Cond} (h : c ∈ tables_1_1) : c ∈ lw_tbl := List.mem_append_right _ (List.mem_append_left _ h)
theorem tm2 {c : Cond} (h : c ∈ tables_1_2) : c ∈ lw_tbl := List.mem_append_right _ (List.mem_append_right _ (List.mem_append_left _ h))
theorem tm3 {c : Cond} (h : c ∈ tables_1_3) : c ∈ lw_tbl := List.mem_append_right _ (List.mem_append_right _ (List.mem_append_right _ (List.mem_append_left _ h)))
theorem tm4 {c : Cond} (h : c ∈ tables_1_4) : c ∈ lw_tbl := List.mem_append_right _ (List.mem_append_right _ (List.mem_append_right _ (List.mem_append_right _ (List.mem_append_left _ h))))
theorem tm5 {c : Cond} (h : c ∈ tables_1_5) : c ∈ lw_tbl := List.mem_append_right _ (List.mem_append_right _ (List.mem_append_right _ (List.mem_append_right _ (List.mem_append_right _ (List.mem_append_left _ h)))))
theorem tm6 {c : Cond} (h : c ∈ tables_1_6) : c ∈ lw_tbl := List.mem_append_right _ (List.mem_append_right _ (List.mem_append_right _ (List.mem_append_right _ (List.mem_append_right _ (List.mem_append_right _ h)))))
theorem tg1 {c : Cond} (i : Nat) (h : tables_1_1[i]? = some c) (g : goodWord c = true) : c ∈ bGood := List.mem_filter.mpr ⟨tm1 (List.mem_of_getElem? h), g⟩
theorem tn1 {c : Cond} (i : Nat) (h : tables_1_1[i]? = some c) (g : bNest c = true) : c ∈ bNl := List.mem_filter.mpr ⟨tm1 (List.mem_of_getElem? h), g⟩
theorem tg2 {c : Cond} (i : Nat) (h : tables_1_2[i]? = some c) (g : goodWord c = true) : c ∈ bGood := List.mem_filter.mpr ⟨tm2 (List.mem_of_getElem? h), g⟩
theorem tn2 {c : Cond} (i : Nat) (h : tables_1_2[i]? = some c) (g : bNest c = true) : c ∈ bNl := List.mem_filter.mpr ⟨tm2 (List.mem_of_getElem? h), g⟩
theorem tg3 {c : Cond} (i : Nat) (h : tables_1_3[i]? = some c) (g : goodWord c = true) : c ∈ bGood := List.mem_filter.mpr ⟨tm3 (List.mem_of_getElem? h), g⟩
theorem tn3 {c : Cond} (i : Nat) (h : tables_1_3[i]? = some c) (g : bNest c = true) : c ∈ bNl := List.mem_filter.mpr ⟨tm3 (List.mem_of_getElem? h), g⟩
theorem tg4 {c : Cond} (i : Nat) (h : tables_1_4[i]? = some c) (g : goodWord c = true) : c ∈ bGood := List.mem_filter.mpr ⟨tm4 (List.mem_of_getElem? h), g⟩
theorem tn4 {c : Cond} (i : Nat) (h : tables_1_4[i]? = some c) (g : bNest c = true) : c ∈ bNl := List.mem_filter.mpr ⟨tm4 (List.mem_of_getElem? h), g⟩
theorem tg5 {c : Cond} (i : Nat) (h : tables_1_5[i]? = some c) (g : goodWord c = true) : c ∈ bGood := List.mem_filter.mpr ⟨tm5 (List.mem_of_getElem? h), g⟩
theorem tn5 {c : Cond} (i : Nat) (h : tables_1_5[i]? = some c) (g : bNest c = true) : c ∈ bNl := List.mem_filter.mpr ⟨tm5 (List.mem_of_getElem? h), g⟩
theorem tg6 {c : Cond} (i : Nat) (h : tables_1_6[i]? = some c) (g : goodWord c = true) : c ∈ bGood := List.mem_filter.mpr ⟨tm6 (List.mem_of_getElem? h), g⟩
theorem tn6 {c : Cond} (i : Nat) (h : tables_1_6[i]? = some c) (g : bNest c = true) : c ∈ bNl := List.mem_filter.mpr ⟨tm6 (List.mem_of_getElem? h), g⟩
theorem m0 : (Jvm.Cond.initialized "LagoonOperaLaw") ∈ bGood := tg1 0 rfl rfl
theorem m1 : (Jvm.Cond.initialized "LagoonOpera") ∈ bGood := tg1 1 rfl rfl
theorem m2 : (Jvm.Cond.initialized "LagoonOpera$Laws") ∈ bGood := tg1 2 rfl rfl
theorem m3 : (Jvm.Cond.initialized "LagoonOpera$Formula") ∈ bGood := tg1 3 rfl rfl
theorem m4 : (Jvm.Cond.initialized "java/util/Arrays") ∈ bGood := tg1 4 rfl rfl
theorem m5 : (Jvm.Cond.initialized "LagoonOpera$Scene") ∈ bGood := tg1 5 rfl rfl
theorem m6 : (Jvm.Cond.initialized "LagoonOpera$Boats") ∈ bGood := tg1 6 rfl rfl
theorem m7 : (Jvm.Cond.initialized "LagoonOpera$Desk") ∈ bGood := tg1 7 rfl rfl
theorem m8 : (Jvm.Cond.initialized "LagoonOpera$Sheet") ∈ bGood := tg1 8 rfl rfl
theorem m9 : (Jvm.Cond.initialized "LagoonOpera$Voices") ∈ bGood := tg1 9 rfl rfl
theorem m10 : (Jvm.Cond.initialized "LagoonOpera$Reader") ∈ bGood := tg1 10 rfl rfl
theorem m11 : (Jvm.Cond.initialized "LagoonOpera$Outlook") ∈ bGood := tg1 11 rfl rfl
theorem m12 : (Jvm.Cond.initialized "LagoonOperaModel") ∈ bGood := tg1 12 rfl rfl
theorem m13 : (Jvm.Cond.initialized "java/lang/Math") ∈ bGood := tg1 13 rfl rfl
theorem m14 : (Jvm.Cond.initialized "java/lang/Integer") ∈ bGood := tg1 14 rfl rfl
theorem m15 : (Jvm.Cond.initialized "java/lang/System") ∈ bGood := tg1 15 rfl rfl
theorem m16 : (Jvm.Cond.initialized "java/lang/String") ∈ bGood := tg1 16 rfl rfl
theorem m17 : (Jvm.Cond.initialized "java/lang/StringLatin1") ∈ bGood := tg1 17 rfl rfl
theorem m18 : (Jvm.Cond.initialized "jdk/internal/util/Preconditions") ∈ bGood := tg1 18 rfl rfl
theorem m19 : (Jvm.Cond.initialized "java/lang/StringUTF16") ∈ bGood := tg1 19 rfl rfl
theorem m20 : (Jvm.Cond.initialized "java/lang/Long") ∈ bGood := tg1 20 rfl rfl
theorem m21 : (Jvm.Cond.classLink "LagoonOperaLaw" (7 : Nat) "LagoonOpera") ∈ bGood := tg1 21 rfl rfl
theorem m22 : (Jvm.Cond.instantiable "LagoonOpera" (14 : Nat)) ∈ bGood := tg1 22 rfl rfl
theorem m23 : (Jvm.Cond.methodLink "LagoonOperaLaw" (9 : Nat) ({ cls := "LagoonOpera", name := "<init>", desc := "()V" } : Jvm.MethodName)) ∈ bGood := tg1 23 rfl rfl
theorem m24 : (Jvm.Cond.instanceMethod ({ cls := "LagoonOpera", name := "<init>", desc := "()V" } : Jvm.MethodName)) ∈ bGood := tg1 24 rfl rfl
theorem m25 : (Jvm.Cond.code ({ cls := "LagoonOpera", name := "<init>", desc := "()V" } : Jvm.MethodName) prog_1_method_1_code (1 : Nat) (Option.none : Option Jvm.ClassFile.FieldType)) ∈ bGood := tg1 25 rfl rfl
theorem m26 : (Jvm.Cond.methodLink "LagoonOpera" (1 : Nat) ({ cls := "java/lang/Object", name := "<init>", desc := "()V" } : Jvm.MethodName)) ∈ bGood := tg1 26 rfl rfl
theorem m27 : (Jvm.Cond.instanceMethod ({ cls := "java/lang/Object", name := "<init>", desc := "()V" } : Jvm.MethodName)) ∈ bGood := tg1 27 rfl rfl
theorem m28 : (Jvm.Cond.code ({ cls := "java/lang/Object", name := "<init>", desc := "()V" } : Jvm.MethodName) object_method_1_code (1 : Nat) (Option.none : Option Jvm.ClassFile.FieldType)) ∈ bGood := tg1 28 rfl rfl
theorem m29 : (Jvm.Cond.classLink "LagoonOpera" (7 : Nat) "LagoonOpera$Laws") ∈ bGood := tg1 29 rfl rfl
theorem m30 : (Jvm.Cond.instantiable "LagoonOpera$Laws" (5 : Nat)) ∈ bGood := tg1 30 rfl rfl
theorem m31 : (Jvm.Cond.methodLink "LagoonOpera" (9 : Nat) ({ cls := "LagoonOpera$Laws", name := "<init>", desc := "()V" } : Jvm.MethodName)) ∈ bGood := tg1 31 rfl rfl
theorem m32 : (Jvm.Cond.instanceMethod ({ cls := "LagoonOpera$Laws", name := "<init>", desc := "()V" } : Jvm.MethodName)) ∈ bGood := tg1 32 rfl rfl
theorem m33 : (Jvm.Cond.code ({ cls := "LagoonOpera$Laws", name := "<init>", desc := "()V" } : Jvm.MethodName) prog_5_method_1_code (1 : Nat) (Option.none : Option Jvm.ClassFile.FieldType)) ∈ bGood := tg1 33 rfl rfl
theorem m34 : (Jvm.Cond.methodLink "LagoonOpera$Laws" (3 : Nat) ({ cls := "java/lang/Object", name := "<init>", desc := "()V" } : Jvm.MethodName)) ∈ bGood := tg1 34 rfl rfl
theorem m35 : (Jvm.Cond.classLink "LagoonOpera$Laws" (19 : Nat) "LagoonOpera$Formula") ∈ bGood := tg1 35 rfl rfl
theorem m36 : (Jvm.Cond.instantiable "LagoonOpera$Formula" (3 : Nat)) ∈ bGood := tg1 36 rfl rfl
theorem m37 : (Jvm.Cond.methodLinkNest "LagoonOpera$Laws" (21 : Nat) ({ cls := "LagoonOpera$Formula", name := "<init>", desc := "()V" } : Jvm.MethodName) "LagoonOpera") ∈ bNl := tn1 37 rfl rfl
theorem m38 : (Jvm.Cond.instanceMethod ({ cls := "LagoonOpera$Formula", name := "<init>", desc := "()V" } : Jvm.MethodName)) ∈ bGood := tg1 38 rfl rfl
theorem m39 : (Jvm.Cond.code ({ cls := "LagoonOpera$Formula", name := "<init>", desc := "()V" } : Jvm.MethodName) prog_4_method_1_code (1 : Nat) (Option.none : Option Jvm.ClassFile.FieldType)) ∈ bGood := tg1 39 rfl rfl
theorem m40 : (Jvm.Cond.methodLink "LagoonOpera$Formula" (3 : Nat) ({ cls := "java/lang/Object", name := "<init>", desc := "()V" } : Jvm.MethodName)) ∈ bGood := tg1 40 rfl rfl
theorem m41 : (Jvm.Cond.fieldLink "LagoonOpera$Formula" (18 : Nat) "LagoonOpera$Formula" "length" "I") ∈ bGood := tg1 41 rfl rfl
theorem m42 : (Jvm.Cond.fieldLinkNest "LagoonOpera$Reader" (47 : Nat) "LagoonOpera$Formula" "length" "I" "LagoonOpera") ∈ bNl := tn1 42 rfl rfl
theorem m43 : (Jvm.Cond.fieldLink "LagoonOpera$Formula" (9 : Nat) "LagoonOpera$Formula" "steps" "[I") ∈ bGood := tg1 43 rfl rfl
theorem m44 : (Jvm.Cond.fieldLink "LagoonOpera$Formula" (15 : Nat) "LagoonOpera$Formula" "stack" "[I") ∈ bGood := tg1 44 rfl rfl
theorem m52 : (Jvm.Cond.arrayClass Jvm.ClassFile.FieldType.int) ∈ bGood := tg1 52 rfl rfl
theorem m53 : (Jvm.Cond.methodLink "LagoonOpera$Laws" (32 : Nat) ({ cls := "java/util/Arrays", name := "fill", desc := "([II)V" } : Jvm.MethodName)) ∈ bGood := tg1 53 rfl rfl
theorem m54 : (Jvm.Cond.static ({ cls := "java/util/Arrays", name := "fill", desc := "([II)V" } : Jvm.MethodName)) ∈ bGood := tg1 54 rfl rfl
theorem m55 : (Jvm.Cond.code ({ cls := "java/util/Arrays", name := "fill", desc := "([II)V" } : Jvm.MethodName) prog_20_method_103_code (4 : Nat) (Option.none : Option Jvm.ClassFile.FieldType)) ∈ bGood := tg1 55 rfl rfl
theorem m56 : (Jvm.Cond.fieldLink "LagoonOpera$Laws" (9 : Nat) "LagoonOpera$Laws" "speed" "I") ∈ bGood := tg1 56 rfl rfl
theorem m57 : (Jvm.Cond.fieldLinkNest "LagoonOpera" (88 : Nat) "LagoonOpera$Laws" "speed" "I" "LagoonOpera") ∈ bNl := tn1 57 rfl rfl
theorem m58 : (Jvm.Cond.fieldLinkNest "LagoonOpera$Scene" (62 : Nat) "LagoonOpera$Laws" "speed" "I" "LagoonOpera") ∈ bNl := tn1 58 rfl rfl
theorem m59 : (Jvm.Cond.fieldLink "LagoonOpera$Laws" (15 : Nat) "LagoonOpera$Laws" "tides" "[I") ∈ bGood := tg1 59 rfl rfl
theorem m60 : (Jvm.Cond.fieldLinkNest "LagoonOpera" (85 : Nat) "LagoonOpera$Laws" "tides" "[I" "LagoonOpera") ∈ bNl := tn1 60 rfl rfl
theorem m61 : (Jvm.Cond.fieldLink "LagoonOpera$Laws" (22 : Nat) "LagoonOpera$Laws" "lags" "LLagoonOpera$Formula;") ∈ bGood := tg1 61 rfl rfl
theorem m62 : (Jvm.Cond.fieldLink "LagoonOpera$Laws" (26 : Nat) "LagoonOpera$Laws" "pays" "LLagoonOpera$Formula;") ∈ bGood := tg1 62 rfl rfl
theorem m63 : (Jvm.Cond.fieldLink "LagoonOpera$Laws" (29 : Nat) "LagoonOpera$Laws" "given" "[I") ∈ bGood := tg1 63 rfl rfl
theorem m75 : (Jvm.Cond.classLink "LagoonOpera" (16 : Nat) "LagoonOpera$Scene") ∈ bGood := tg1 75 rfl rfl
theorem m76 : (Jvm.Cond.instantiable "LagoonOpera$Scene" (8 : Nat)) ∈ bGood := tg1 76 rfl rfl
theorem m77 : (Jvm.Cond.methodLinkNest "LagoonOpera" (18 : Nat) ({ cls := "LagoonOpera$Scene", name := "<init>", desc := "()V" } : Jvm.MethodName) "LagoonOpera") ∈ bNl := tn1 77 rfl rfl
theorem m78 : (Jvm.Cond.instanceMethod ({ cls := "LagoonOpera$Scene", name := "<init>", desc := "()V" } : Jvm.MethodName)) ∈ bGood := tg1 78 rfl rfl
theorem m79 : (Jvm.Cond.code ({ cls := "LagoonOpera$Scene", name := "<init>", desc := "()V" } : Jvm.MethodName) prog_8_method_1_code (1 : Nat) (Option.none : Option Jvm.ClassFile.FieldType)) ∈ bGood := tg1 79 rfl rfl
theorem m80 : (Jvm.Cond.methodLink "LagoonOpera$Scene" (3 : Nat) ({ cls := "java/lang/Object", name := "<init>", desc := "()V" } : Jvm.MethodName)) ∈ bGood := tg1 80 rfl rfl
theorem m81 : (Jvm.Cond.classLink "LagoonOpera$Scene" (15 : Nat) "LagoonOpera$Boats") ∈ bGood := tg1 81 rfl rfl
theorem m82 : (Jvm.Cond.instantiable "LagoonOpera$Boats" (5 : Nat)) ∈ bGood := tg1 82 rfl rfl
theorem m83 : (Jvm.Cond.methodLinkNest "LagoonOpera$Scene" (17 : Nat) ({ cls := "LagoonOpera$Boats", name := "<init>", desc := "()V" } : Jvm.MethodName) "LagoonOpera") ∈ bNl := tn1 83 rfl rfl
theorem m84 : (Jvm.Cond.instanceMethod ({ cls := "LagoonOpera$Boats", name := "<init>", desc := "()V" } : Jvm.MethodName)) ∈ bGood := tg1 84 rfl rfl
theorem m85 : (Jvm.Cond.code ({ cls := "LagoonOpera$Boats", name := "<init>", desc := "()V" } : Jvm.MethodName) prog_2_method_1_code (1 : Nat) (Option.none : Option Jvm.ClassFile.FieldType)) ∈ bGood := tg1 85 rfl rfl
theorem m86 : (Jvm.Cond.methodLink "LagoonOpera$Boats" (3 : Nat) ({ cls := "java/lang/Object", name := "<init>", desc := "()V" } : Jvm.MethodName)) ∈ bGood := tg1 86 rfl rfl
theorem m87 : (Jvm.Cond.fieldLink "LagoonOpera$Boats" (24 : Nat) "LagoonOpera$Boats" "afloat" "I") ∈ bGood := tg1 87 rfl rfl
theorem m88 : (Jvm.Cond.fieldLinkNest "LagoonOpera" (103 : Nat) "LagoonOpera$Boats" "afloat" "I" "LagoonOpera") ∈ bNl := tn1 88 rfl rfl
theorem m89 : (Jvm.Cond.fieldLinkNest "LagoonOpera$Scene" (97 : Nat) "LagoonOpera$Boats" "afloat" "I" "LagoonOpera") ∈ bNl := tn1 89 rfl rfl
theorem m90 : (Jvm.Cond.fieldLink "LagoonOpera$Boats" (9 : Nat) "LagoonOpera$Boats" "kinds" "[I") ∈ bGood := tg1 90 rfl rfl
theorem m91 : (Jvm.Cond.fieldLinkNest "LagoonOpera" (115 : Nat) "LagoonOpera$Boats" "kinds" "[I" "LagoonOpera") ∈ bNl := tn1 91 rfl rfl
theorem m92 : (Jvm.Cond.fieldLink "LagoonOpera$Boats" (15 : Nat) "LagoonOpera$Boats" "numbers" "[I") ∈ bGood := tg1 92 rfl rfl
theorem m93 : (Jvm.Cond.fieldLinkNest "LagoonOpera" (118 : Nat) "LagoonOpera$Boats" "numbers" "[I" "LagoonOpera") ∈ bNl := tn1 93 rfl rfl
theorem m94 : (Jvm.Cond.fieldLink "LagoonOpera$Boats" (18 : Nat) "LagoonOpera$Boats" "cells" "[I") ∈ bGood := tg1 94 rfl rfl
theorem m95 : (Jvm.Cond.fieldLinkNest "LagoonOpera$Outlook" (61 : Nat) "LagoonOpera$Boats" "cells" "[I" "LagoonOpera") ∈ bNl := tn1 95 rfl rfl
theorem m96 : (Jvm.Cond.fieldLinkNest "LagoonOpera" (121 : Nat) "LagoonOpera$Boats" "cells" "[I" "LagoonOpera") ∈ bNl := tn1 96 rfl rfl
theorem m97 : (Jvm.Cond.fieldLinkNest "LagoonOpera$Scene" (59 : Nat) "LagoonOpera$Boats" "cells" "[I" "LagoonOpera") ∈ bNl := tn1 97 rfl rfl
theorem m98 : (Jvm.Cond.fieldLink "LagoonOpera$Boats" (21 : Nat) "LagoonOpera$Boats" "parts" "[I") ∈ bGood := tg1 98 rfl rfl
theorem m99 : (Jvm.Cond.fieldLinkNest "LagoonOpera" (124 : Nat) "LagoonOpera$Boats" "parts" "[I" "LagoonOpera") ∈ bNl := tn1 99 rfl rfl
theorem m111 : (Jvm.Cond.fieldLink "LagoonOpera$Scene" (32 : Nat) "LagoonOpera$Scene" "beat" "I") ∈ bGood := tg1 111 rfl rfl
theorem m112 : (Jvm.Cond.fieldLinkNest "LagoonOpera$Outlook" (34 : Nat) "LagoonOpera$Scene" "beat" "I" "LagoonOpera") ∈ bNl := tn1 112 rfl rfl
theorem m113 : (Jvm.Cond.fieldLinkNest "LagoonOpera" (316 : Nat) "LagoonOpera$Scene" "beat" "I" "LagoonOpera") ∈ bNl := tn1 113 rfl rfl
theorem m114 : (Jvm.Cond.fieldLink "LagoonOpera$Scene" (35 : Nat) "LagoonOpera$Scene" "purse" "I") ∈ bGood := tg1 114 rfl rfl
theorem m115 : (Jvm.Cond.fieldLinkNest "LagoonOpera" (331 : Nat) "LagoonOpera$Scene" "purse" "I" "LagoonOpera") ∈ bNl := tn1 115 rfl rfl
theorem m116 : (Jvm.Cond.fieldLink "LagoonOpera$Scene" (9 : Nat) "LagoonOpera$Scene" "fog" "I") ∈ bGood := tg1 116 rfl rfl
theorem m117 : (Jvm.Cond.fieldLinkNest "LagoonOpera" (255 : Nat) "LagoonOpera$Scene" "fog" "I" "LagoonOpera") ∈ bNl := tn1 117 rfl rfl
theorem m118 : (Jvm.Cond.fieldLink "LagoonOpera$Scene" (18 : Nat) "LagoonOpera$Scene" "boats" "LLagoonOpera$Boats;") ∈ bGood := tg1 118 rfl rfl
theorem m119 : (Jvm.Cond.fieldLinkNest "LagoonOpera$Outlook" (27 : Nat) "LagoonOpera$Scene" "boats" "LLagoonOpera$Boats;" "LagoonOpera") ∈ bNl := tn1 119 rfl rfl
theorem m120 : (Jvm.Cond.fieldLinkNest "LagoonOpera" (99 : Nat) "LagoonOpera$Scene" "boats" "LLagoonOpera$Boats;" "LagoonOpera") ∈ bNl := tn1 120 rfl rfl
theorem m121 : (Jvm.Cond.fieldLink "LagoonOpera$Scene" (42 : Nat) "LagoonOpera$Scene" "listeners" "I") ∈ bGood := tg1 121 rfl rfl
theorem m122 : (Jvm.Cond.fieldLinkNest "LagoonOpera" (148 : Nat) "LagoonOpera$Scene" "listeners" "I" "LagoonOpera") ∈ bNl := tn1 122 rfl rfl
theorem m123 : (Jvm.Cond.fieldLink "LagoonOpera$Scene" (22 : Nat) "LagoonOpera$Scene" "places" "[I") ∈ bGood := tg1 123 rfl rfl
theorem m124 : (Jvm.Cond.fieldLinkNest "LagoonOpera" (161 : Nat) "LagoonOpera$Scene" "places" "[I" "LagoonOpera") ∈ bNl := tn1 124 rfl rfl
theorem m125 : (Jvm.Cond.fieldLink "LagoonOpera$Scene" (26 : Nat) "LagoonOpera$Scene" "inTime" "[I") ∈ bGood := tg1 125 rfl rfl
theorem m126 : (Jvm.Cond.fieldLinkNest "LagoonOpera" (326 : Nat) "LagoonOpera$Scene" "inTime" "[I" "LagoonOpera") ∈ bNl := tn1 126 rfl rfl
theorem m127 : (Jvm.Cond.fieldLink "LagoonOpera$Scene" (29 : Nat) "LagoonOpera$Scene" "coins" "[I") ∈ bGood := tg1 127 rfl rfl
theorem m145 : (Jvm.Cond.classLink "LagoonOpera" (23 : Nat) "LagoonOpera$Desk") ∈ bGood := tg1 145 rfl rfl
theorem m146 : (Jvm.Cond.instantiable "LagoonOpera$Desk" (4 : Nat)) ∈ bGood := tg1 146 rfl rfl
theorem m147 : (Jvm.Cond.methodLinkNest "LagoonOpera" (25 : Nat) ({ cls := "LagoonOpera$Desk", name := "<init>", desc := "()V" } : Jvm.MethodName) "LagoonOpera") ∈ bNl := tn1 147 rfl rfl
theorem m148 : (Jvm.Cond.instanceMethod ({ cls := "LagoonOpera$Desk", name := "<init>", desc := "()V" } : Jvm.MethodName)) ∈ bGood := tg1 148 rfl rfl
theorem m149 : (Jvm.Cond.code ({ cls := "LagoonOpera$Desk", name := "<init>", desc := "()V" } : Jvm.MethodName) prog_3_method_1_code (1 : Nat) (Option.none : Option Jvm.ClassFile.FieldType)) ∈ bGood := tg1 149 rfl rfl
theorem m150 : (Jvm.Cond.methodLink "LagoonOpera$Desk" (3 : Nat) ({ cls := "java/lang/Object", name := "<init>", desc := "()V" } : Jvm.MethodName)) ∈ bGood := tg1 150 rfl rfl
theorem m151 : (Jvm.Cond.fieldLink "LagoonOpera$Desk" (9 : Nat) "LagoonOpera$Desk" "tape" "[I") ∈ bGood := tg1 151 rfl rfl
theorem m152 : (Jvm.Cond.fieldLinkNest "LagoonOpera" (171 : Nat) "LagoonOpera$Desk" "tape" "[I" "LagoonOpera") ∈ bNl := tn1 152 rfl rfl
theorem m153 : (Jvm.Cond.fieldLink "LagoonOpera$Desk" (18 : Nat) "LagoonOpera$Desk" "fed" "I") ∈ bGood := tg1 153 rfl rfl
theorem m154 : (Jvm.Cond.fieldLinkNest "LagoonOpera" (164 : Nat) "LagoonOpera$Desk" "fed" "I" "LagoonOpera") ∈ bNl := tn1 154 rfl rfl
theorem m155 : (Jvm.Cond.fieldLink "LagoonOpera$Desk" (15 : Nat) "LagoonOpera$Desk" "numbers" "[I") ∈ bGood := tg1 155 rfl rfl
theorem m156 : (Jvm.Cond.fieldLinkNest "LagoonOpera" (325 : Nat) "LagoonOpera$Desk" "numbers" "[I" "LagoonOpera") ∈ bNl := tn1 156 rfl rfl
theorem m157 : (Jvm.Cond.fieldLink "LagoonOpera$Desk" (28 : Nat) "LagoonOpera$Desk" "waiting" "I") ∈ bGood := tg1 157 rfl rfl
theorem m158 : (Jvm.Cond.fieldLinkNest "LagoonOpera" (319 : Nat) "LagoonOpera$Desk" "waiting" "I" "LagoonOpera") ∈ bNl := tn1 158 rfl rfl
theorem m168 : (Jvm.Cond.classLink "LagoonOpera" (39 : Nat) "LagoonOpera$Sheet") ∈ bGood := tg1 168 rfl rfl
theorem m169 : (Jvm.Cond.arrayOver (Jvm.ClassFile.FieldType.object "LagoonOpera$Sheet")) ∈ lw_tbl := tm1 (List.mem_of_getElem? (i := 169) rfl)
theorem m170 : (Jvm.Cond.instantiable "LagoonOpera$Sheet" (3 : Nat)) ∈ bGood := tg1 170 rfl rfl
theorem m171 : (Jvm.Cond.methodLinkNest "LagoonOpera" (41 : Nat) ({ cls := "LagoonOpera$Sheet", name := "<init>", desc := "()V" } : Jvm.MethodName) "LagoonOpera") ∈ bNl := tn1 171 rfl rfl
theorem m172 : (Jvm.Cond.instanceMethod ({ cls := "LagoonOpera$Sheet", name := "<init>", desc := "()V" } : Jvm.MethodName)) ∈ bGood := tg1 172 rfl rfl
theorem m173 : (Jvm.Cond.code ({ cls := "LagoonOpera$Sheet", name := "<init>", desc := "()V" } : Jvm.MethodName) prog_9_method_1_code (1 : Nat) (Option.none : Option Jvm.ClassFile.FieldType)) ∈ bGood := tg1 173 rfl rfl
theorem m174 : (Jvm.Cond.methodLink "LagoonOpera$Sheet" (3 : Nat) ({ cls := "java/lang/Object", name := "<init>", desc := "()V" } : Jvm.MethodName)) ∈ bGood := tg1 174 rfl rfl
theorem m175 : (Jvm.Cond.fieldLink "LagoonOpera$Sheet" (15 : Nat) "LagoonOpera$Sheet" "bits" "I") ∈ bGood := tg1 175 rfl rfl
theorem m176 : (Jvm.Cond.fieldLinkNest "LagoonOpera" (286 : Nat) "LagoonOpera$Sheet" "bits" "I" "LagoonOpera") ∈ bNl := tn1 176 rfl rfl
theorem m177 : (Jvm.Cond.fieldLink "LagoonOpera$Sheet" (19 : Nat) "LagoonOpera$Sheet" "length" "I") ∈ bGood := tg1 177 rfl rfl
theorem m178 : (Jvm.Cond.fieldLinkNest "LagoonOpera" (304 : Nat) "LagoonOpera$Sheet" "length" "I" "LagoonOpera") ∈ bNl := tn1 178 rfl rfl
theorem m179 : (Jvm.Cond.fieldLink "LagoonOpera$Sheet" (9 : Nat) "LagoonOpera$Sheet" "numbers" "[I") ∈ bGood := tg1 179 rfl rfl
theorem m180 : (Jvm.Cond.fieldLinkNest "LagoonOpera" (292 : Nat) "LagoonOpera$Sheet" "numbers" "[I" "LagoonOpera") ∈ bNl := tn1 180 rfl rfl
theorem m188 : (Jvm.Cond.classLink "LagoonOpera" (46 : Nat) "LagoonOpera$Voices") ∈ bGood := tg1 188 rfl rfl
theorem m189 : (Jvm.Cond.instantiable "LagoonOpera$Voices" (5 : Nat)) ∈ bGood := tg1 189 rfl rfl
theorem m190 : (Jvm.Cond.methodLinkNest "LagoonOpera" (48 : Nat) ({ cls := "LagoonOpera$Voices", name := "<init>", desc := "()V" } : Jvm.MethodName) "LagoonOpera") ∈ bNl := tn1 190 rfl rfl
theorem m191 : (Jvm.Cond.instanceMethod ({ cls := "LagoonOpera$Voices", name := "<init>", desc := "()V" } : Jvm.MethodName)) ∈ bGood := tg1 191 rfl rfl
theorem m192 : (Jvm.Cond.code ({ cls := "LagoonOpera$Voices", name := "<init>", desc := "()V" } : Jvm.MethodName) prog_10_method_1_code (1 : Nat) (Option.none : Option Jvm.ClassFile.FieldType)) ∈ bGood := tg1 192 rfl rfl
theorem m193 : (Jvm.Cond.methodLink "LagoonOpera$Voices" (3 : Nat) ({ cls := "java/lang/Object", name := "<init>", desc := "()V" } : Jvm.MethodName)) ∈ bGood := tg1 193 rfl rfl
theorem m194 : (Jvm.Cond.fieldLink "LagoonOpera$Voices" (9 : Nat) "LagoonOpera$Voices" "trace" "[I") ∈ bGood := tg1 194 rfl rfl
theorem m195 : (Jvm.Cond.fieldLinkNest "LagoonOpera" (265 : Nat) "LagoonOpera$Voices" "trace" "[I" "LagoonOpera") ∈ bNl := tn1 195 rfl rfl
theorem m196 : (Jvm.Cond.fieldLink "LagoonOpera$Voices" (25 : Nat) "LagoonOpera$Voices" "bodies" "I") ∈ bGood := tg1 196 rfl rfl
theorem m197 : (Jvm.Cond.fieldLinkNest "LagoonOpera" (262 : Nat) "LagoonOpera$Voices" "bodies" "I" "LagoonOpera") ∈ bNl := tn1 197 rfl rfl
theorem m198 : (Jvm.Cond.fieldLink "LagoonOpera$Voices" (15 : Nat) "LagoonOpera$Voices" "boat" "I") ∈ bGood := tg1 198 rfl rfl
theorem m199 : (Jvm.Cond.fieldLink "LagoonOpera$Voices" (19 : Nat) "LagoonOpera$Voices" "kind" "I") ∈ bGood := tg1 199 rfl rfl
theorem m200 : (Jvm.Cond.fieldLink "LagoonOpera$Voices" (22 : Nat) "LagoonOpera$Voices" "number" "I") ∈ bGood := tg1 200 rfl rfl
theorem m212 : (Jvm.Cond.classLink "LagoonOpera" (57 : Nat) "LagoonOpera$Reader") ∈ bGood := tg1 212 rfl rfl
theorem m213 : (Jvm.Cond.instantiable "LagoonOpera$Reader" (5 : Nat)) ∈ bGood := tg1 213 rfl rfl
theorem m214 : (Jvm.Cond.methodLinkNest "LagoonOpera" (59 : Nat) ({ cls := "LagoonOpera$Reader", name := "<init>", desc := "()V" } : Jvm.MethodName) "LagoonOpera") ∈ bNl := tn1 214 rfl rfl
theorem m215 : (Jvm.Cond.instanceMethod ({ cls := "LagoonOpera$Reader", name := "<init>", desc := "()V" } : Jvm.MethodName)) ∈ bGood := tg1 215 rfl rfl
theorem m216 : (Jvm.Cond.code ({ cls := "LagoonOpera$Reader", name := "<init>", desc := "()V" } : Jvm.MethodName) prog_7_method_1_code (1 : Nat) (Option.none : Option Jvm.ClassFile.FieldType)) ∈ bGood := tg1 216 rfl rfl
theorem m217 : (Jvm.Cond.methodLink "LagoonOpera$Reader" (3 : Nat) ({ cls := "java/lang/Object", name := "<init>", desc := "()V" } : Jvm.MethodName)) ∈ bGood := tg1 217 rfl rfl
theorem m218 : (Jvm.Cond.classLink "LagoonOpera$Reader" (9 : Nat) "LagoonOpera$Formula") ∈ bGood := tg1 218 rfl rfl
theorem m219 : (Jvm.Cond.methodLinkNest "LagoonOpera$Reader" (11 : Nat) ({ cls := "LagoonOpera$Formula", name := "<init>", desc := "()V" } : Jvm.MethodName) "LagoonOpera") ∈ bNl := tn1 219 rfl rfl
theorem m220 : (Jvm.Cond.fieldLink "LagoonOpera$Reader" (12 : Nat) "LagoonOpera$Reader" "draft" "LLagoonOpera$Formula;") ∈ bGood := tg1 220 rfl rfl
theorem m221 : (Jvm.Cond.fieldLinkNest "LagoonOpera" (181 : Nat) "LagoonOpera$Reader" "draft" "LLagoonOpera$Formula;" "LagoonOpera") ∈ bNl := tn1 221 rfl rfl
theorem m222 : (Jvm.Cond.fieldLink "LagoonOpera$Reader" (18 : Nat) "LagoonOpera$Reader" "bytes" "[I") ∈ bGood := tg1 222 rfl rfl
theorem m223 : (Jvm.Cond.fieldLink "LagoonOpera$Reader" (31 : Nat) "LagoonOpera$Reader" "length" "I") ∈ bGood := tg1 223 rfl rfl
theorem m224 : (Jvm.Cond.fieldLink "LagoonOpera$Reader" (41 : Nat) "LagoonOpera$Reader" "next" "I") ∈ bGood := tg1 224 rfl rfl
theorem m225 : (Jvm.Cond.fieldLinkNest "LagoonOpera" (178 : Nat) "LagoonOpera$Reader" "next" "I" "LagoonOpera") ∈ bNl := tn1 225 rfl rfl
theorem m226 : (Jvm.Cond.fieldLink "LagoonOpera$Reader" (44 : Nat) "LagoonOpera$Reader" "use" "I") ∈ bGood := tg1 226 rfl rfl
theorem m238 : (Jvm.Cond.classLink "LagoonOpera" (67 : Nat) "LagoonOpera$Outlook") ∈ bGood := tg1 238 rfl rfl
theorem m239 : (Jvm.Cond.instantiable "LagoonOpera$Outlook" (5 : Nat)) ∈ bGood := tg1 239 rfl rfl
theorem m240 : (Jvm.Cond.methodLinkNest "LagoonOpera" (69 : Nat) ({ cls := "LagoonOpera$Outlook", name := "<init>", desc := "()V" } : Jvm.MethodName) "LagoonOpera") ∈ bNl := tn2 0 rfl rfl
theorem m241 : (Jvm.Cond.instanceMethod ({ cls := "LagoonOpera$Outlook", name := "<init>", desc := "()V" } : Jvm.MethodName)) ∈ bGood := tg2 1 rfl rfl
theorem m242 : (Jvm.Cond.code ({ cls := "LagoonOpera$Outlook", name := "<init>", desc := "()V" } : Jvm.MethodName) prog_6_method_1_code (1 : Nat) (Option.none : Option Jvm.ClassFile.FieldType)) ∈ bGood := tg2 2 rfl rfl
theorem m243 : (Jvm.Cond.methodLink "LagoonOpera$Outlook" (3 : Nat) ({ cls := "java/lang/Object", name := "<init>", desc := "()V" } : Jvm.MethodName)) ∈ bGood := tg2 3 rfl rfl
theorem m244 : (Jvm.Cond.classLink "LagoonOpera$Outlook" (9 : Nat) "LagoonOpera$Boats") ∈ bGood := tg2 4 rfl rfl
theorem m245 : (Jvm.Cond.methodLinkNest "LagoonOpera$Outlook" (11 : Nat) ({ cls := "LagoonOpera$Boats", name := "<init>", desc := "()V" } : Jvm.MethodName) "LagoonOpera") ∈ bNl := tn2 5 rfl rfl
theorem m246 : (Jvm.Cond.classLink "LagoonOpera$Outlook" (18 : Nat) "[[I") ∈ bGood := tg2 6 rfl rfl
theorem m247 : (Jvm.Cond.arrayOver (Jvm.ClassFile.FieldType.array Jvm.ClassFile.FieldType.int)) ∈ lw_tbl := tm2 (List.mem_of_getElem? (i := 7) rfl)
theorem m248 : (Jvm.Cond.fieldLink "LagoonOpera$Outlook" (12 : Nat) "LagoonOpera$Outlook" "boats" "LLagoonOpera$Boats;") ∈ bGood := tg2 8 rfl rfl
theorem m249 : (Jvm.Cond.fieldLinkNest "LagoonOpera" (233 : Nat) "LagoonOpera$Outlook" "boats" "LLagoonOpera$Boats;" "LagoonOpera") ∈ bNl := tn2 9 rfl rfl
theorem m250 : (Jvm.Cond.fieldLink "LagoonOpera$Outlook" (38 : Nat) "LagoonOpera$Outlook" "beat" "I") ∈ bGood := tg2 10 rfl rfl
theorem m251 : (Jvm.Cond.fieldLink "LagoonOpera$Outlook" (48 : Nat) "LagoonOpera$Outlook" "n" "I") ∈ bGood := tg2 11 rfl rfl
theorem m252 : (Jvm.Cond.fieldLink "LagoonOpera$Outlook" (20 : Nat) "LagoonOpera$Outlook" "cells" "[[I") ∈ bGood := tg2 12 rfl rfl
theorem m253 : (Jvm.Cond.fieldLink "LagoonOpera$Outlook" (23 : Nat) "LagoonOpera$Outlook" "singers" "[I") ∈ bGood := tg2 13 rfl rfl
theorem m265 : (Jvm.Cond.fieldLink "LagoonOpera" (10 : Nat) "LagoonOpera" "laws" "LLagoonOpera$Laws;") ∈ bGood := tg2 25 rfl rfl
theorem m266 : (Jvm.Cond.fieldLink "LagoonOpera" (19 : Nat) "LagoonOpera" "scene" "LLagoonOpera$Scene;") ∈ bGood := tg2 26 rfl rfl
theorem m267 : (Jvm.Cond.fieldLink "LagoonOpera" (26 : Nat) "LagoonOpera" "desk" "LLagoonOpera$Desk;") ∈ bGood := tg2 27 rfl rfl
theorem m268 : (Jvm.Cond.fieldLink "LagoonOpera" (30 : Nat) "LagoonOpera" "keptLaws" "LLagoonOpera$Laws;") ∈ bGood := tg2 28 rfl rfl
theorem m269 : (Jvm.Cond.fieldLink "LagoonOpera" (33 : Nat) "LagoonOpera" "keptScene" "LLagoonOpera$Scene;") ∈ bGood := tg2 29 rfl rfl
theorem m270 : (Jvm.Cond.fieldLink "LagoonOpera" (36 : Nat) "LagoonOpera" "keptDesk" "LLagoonOpera$Desk;") ∈ bGood := tg2 30 rfl rfl
theorem m271 : (Jvm.Cond.fieldLink "LagoonOpera" (313 : Nat) "LagoonOpera" "images" "I") ∈ bGood := tg2 31 rfl rfl
theorem m272 : (Jvm.Cond.fieldLink "LagoonOpera" (42 : Nat) "LagoonOpera" "sheets" "[LLagoonOpera$Sheet;") ∈ bGood := tg2 32 rfl rfl
theorem m273 : (Jvm.Cond.fieldLink "LagoonOpera" (49 : Nat) "LagoonOpera" "voices" "LLagoonOpera$Voices;") ∈ bGood := tg2 33 rfl rfl
theorem m274 : (Jvm.Cond.fieldLink "LagoonOpera" (53 : Nat) "LagoonOpera" "refusals" "[I") ∈ bGood := tg2 34 rfl rfl
theorem m275 : (Jvm.Cond.fieldLink "LagoonOpera" (60 : Nat) "LagoonOpera" "reader" "LLagoonOpera$Reader;") ∈ bGood := tg2 35 rfl rfl
theorem m276 : (Jvm.Cond.fieldLink "LagoonOpera" (64 : Nat) "LagoonOpera" "ahead" "LLagoonOpera$Scene;") ∈ bGood := tg2 36 rfl rfl
theorem m277 : (Jvm.Cond.fieldLink "LagoonOpera" (70 : Nat) "LagoonOpera" "outlook" "LLagoonOpera$Outlook;") ∈ bGood := tg2 37 rfl rfl
theorem m278 : (Jvm.Cond.fieldLink "LagoonOpera" (74 : Nat) "LagoonOpera" "scores" "[I") ∈ bGood := tg2 38 rfl rfl
theorem m308 : (Jvm.Cond.methodLink "LagoonOperaLaw" (13 : Nat) ({ cls := "LagoonOpera", name := "tide", desc := "(II)I" } : Jvm.MethodName)) ∈ bGood := tg2 68 rfl rfl
theorem m309 : (Jvm.Cond.instanceMethod ({ cls := "LagoonOpera", name := "tide", desc := "(II)I" } : Jvm.MethodName)) ∈ bGood := tg2 69 rfl rfl
theorem m310 : (Jvm.Cond.selects "LagoonOpera" ({ cls := "LagoonOpera", name := "tide", desc := "(II)I" } : Jvm.MethodName) ({ cls := "LagoonOpera", name := "tide", desc := "(II)I" } : Jvm.MethodName)) ∈ bGood := tg2 70 rfl rfl
theorem m311 : (Jvm.Cond.code ({ cls := "LagoonOpera", name := "tide", desc := "(II)I" } : Jvm.MethodName) prog_1_method_2_code (4 : Nat) (Option.some Jvm.ClassFile.FieldType.int)) ∈ bGood := tg2 71 rfl rfl
theorem m312 : (Jvm.Cond.methodLink "LagoonOpera" (77 : Nat) ({ cls := "LagoonOpera", name := "within", desc := "(III)Z" } : Jvm.MethodName)) ∈ bGood := tg2 72 rfl rfl
theorem m313 : (Jvm.Cond.static ({ cls := "LagoonOpera", name := "within", desc := "(III)Z" } : Jvm.MethodName)) ∈ bGood := tg2 73 rfl rfl
theorem m314 : (Jvm.Cond.code ({ cls := "LagoonOpera", name := "within", desc := "(III)Z" } : Jvm.MethodName) prog_1_method_50_code (3 : Nat) (Option.some Jvm.ClassFile.FieldType.boolean)) ∈ bGood := tg2 74 rfl rfl
theorem m315 : (Jvm.Cond.methodLink "LagoonOpera" (81 : Nat) ({ cls := "LagoonOpera", name := "refuse", desc := "(I)I" } : Jvm.MethodName)) ∈ bGood := tg2 75 rfl rfl
theorem m317 : (Jvm.Cond.instanceMethod ({ cls := "LagoonOpera", name := "refuse", desc := "(I)I" } : Jvm.MethodName)) ∈ bGood := tg2 77 rfl rfl
theorem m318 : (Jvm.Cond.code ({ cls := "LagoonOpera", name := "refuse", desc := "(I)I" } : Jvm.MethodName) prog_1_method_43_code (2 : Nat) (Option.some Jvm.ClassFile.FieldType.int)) ∈ bGood := tg2 78 rfl rfl
theorem m319 : (Jvm.Cond.constant "LagoonOpera" (337 : Nat) (-1000000000 : Int32)) ∈ bGood := tg2 79 rfl rfl
theorem m320 : (Jvm.Cond.methodLink "LagoonOperaLaw" (18 : Nat) ({ cls := "LagoonOpera", name := "speed", desc := "(I)I" } : Jvm.MethodName)) ∈ bGood := tg2 80 rfl rfl
theorem m321 : (Jvm.Cond.instanceMethod ({ cls := "LagoonOpera", name := "speed", desc := "(I)I" } : Jvm.MethodName)) ∈ bGood := tg2 81 rfl rfl
theorem m322 : (Jvm.Cond.selects "LagoonOpera" ({ cls := "LagoonOpera", name := "speed", desc := "(I)I" } : Jvm.MethodName) ({ cls := "LagoonOpera", name := "speed", desc := "(I)I" } : Jvm.MethodName)) ∈ bGood := tg2 82 rfl rfl
theorem m323 : (Jvm.Cond.code ({ cls := "LagoonOpera", name := "speed", desc := "(I)I" } : Jvm.MethodName) prog_1_method_3_code (3 : Nat) (Option.some Jvm.ClassFile.FieldType.int)) ∈ bGood := tg2 83 rfl rfl
theorem m324 : (Jvm.Cond.methodLink "LagoonOperaLaw" (23 : Nat) ({ cls := "LagoonOpera", name := "boat", desc := "(II)I" } : Jvm.MethodName)) ∈ bGood := tg2 84 rfl rfl
theorem m325 : (Jvm.Cond.instanceMethod ({ cls := "LagoonOpera", name := "boat", desc := "(II)I" } : Jvm.MethodName)) ∈ bGood := tg2 85 rfl rfl
theorem m326 : (Jvm.Cond.selects "LagoonOpera" ({ cls := "LagoonOpera", name := "boat", desc := "(II)I" } : Jvm.MethodName) ({ cls := "LagoonOpera", name := "boat", desc := "(II)I" } : Jvm.MethodName)) ∈ bGood := tg2 86 rfl rfl
theorem m327 : (Jvm.Cond.code ({ cls := "LagoonOpera", name := "boat", desc := "(II)I" } : Jvm.MethodName) prog_1_method_4_code (3 : Nat) (Option.some Jvm.ClassFile.FieldType.int)) ∈ bGood := tg2 87 rfl rfl
theorem m328 : (Jvm.Cond.methodLink "LagoonOpera" (92 : Nat) ({ cls := "LagoonOpera", name := "isKindAndNumber", desc := "(I)Z" } : Jvm.MethodName)) ∈ bGood := tg2 88 rfl rfl
theorem m329 : (Jvm.Cond.static ({ cls := "LagoonOpera", name := "isKindAndNumber", desc := "(I)Z" } : Jvm.MethodName)) ∈ bGood := tg2 89 rfl rfl
theorem m330 : (Jvm.Cond.code ({ cls := "LagoonOpera", name := "isKindAndNumber", desc := "(I)Z" } : Jvm.MethodName) prog_1_method_53_code (1 : Nat) (Option.some Jvm.ClassFile.FieldType.boolean)) ∈ bGood := tg2 90 rfl rfl
theorem m331 : (Jvm.Cond.methodLink "LagoonOpera" (96 : Nat) ({ cls := "LagoonOpera", name := "isCell", desc := "(I)Z" } : Jvm.MethodName)) ∈ bGood := tg2 91 rfl rfl
theorem m332 : (Jvm.Cond.static ({ cls := "LagoonOpera", name := "isCell", desc := "(I)Z" } : Jvm.MethodName)) ∈ bGood := tg2 92 rfl rfl
theorem m333 : (Jvm.Cond.code ({ cls := "LagoonOpera", name := "isCell", desc := "(I)Z" } : Jvm.MethodName) prog_1_method_51_code (1 : Nat) (Option.some Jvm.ClassFile.FieldType.boolean)) ∈ bGood := tg2 93 rfl rfl
theorem m334 : (Jvm.Cond.methodLink "LagoonOpera" (108 : Nat) ({ cls := "LagoonOpera$Boats", name := "launch", desc := "(II)I" } : Jvm.MethodName)) ∈ bGood := tg2 94 rfl rfl
theorem m335 : (Jvm.Cond.instanceMethod ({ cls := "LagoonOpera$Boats", name := "launch", desc := "(II)I" } : Jvm.MethodName)) ∈ bGood := tg2 95 rfl rfl
theorem m336 : (Jvm.Cond.selects "LagoonOpera$Boats" ({ cls := "LagoonOpera$Boats", name := "launch", desc := "(II)I" } : Jvm.MethodName) ({ cls := "LagoonOpera$Boats", name := "launch", desc := "(II)I" } : Jvm.MethodName)) ∈ bGood := tg2 96 rfl rfl
theorem m337 : (Jvm.Cond.code ({ cls := "LagoonOpera$Boats", name := "launch", desc := "(II)I" } : Jvm.MethodName) prog_2_method_4_code (4 : Nat) (Option.some Jvm.ClassFile.FieldType.int)) ∈ bGood := tg2 97 rfl rfl
theorem m338 : (Jvm.Cond.methodLink "LagoonOperaLaw" (27 : Nat) ({ cls := "LagoonOpera", name := "ofBoat", desc := "(II)I" } : Jvm.MethodName)) ∈ bGood := tg2 98 rfl rfl
theorem m339 : (Jvm.Cond.instanceMethod ({ cls := "LagoonOpera", name := "ofBoat", desc := "(II)I" } : Jvm.MethodName)) ∈ bGood := tg2 99 rfl rfl
theorem m340 : (Jvm.Cond.selects "LagoonOpera" ({ cls := "LagoonOpera", name := "ofBoat", desc := "(II)I" } : Jvm.MethodName) ({ cls := "LagoonOpera", name := "ofBoat", desc := "(II)I" } : Jvm.MethodName)) ∈ bGood := tg2 100 rfl rfl
theorem m341 : (Jvm.Cond.code ({ cls := "LagoonOpera", name := "ofBoat", desc := "(II)I" } : Jvm.MethodName) prog_1_method_5_code (4 : Nat) (Option.some Jvm.ClassFile.FieldType.int)) ∈ bGood := tg2 101 rfl rfl
theorem m342 : (Jvm.Cond.methodLink "LagoonOpera" (112 : Nat) ({ cls := "LagoonOpera$Boats", name := "hold", desc := "(I)Z" } : Jvm.MethodName)) ∈ bGood := tg2 102 rfl rfl
theorem m343 : (Jvm.Cond.instanceMethod ({ cls := "LagoonOpera$Boats", name := "hold", desc := "(I)Z" } : Jvm.MethodName)) ∈ bGood := tg2 103 rfl rfl
theorem m344 : (Jvm.Cond.selects "LagoonOpera$Boats" ({ cls := "LagoonOpera$Boats", name := "hold", desc := "(I)Z" } : Jvm.MethodName) ({ cls := "LagoonOpera$Boats", name := "hold", desc := "(I)Z" } : Jvm.MethodName)) ∈ bGood := tg2 104 rfl rfl
theorem m345 : (Jvm.Cond.code ({ cls := "LagoonOpera$Boats", name := "hold", desc := "(I)Z" } : Jvm.MethodName) prog_2_method_3_code (2 : Nat) (Option.some Jvm.ClassFile.FieldType.boolean)) ∈ bGood := tg2 105 rfl rfl
theorem m346 : (Jvm.Cond.methodLink "LagoonOpera" (127 : Nat) ({ cls := "LagoonOpera$Scene", name := "pieceBeat", desc := "()I" } : Jvm.MethodName)) ∈ bGood := tg2 106 rfl rfl
theorem m347 : (Jvm.Cond.instanceMethod ({ cls := "LagoonOpera$Scene", name := "pieceBeat", desc := "()I" } : Jvm.MethodName)) ∈ bGood := tg2 107 rfl rfl
theorem m348 : (Jvm.Cond.selects "LagoonOpera$Scene" ({ cls := "LagoonOpera$Scene", name := "pieceBeat", desc := "()I" } : Jvm.MethodName) ({ cls := "LagoonOpera$Scene", name := "pieceBeat", desc := "()I" } : Jvm.MethodName)) ∈ bGood := tg2 108 rfl rfl
theorem m349 : (Jvm.Cond.code ({ cls := "LagoonOpera$Scene", name := "pieceBeat", desc := "()I" } : Jvm.MethodName) prog_8_method_3_code (1 : Nat) (Option.some Jvm.ClassFile.FieldType.int)) ∈ bGood := tg2 109 rfl rfl
theorem m350 : (Jvm.Cond.methodLink "LagoonOpera" (131 : Nat) ({ cls := "LagoonOpera$Boats", name := "sings", desc := "(II)Z" } : Jvm.MethodName)) ∈ bGood := tg2 110 rfl rfl
theorem m351 : (Jvm.Cond.instanceMethod ({ cls := "LagoonOpera$Boats", name := "sings", desc := "(II)Z" } : Jvm.MethodName)) ∈ bGood := tg2 111 rfl rfl
theorem m352 : (Jvm.Cond.selects "LagoonOpera$Boats" ({ cls := "LagoonOpera$Boats", name := "sings", desc := "(II)Z" } : Jvm.MethodName) ({ cls := "LagoonOpera$Boats", name := "sings", desc := "(II)Z" } : Jvm.MethodName)) ∈ bGood := tg2 112 rfl rfl
theorem m353 : (Jvm.Cond.code ({ cls := "LagoonOpera$Boats", name := "sings", desc := "(II)Z" } : Jvm.MethodName) prog_2_method_5_code (3 : Nat) (Option.some Jvm.ClassFile.FieldType.boolean)) ∈ bGood := tg2 113 rfl rfl
theorem m354 : (Jvm.Cond.methodLink "LagoonOpera$Boats" (34 : Nat) ({ cls := "LagoonOpera$Boats", name := "hold", desc := "(I)Z" } : Jvm.MethodName)) ∈ bGood := tg2 114 rfl rfl
theorem m355 : (Jvm.Cond.methodLink "LagoonOperaLaw" (31 : Nat) ({ cls := "LagoonOpera", name := "change", desc := "(III)I" } : Jvm.MethodName)) ∈ bGood := tg2 115 rfl rfl
theorem m356 : (Jvm.Cond.instanceMethod ({ cls := "LagoonOpera", name := "change", desc := "(III)I" } : Jvm.MethodName)) ∈ bGood := tg2 116 rfl rfl
theorem m357 : (Jvm.Cond.selects "LagoonOpera" ({ cls := "LagoonOpera", name := "change", desc := "(III)I" } : Jvm.MethodName) ({ cls := "LagoonOpera", name := "change", desc := "(III)I" } : Jvm.MethodName)) ∈ bGood := tg2 117 rfl rfl
theorem m358 : (Jvm.Cond.code ({ cls := "LagoonOpera", name := "change", desc := "(III)I" } : Jvm.MethodName) prog_1_method_6_code (6 : Nat) (Option.some Jvm.ClassFile.FieldType.int)) ∈ bGood := tg2 118 rfl rfl
theorem m359 : (Jvm.Cond.methodLink "LagoonOperaLaw" (36 : Nat) ({ cls := "LagoonOpera", name := "become", desc := "(II)I" } : Jvm.MethodName)) ∈ bGood := tg2 119 rfl rfl
theorem m360 : (Jvm.Cond.instanceMethod ({ cls := "LagoonOpera", name := "become", desc := "(II)I" } : Jvm.MethodName)) ∈ bGood := tg2 120 rfl rfl
theorem m361 : (Jvm.Cond.selects "LagoonOpera" ({ cls := "LagoonOpera", name := "become", desc := "(II)I" } : Jvm.MethodName) ({ cls := "LagoonOpera", name := "become", desc := "(II)I" } : Jvm.MethodName)) ∈ bGood := tg2 121 rfl rfl
theorem m362 : (Jvm.Cond.code ({ cls := "LagoonOpera", name := "become", desc := "(II)I" } : Jvm.MethodName) prog_1_method_7_code (5 : Nat) (Option.some Jvm.ClassFile.FieldType.int)) ∈ bGood := tg2 122 rfl rfl
theorem m363 : (Jvm.Cond.methodLink "LagoonOperaLaw" (40 : Nat) ({ cls := "LagoonOpera", name := "as", desc := "(II)I" } : Jvm.MethodName)) ∈ bGood := tg2 123 rfl rfl
theorem m364 : (Jvm.Cond.instanceMethod ({ cls := "LagoonOpera", name := "as", desc := "(II)I" } : Jvm.MethodName)) ∈ bGood := tg2 124 rfl rfl
theorem m365 : (Jvm.Cond.selects "LagoonOpera" ({ cls := "LagoonOpera", name := "as", desc := "(II)I" } : Jvm.MethodName) ({ cls := "LagoonOpera", name := "as", desc := "(II)I" } : Jvm.MethodName)) ∈ bGood := tg2 125 rfl rfl
theorem m366 : (Jvm.Cond.code ({ cls := "LagoonOpera", name := "as", desc := "(II)I" } : Jvm.MethodName) prog_1_method_8_code (4 : Nat) (Option.some Jvm.ClassFile.FieldType.int)) ∈ bGood := tg2 126 rfl rfl
theorem m367 : (Jvm.Cond.methodLink "LagoonOpera" (135 : Nat) ({ cls := "LagoonOpera", name := "isUnder", desc := "(II)Z" } : Jvm.MethodName)) ∈ bGood := tg2 127 rfl rfl
theorem m368 : (Jvm.Cond.static ({ cls := "LagoonOpera", name := "isUnder", desc := "(II)Z" } : Jvm.MethodName)) ∈ bGood := tg2 128 rfl rfl
theorem m369 : (Jvm.Cond.code ({ cls := "LagoonOpera", name := "isUnder", desc := "(II)Z" } : Jvm.MethodName) prog_1_method_57_code (4 : Nat) (Option.some Jvm.ClassFile.FieldType.boolean)) ∈ bGood := tg2 129 rfl rfl
theorem m370 : (Jvm.Cond.fieldLink "LagoonOpera" (343 : Nat) "LagoonOpera" "KIND_ABOVE" "[I") ∈ bGood := tg2 130 rfl rfl
theorem m372 : (Jvm.Cond.methodLink "LagoonOpera" (346 : Nat) ({ cls := "LagoonOpera", name := "above", desc := "(I)I" } : Jvm.MethodName)) ∈ bGood := tg2 132 rfl rfl
theorem m373 : (Jvm.Cond.static ({ cls := "LagoonOpera", name := "above", desc := "(I)I" } : Jvm.MethodName)) ∈ bGood := tg2 133 rfl rfl
theorem m374 : (Jvm.Cond.code ({ cls := "LagoonOpera", name := "above", desc := "(I)I" } : Jvm.MethodName) prog_1_method_56_code (1 : Nat) (Option.some Jvm.ClassFile.FieldType.int)) ∈ bGood := tg2 134 rfl rfl
theorem m375 : (Jvm.Cond.methodLink "LagoonOperaLaw" (44 : Nat) ({ cls := "LagoonOpera", name := "lag", desc := "(II)I" } : Jvm.MethodName)) ∈ bGood := tg2 135 rfl rfl
theorem m376 : (Jvm.Cond.instanceMethod ({ cls := "LagoonOpera", name := "lag", desc := "(II)I" } : Jvm.MethodName)) ∈ bGood := tg2 136 rfl rfl
theorem m377 : (Jvm.Cond.selects "LagoonOpera" ({ cls := "LagoonOpera", name := "lag", desc := "(II)I" } : Jvm.MethodName) ({ cls := "LagoonOpera", name := "lag", desc := "(II)I" } : Jvm.MethodName)) ∈ bGood := tg2 137 rfl rfl
theorem m378 : (Jvm.Cond.code ({ cls := "LagoonOpera", name := "lag", desc := "(II)I" } : Jvm.MethodName) prog_1_method_9_code (5 : Nat) (Option.some Jvm.ClassFile.FieldType.int)) ∈ bGood := tg2 138 rfl rfl
theorem m379 : (Jvm.Cond.methodLink "LagoonOpera" (138 : Nat) ({ cls := "LagoonOpera", name := "far", desc := "(II)I" } : Jvm.MethodName)) ∈ bGood := tg2 139 rfl rfl
theorem m380 : (Jvm.Cond.static ({ cls := "LagoonOpera", name := "far", desc := "(II)I" } : Jvm.MethodName)) ∈ bGood := tg2 140 rfl rfl
theorem m381 : (Jvm.Cond.code ({ cls := "LagoonOpera", name := "far", desc := "(II)I" } : Jvm.MethodName) prog_1_method_58_code (4 : Nat) (Option.some Jvm.ClassFile.FieldType.int)) ∈ bGood := tg2 141 rfl rfl
theorem m382 : (Jvm.Cond.methodLink "LagoonOpera" (349 : Nat) ({ cls := "java/lang/Math", name := "abs", desc := "(I)I" } : Jvm.MethodName)) ∈ bGood := tg2 142 rfl rfl
theorem m383 : (Jvm.Cond.static ({ cls := "java/lang/Math", name := "abs", desc := "(I)I" } : Jvm.MethodName)) ∈ bGood := tg2 143 rfl rfl
theorem m384 : (Jvm.Cond.code ({ cls := "java/lang/Math", name := "abs", desc := "(I)I" } : Jvm.MethodName) prog_15_method_59_code (1 : Nat) (Option.some Jvm.ClassFile.FieldType.int)) ∈ bGood := tg2 144 rfl rfl
theorem m385 : (Jvm.Cond.methodLink "LagoonOpera" (354 : Nat) ({ cls := "java/lang/Math", name := "max", desc := "(II)I" } : Jvm.MethodName)) ∈ bGood := tg2 145 rfl rfl
theorem m386 : (Jvm.Cond.static ({ cls := "java/lang/Math", name := "max", desc := "(II)I" } : Jvm.MethodName)) ∈ bGood := tg2 146 rfl rfl
theorem m387 : (Jvm.Cond.code ({ cls := "java/lang/Math", name := "max", desc := "(II)I" } : Jvm.MethodName) prog_15_method_65_code (2 : Nat) (Option.some Jvm.ClassFile.FieldType.int)) ∈ bGood := tg2 147 rfl rfl
theorem m388 : (Jvm.Cond.methodLink "LagoonOpera" (141 : Nat) ({ cls := "LagoonOpera$Laws", name := "lagBy", desc := "(III)I" } : Jvm.MethodName)) ∈ bGood := tg2 148 rfl rfl
theorem m389 : (Jvm.Cond.instanceMethod ({ cls := "LagoonOpera$Laws", name := "lagBy", desc := "(III)I" } : Jvm.MethodName)) ∈ bGood := tg2 149 rfl rfl
theorem m390 : (Jvm.Cond.selects "LagoonOpera$Laws" ({ cls := "LagoonOpera$Laws", name := "lagBy", desc := "(III)I" } : Jvm.MethodName) ({ cls := "LagoonOpera$Laws", name := "lagBy", desc := "(III)I" } : Jvm.MethodName)) ∈ bGood := tg2 150 rfl rfl
theorem m391 : (Jvm.Cond.code ({ cls := "LagoonOpera$Laws", name := "lagBy", desc := "(III)I" } : Jvm.MethodName) prog_5_method_5_code (5 : Nat) (Option.some Jvm.ClassFile.FieldType.int)) ∈ bGood := tg2 151 rfl rfl
theorem m392 : (Jvm.Cond.methodLink "LagoonOpera$Laws" (48 : Nat) ({ cls := "LagoonOpera$Laws", name := "gives", desc := "(IIII)I" } : Jvm.MethodName)) ∈ bGood := tg2 152 rfl rfl
theorem m393 : (Jvm.Cond.instanceMethod ({ cls := "LagoonOpera$Laws", name := "gives", desc := "(IIII)I" } : Jvm.MethodName)) ∈ bGood := tg2 153 rfl rfl
theorem m394 : (Jvm.Cond.selects "LagoonOpera$Laws" ({ cls := "LagoonOpera$Laws", name := "gives", desc := "(IIII)I" } : Jvm.MethodName) ({ cls := "LagoonOpera$Laws", name := "gives", desc := "(IIII)I" } : Jvm.MethodName)) ∈ bGood := tg2 154 rfl rfl
theorem m395 : (Jvm.Cond.code ({ cls := "LagoonOpera$Laws", name := "gives", desc := "(IIII)I" } : Jvm.MethodName) prog_5_method_6_code (7 : Nat) (Option.some Jvm.ClassFile.FieldType.int)) ∈ bGood := tg2 155 rfl rfl
theorem m396 : (Jvm.Cond.methodLink "LagoonOpera$Laws" (52 : Nat) ({ cls := "LagoonOpera$Formula", name := "isThere", desc := "()Z" } : Jvm.MethodName)) ∈ bGood := tg2 156 rfl rfl
theorem m397 : (Jvm.Cond.instanceMethod ({ cls := "LagoonOpera$Formula", name := "isThere", desc := "()Z" } : Jvm.MethodName)) ∈ bGood := tg2 157 rfl rfl
theorem m398 : (Jvm.Cond.selects "LagoonOpera$Formula" ({ cls := "LagoonOpera$Formula", name := "isThere", desc := "()Z" } : Jvm.MethodName) ({ cls := "LagoonOpera$Formula", name := "isThere", desc := "()Z" } : Jvm.MethodName)) ∈ bGood := tg2 158 rfl rfl
theorem m399 : (Jvm.Cond.code ({ cls := "LagoonOpera$Formula", name := "isThere", desc := "()Z" } : Jvm.MethodName) prog_4_method_2_code (1 : Nat) (Option.some Jvm.ClassFile.FieldType.boolean)) ∈ bGood := tg2 159 rfl rfl
theorem m400 : (Jvm.Cond.methodLink "LagoonOpera$Laws" (56 : Nat) ({ cls := "LagoonOpera$Formula", name := "worth", desc := "(III)I" } : Jvm.MethodName)) ∈ bGood := tg2 160 rfl rfl
theorem m401 : (Jvm.Cond.instanceMethod ({ cls := "LagoonOpera$Formula", name := "worth", desc := "(III)I" } : Jvm.MethodName)) ∈ bGood := tg2 161 rfl rfl
theorem m402 : (Jvm.Cond.selects "LagoonOpera$Formula" ({ cls := "LagoonOpera$Formula", name := "worth", desc := "(III)I" } : Jvm.MethodName) ({ cls := "LagoonOpera$Formula", name := "worth", desc := "(III)I" } : Jvm.MethodName)) ∈ bGood := tg2 162 rfl rfl
theorem m403 : (Jvm.Cond.code ({ cls := "LagoonOpera$Formula", name := "worth", desc := "(III)I" } : Jvm.MethodName) prog_4_method_5_code (7 : Nat) (Option.some Jvm.ClassFile.FieldType.int)) ∈ bGood := tg2 163 rfl rfl
theorem m404 : (Jvm.Cond.methodLink "LagoonOpera$Formula" (28 : Nat) ({ cls := "LagoonOpera$Formula", name := "joined", desc := "(III)I" } : Jvm.MethodName)) ∈ bGood := tg2 164 rfl rfl
theorem m405 : (Jvm.Cond.static ({ cls := "LagoonOpera$Formula", name := "joined", desc := "(III)I" } : Jvm.MethodName)) ∈ bGood := tg2 165 rfl rfl
theorem m406 : (Jvm.Cond.code ({ cls := "LagoonOpera$Formula", name := "joined", desc := "(III)I" } : Jvm.MethodName) prog_4_method_6_code (3 : Nat) (Option.some Jvm.ClassFile.FieldType.int)) ∈ bGood := tg2 166 rfl rfl
theorem m407 : (Jvm.Cond.methodLink "LagoonOpera$Laws" (60 : Nat) ({ cls := "LagoonOpera$Laws", name := "withoutText", desc := "(III)I" } : Jvm.MethodName)) ∈ bGood := tg2 167 rfl rfl
theorem m408 : (Jvm.Cond.static ({ cls := "LagoonOpera$Laws", name := "withoutText", desc := "(III)I" } : Jvm.MethodName)) ∈ bGood := tg2 168 rfl rfl
theorem m409 : (Jvm.Cond.code ({ cls := "LagoonOpera$Laws", name := "withoutText", desc := "(III)I" } : Jvm.MethodName) prog_5_method_7_code (3 : Nat) (Option.some Jvm.ClassFile.FieldType.int)) ∈ bGood := tg2 169 rfl rfl
theorem m410 : (Jvm.Cond.methodLink "LagoonOpera$Laws" (63 : Nat) ({ cls := "java/lang/Math", name := "min", desc := "(II)I" } : Jvm.MethodName)) ∈ bGood := tg2 170 rfl rfl
theorem m411 : (Jvm.Cond.static ({ cls := "java/lang/Math", name := "min", desc := "(II)I" } : Jvm.MethodName)) ∈ bGood := tg2 171 rfl rfl
theorem m412 : (Jvm.Cond.code ({ cls := "java/lang/Math", name := "min", desc := "(II)I" } : Jvm.MethodName) prog_15_method_69_code (2 : Nat) (Option.some Jvm.ClassFile.FieldType.int)) ∈ bGood := tg2 172 rfl rfl
theorem m413 : (Jvm.Cond.methodLink "LagoonOpera$Laws" (69 : Nat) ({ cls := "java/lang/Math", name := "max", desc := "(II)I" } : Jvm.MethodName)) ∈ bGood := tg2 173 rfl rfl
theorem m414 : (Jvm.Cond.methodLink "LagoonOpera" (145 : Nat) ({ cls := "LagoonOpera$Boats", name := "later", desc := "(I)I" } : Jvm.MethodName)) ∈ bGood := tg2 174 rfl rfl
theorem m415 : (Jvm.Cond.instanceMethod ({ cls := "LagoonOpera$Boats", name := "later", desc := "(I)I" } : Jvm.MethodName)) ∈ bGood := tg2 175 rfl rfl
theorem m416 : (Jvm.Cond.selects "LagoonOpera$Boats" ({ cls := "LagoonOpera$Boats", name := "later", desc := "(I)I" } : Jvm.MethodName) ({ cls := "LagoonOpera$Boats", name := "later", desc := "(I)I" } : Jvm.MethodName)) ∈ bGood := tg2 176 rfl rfl
theorem m417 : (Jvm.Cond.code ({ cls := "LagoonOpera$Boats", name := "later", desc := "(I)I" } : Jvm.MethodName) prog_2_method_7_code (2 : Nat) (Option.some Jvm.ClassFile.FieldType.int)) ∈ bGood := tg2 177 rfl rfl
theorem m418 : (Jvm.Cond.methodLink "LagoonOperaLaw" (48 : Nat) ({ cls := "LagoonOpera", name := "listener", desc := "(I)I" } : Jvm.MethodName)) ∈ bGood := tg2 178 rfl rfl
theorem m419 : (Jvm.Cond.instanceMethod ({ cls := "LagoonOpera", name := "listener", desc := "(I)I" } : Jvm.MethodName)) ∈ bGood := tg2 179 rfl rfl
theorem m420 : (Jvm.Cond.selects "LagoonOpera" ({ cls := "LagoonOpera", name := "listener", desc := "(I)I" } : Jvm.MethodName) ({ cls := "LagoonOpera", name := "listener", desc := "(I)I" } : Jvm.MethodName)) ∈ bGood := tg2 180 rfl rfl
theorem m421 : (Jvm.Cond.code ({ cls := "LagoonOpera", name := "listener", desc := "(I)I" } : Jvm.MethodName) prog_1_method_10_code (2 : Nat) (Option.some Jvm.ClassFile.FieldType.int)) ∈ bGood := tg2 181 rfl rfl
theorem m422 : (Jvm.Cond.methodLink "LagoonOpera" (151 : Nat) ({ cls := "LagoonOpera$Scene", name := "seat", desc := "(I)I" } : Jvm.MethodName)) ∈ bGood := tg2 182 rfl rfl
theorem m423 : (Jvm.Cond.instanceMethod ({ cls := "LagoonOpera$Scene", name := "seat", desc := "(I)I" } : Jvm.MethodName)) ∈ bGood := tg2 183 rfl rfl
theorem m424 : (Jvm.Cond.selects "LagoonOpera$Scene" ({ cls := "LagoonOpera$Scene", name := "seat", desc := "(I)I" } : Jvm.MethodName) ({ cls := "LagoonOpera$Scene", name := "seat", desc := "(I)I" } : Jvm.MethodName)) ∈ bGood := tg2 184 rfl rfl
theorem m425 : (Jvm.Cond.code ({ cls := "LagoonOpera$Scene", name := "seat", desc := "(I)I" } : Jvm.MethodName) prog_8_method_5_code (3 : Nat) (Option.some Jvm.ClassFile.FieldType.int)) ∈ bGood := tg2 185 rfl rfl
theorem m426 : (Jvm.Cond.methodLink "LagoonOperaLaw" (52 : Nat) ({ cls := "LagoonOpera", name := "ofListener", desc := "(II)I" } : Jvm.MethodName)) ∈ bGood := tg2 186 rfl rfl
theorem m427 : (Jvm.Cond.instanceMethod ({ cls := "LagoonOpera", name := "ofListener", desc := "(II)I" } : Jvm.MethodName)) ∈ bGood := tg2 187 rfl rfl
theorem m428 : (Jvm.Cond.selects "LagoonOpera" ({ cls := "LagoonOpera", name := "ofListener", desc := "(II)I" } : Jvm.MethodName) ({ cls := "LagoonOpera", name := "ofListener", desc := "(II)I" } : Jvm.MethodName)) ∈ bGood := tg2 188 rfl rfl
theorem m429 : (Jvm.Cond.code ({ cls := "LagoonOpera", name := "ofListener", desc := "(II)I" } : Jvm.MethodName) prog_1_method_11_code (3 : Nat) (Option.some Jvm.ClassFile.FieldType.int)) ∈ bGood := tg2 189 rfl rfl
theorem m430 : (Jvm.Cond.methodLink "LagoonOpera" (154 : Nat) ({ cls := "LagoonOpera$Scene", name := "seats", desc := "(I)Z" } : Jvm.MethodName)) ∈ bGood := tg2 190 rfl rfl
theorem m431 : (Jvm.Cond.instanceMethod ({ cls := "LagoonOpera$Scene", name := "seats", desc := "(I)Z" } : Jvm.MethodName)) ∈ bGood := tg2 191 rfl rfl
theorem m432 : (Jvm.Cond.selects "LagoonOpera$Scene" ({ cls := "LagoonOpera$Scene", name := "seats", desc := "(I)Z" } : Jvm.MethodName) ({ cls := "LagoonOpera$Scene", name := "seats", desc := "(I)Z" } : Jvm.MethodName)) ∈ bGood := tg2 192 rfl rfl
theorem m433 : (Jvm.Cond.code ({ cls := "LagoonOpera$Scene", name := "seats", desc := "(I)Z" } : Jvm.MethodName) prog_8_method_4_code (2 : Nat) (Option.some Jvm.ClassFile.FieldType.boolean)) ∈ bGood := tg2 193 rfl rfl
theorem m434 : (Jvm.Cond.methodLink "LagoonOpera" (157 : Nat) ({ cls := "LagoonOpera$Scene", name := "tellOf", desc := "(LLagoonOpera$Laws;II)I" } : Jvm.MethodName)) ∈ bGood := tg2 194 rfl rfl
theorem m435 : (Jvm.Cond.instanceMethod ({ cls := "LagoonOpera$Scene", name := "tellOf", desc := "(LLagoonOpera$Laws;II)I" } : Jvm.MethodName)) ∈ bGood := tg2 195 rfl rfl
theorem m436 : (Jvm.Cond.selects "LagoonOpera$Scene" ({ cls := "LagoonOpera$Scene", name := "tellOf", desc := "(LLagoonOpera$Laws;II)I" } : Jvm.MethodName) ({ cls := "LagoonOpera$Scene", name := "tellOf", desc := "(LLagoonOpera$Laws;II)I" } : Jvm.MethodName)) ∈ bGood := tg2 196 rfl rfl
theorem m437 : (Jvm.Cond.code ({ cls := "LagoonOpera$Scene", name := "tellOf", desc := "(LLagoonOpera$Laws;II)I" } : Jvm.MethodName) prog_8_method_7_code (5 : Nat) (Option.some Jvm.ClassFile.FieldType.int)) ∈ bGood := tg2 197 rfl rfl
theorem m438 : (Jvm.Cond.methodLink "LagoonOpera$Scene" (51 : Nat) ({ cls := "LagoonOpera$Scene", name := "seats", desc := "(I)Z" } : Jvm.MethodName)) ∈ bGood := tg2 198 rfl rfl
theorem m439 : (Jvm.Cond.methodLink "LagoonOpera$Scene" (55 : Nat) ({ cls := "LagoonOpera$Scene", name := "pieceBeat", desc := "()I" } : Jvm.MethodName)) ∈ bGood := tg2 199 rfl rfl
theorem m440 : (Jvm.Cond.methodLink "LagoonOpera$Scene" (67 : Nat) ({ cls := "LagoonOpera$Boats", name := "singers", desc := "(I)I" } : Jvm.MethodName)) ∈ bGood := tg2 200 rfl rfl
theorem m441 : (Jvm.Cond.instanceMethod ({ cls := "LagoonOpera$Boats", name := "singers", desc := "(I)I" } : Jvm.MethodName)) ∈ bGood := tg2 201 rfl rfl
theorem m442 : (Jvm.Cond.selects "LagoonOpera$Boats" ({ cls := "LagoonOpera$Boats", name := "singers", desc := "(I)I" } : Jvm.MethodName) ({ cls := "LagoonOpera$Boats", name := "singers", desc := "(I)I" } : Jvm.MethodName)) ∈ bGood := tg2 202 rfl rfl
theorem m443 : (Jvm.Cond.code ({ cls := "LagoonOpera$Boats", name := "singers", desc := "(I)I" } : Jvm.MethodName) prog_2_method_6_code (4 : Nat) (Option.some Jvm.ClassFile.FieldType.int)) ∈ bGood := tg2 203 rfl rfl
theorem m444 : (Jvm.Cond.methodLink "LagoonOpera$Boats" (38 : Nat) ({ cls := "LagoonOpera$Boats", name := "sings", desc := "(II)Z" } : Jvm.MethodName)) ∈ bGood := tg2 204 rfl rfl
theorem m445 : (Jvm.Cond.methodLink "LagoonOpera$Scene" (71 : Nat) ({ cls := "LagoonOpera$Boats", name := "together", desc := "(LLagoonOpera$Laws;[IIIII)Z" } : Jvm.MethodName)) ∈ bGood := tg2 205 rfl rfl
theorem m446 : (Jvm.Cond.instanceMethod ({ cls := "LagoonOpera$Boats", name := "together", desc := "(LLagoonOpera$Laws;[IIIII)Z" } : Jvm.MethodName)) ∈ bGood := tg2 206 rfl rfl
theorem m447 : (Jvm.Cond.selects "LagoonOpera$Boats" ({ cls := "LagoonOpera$Boats", name := "together", desc := "(LLagoonOpera$Laws;[IIIII)Z" } : Jvm.MethodName) ({ cls := "LagoonOpera$Boats", name := "together", desc := "(LLagoonOpera$Laws;[IIIII)Z" } : Jvm.MethodName)) ∈ bGood := tg2 207 rfl rfl
theorem m448 : (Jvm.Cond.code ({ cls := "LagoonOpera$Boats", name := "together", desc := "(LLagoonOpera$Laws;[IIIII)Z" } : Jvm.MethodName) prog_2_method_11_code (10 : Nat) (Option.some Jvm.ClassFile.FieldType.boolean)) ∈ bGood := tg2 208 rfl rfl
theorem m449 : (Jvm.Cond.methodLink "LagoonOpera$Boats" (54 : Nat) ({ cls := "java/lang/Integer", name := "bitCount", desc := "(I)I" } : Jvm.MethodName)) ∈ bGood := tg2 209 rfl rfl
theorem m450 : (Jvm.Cond.static ({ cls := "java/lang/Integer", name := "bitCount", desc := "(I)I" } : Jvm.MethodName)) ∈ bGood := tg2 210 rfl rfl
theorem m451 : (Jvm.Cond.code ({ cls := "java/lang/Integer", name := "bitCount", desc := "(I)I" } : Jvm.MethodName) prog_13_method_49_code (1 : Nat) (Option.some Jvm.ClassFile.FieldType.int)) ∈ bGood := tg2 211 rfl rfl
theorem m452 : (Jvm.Cond.constant "java/lang/Integer" (265 : Nat) (1431655765 : Int32)) ∈ bGood := tg2 212 rfl rfl
theorem m453 : (Jvm.Cond.constant "java/lang/Integer" (266 : Nat) (858993459 : Int32)) ∈ bGood := tg2 213 rfl rfl
theorem m454 : (Jvm.Cond.constant "java/lang/Integer" (267 : Nat) (252645135 : Int32)) ∈ bGood := tg2 214 rfl rfl
theorem m455 : (Jvm.Cond.methodLinkNest "LagoonOpera$Boats" (60 : Nat) ({ cls := "LagoonOpera", name := "far", desc := "(II)I" } : Jvm.MethodName) "LagoonOpera") ∈ bNl := tn2 215 rfl rfl
theorem m456 : (Jvm.Cond.methodLink "LagoonOpera$Boats" (63 : Nat) ({ cls := "LagoonOpera$Laws", name := "lagBy", desc := "(III)I" } : Jvm.MethodName)) ∈ bGood := tg2 216 rfl rfl
theorem m457 : (Jvm.Cond.methodLink "LagoonOpera$Boats" (68 : Nat) ({ cls := "LagoonOpera$Boats", name := "later", desc := "(I)I" } : Jvm.MethodName)) ∈ bGood := tg2 217 rfl rfl
theorem m458 : (Jvm.Cond.methodLink "LagoonOperaLaw" (56 : Nat) ({ cls := "LagoonOpera", name := "row", desc := "(II)I" } : Jvm.MethodName)) ∈ bGood := tg2 218 rfl rfl
theorem m459 : (Jvm.Cond.instanceMethod ({ cls := "LagoonOpera", name := "row", desc := "(II)I" } : Jvm.MethodName)) ∈ bGood := tg2 219 rfl rfl
theorem m460 : (Jvm.Cond.selects "LagoonOpera" ({ cls := "LagoonOpera", name := "row", desc := "(II)I" } : Jvm.MethodName) ({ cls := "LagoonOpera", name := "row", desc := "(II)I" } : Jvm.MethodName)) ∈ bGood := tg2 220 rfl rfl
theorem m461 : (Jvm.Cond.code ({ cls := "LagoonOpera", name := "row", desc := "(II)I" } : Jvm.MethodName) prog_1_method_12_code (4 : Nat) (Option.some Jvm.ClassFile.FieldType.int)) ∈ bGood := tg2 221 rfl rfl
theorem m462 : (Jvm.Cond.methodLink "LagoonOperaLaw" (62 : Nat) ({ cls := "LagoonOpera", name := "feed", desc := "(JI)I" } : Jvm.MethodName)) ∈ bGood := tg2 222 rfl rfl
theorem m463 : (Jvm.Cond.instanceMethod ({ cls := "LagoonOpera", name := "feed", desc := "(JI)I" } : Jvm.MethodName)) ∈ bGood := tg2 223 rfl rfl
theorem m464 : (Jvm.Cond.selects "LagoonOpera" ({ cls := "LagoonOpera", name := "feed", desc := "(JI)I" } : Jvm.MethodName) ({ cls := "LagoonOpera", name := "feed", desc := "(JI)I" } : Jvm.MethodName)) ∈ bGood := tg2 224 rfl rfl
theorem m465 : (Jvm.Cond.code ({ cls := "LagoonOpera", name := "feed", desc := "(JI)I" } : Jvm.MethodName) prog_1_method_13_code (4 : Nat) (Option.some Jvm.ClassFile.FieldType.int)) ∈ bGood := tg2 225 rfl rfl
theorem m466 : (Jvm.Cond.methodLink "LagoonOpera" (167 : Nat) ({ cls := "LagoonOpera$Desk", name := "take", desc := "(JI)V" } : Jvm.MethodName)) ∈ bGood := tg2 226 rfl rfl
theorem m467 : (Jvm.Cond.instanceMethod ({ cls := "LagoonOpera$Desk", name := "take", desc := "(JI)V" } : Jvm.MethodName)) ∈ bGood := tg2 227 rfl rfl
theorem m468 : (Jvm.Cond.selects "LagoonOpera$Desk" ({ cls := "LagoonOpera$Desk", name := "take", desc := "(JI)V" } : Jvm.MethodName) ({ cls := "LagoonOpera$Desk", name := "take", desc := "(JI)V" } : Jvm.MethodName)) ∈ bGood := tg2 228 rfl rfl
theorem m469 : (Jvm.Cond.code ({ cls := "LagoonOpera$Desk", name := "take", desc := "(JI)V" } : Jvm.MethodName) prog_3_method_3_code (5 : Nat) (Option.none : Option Jvm.ClassFile.FieldType)) ∈ bGood := tg2 229 rfl rfl
theorem m470 : (Jvm.Cond.methodLink "LagoonOperaLaw" (67 : Nat) ({ cls := "LagoonOpera", name := "text", desc := "(I)I" } : Jvm.MethodName)) ∈ bGood := tg2 230 rfl rfl
theorem m471 : (Jvm.Cond.instanceMethod ({ cls := "LagoonOpera", name := "text", desc := "(I)I" } : Jvm.MethodName)) ∈ bGood := tg2 231 rfl rfl
theorem m472 : (Jvm.Cond.selects "LagoonOpera" ({ cls := "LagoonOpera", name := "text", desc := "(I)I" } : Jvm.MethodName) ({ cls := "LagoonOpera", name := "text", desc := "(I)I" } : Jvm.MethodName)) ∈ bGood := tg2 232 rfl rfl
theorem m473 : (Jvm.Cond.code ({ cls := "LagoonOpera", name := "text", desc := "(I)I" } : Jvm.MethodName) prog_1_method_14_code (3 : Nat) (Option.some Jvm.ClassFile.FieldType.int)) ∈ bGood := tg2 233 rfl rfl
theorem m474 : (Jvm.Cond.methodLink "LagoonOpera" (174 : Nat) ({ cls := "LagoonOpera$Reader", name := "reads", desc := "([III)Z" } : Jvm.MethodName)) ∈ bGood := tg2 234 rfl rfl
theorem m475 : (Jvm.Cond.instanceMethod ({ cls := "LagoonOpera$Reader", name := "reads", desc := "([III)Z" } : Jvm.MethodName)) ∈ bGood := tg2 235 rfl rfl
theorem m476 : (Jvm.Cond.selects "LagoonOpera$Reader" ({ cls := "LagoonOpera$Reader", name := "reads", desc := "([III)Z" } : Jvm.MethodName) ({ cls := "LagoonOpera$Reader", name := "reads", desc := "([III)Z" } : Jvm.MethodName)) ∈ bGood := tg2 236 rfl rfl
theorem m477 : (Jvm.Cond.code ({ cls := "LagoonOpera$Reader", name := "reads", desc := "([III)Z" } : Jvm.MethodName) prog_7_method_2_code (4 : Nat) (Option.some Jvm.ClassFile.FieldType.boolean)) ∈ bGood := tg2 237 rfl rfl
theorem m478 : (Jvm.Cond.methodLink "LagoonOpera$Reader" (22 : Nat) ({ cls := "java/lang/Math", name := "min", desc := "(II)I" } : Jvm.MethodName)) ∈ bGood := tg2 238 rfl rfl
theorem m479 : (Jvm.Cond.methodLink "LagoonOpera$Reader" (28 : Nat) ({ cls := "java/lang/Math", name := "max", desc := "(II)I" } : Jvm.MethodName)) ∈ bGood := tg2 239 rfl rfl
theorem m480 : (Jvm.Cond.methodLink "LagoonOpera$Reader" (35 : Nat) ({ cls := "java/lang/System", name := "arraycopy", desc := "(Ljava/lang/Object;ILjava/lang/Object;II)V" } : Jvm.MethodName)) ∈ bGood := tg3 0 rfl rfl
theorem m481 : (Jvm.Cond.static ({ cls := "java/lang/System", name := "arraycopy", desc := "(Ljava/lang/Object;ILjava/lang/Object;II)V" } : Jvm.MethodName)) ∈ bGood := tg3 1 rfl rfl
theorem m482 : (Jvm.Cond.native ({ cls := "java/lang/System", name := "arraycopy", desc := "(Ljava/lang/Object;ILjava/lang/Object;II)V" } : Jvm.MethodName)) ∈ bGood := tg3 2 rfl rfl
theorem m483 : (Jvm.Cond.methodLink "LagoonOpera$Reader" (48 : Nat) ({ cls := "LagoonOpera$Reader", name := "readT", desc := "(I)Z" } : Jvm.MethodName)) ∈ bGood := tg3 3 rfl rfl
theorem m485 : (Jvm.Cond.instanceMethod ({ cls := "LagoonOpera$Reader", name := "readT", desc := "(I)Z" } : Jvm.MethodName)) ∈ bGood := tg3 5 rfl rfl
theorem m486 : (Jvm.Cond.code ({ cls := "LagoonOpera$Reader", name := "readT", desc := "(I)Z" } : Jvm.MethodName) prog_7_method_5_code (3 : Nat) (Option.some Jvm.ClassFile.FieldType.boolean)) ∈ bGood := tg3 6 rfl rfl
theorem m487 : (Jvm.Cond.methodLink "LagoonOpera$Reader" (56 : Nat) ({ cls := "LagoonOpera$Reader", name := "readA", desc := "(I)Z" } : Jvm.MethodName)) ∈ bGood := tg3 7 rfl rfl
theorem m489 : (Jvm.Cond.instanceMethod ({ cls := "LagoonOpera$Reader", name := "readA", desc := "(I)Z" } : Jvm.MethodName)) ∈ bGood := tg3 9 rfl rfl
theorem m490 : (Jvm.Cond.code ({ cls := "LagoonOpera$Reader", name := "readA", desc := "(I)Z" } : Jvm.MethodName) prog_7_method_6_code (3 : Nat) (Option.some Jvm.ClassFile.FieldType.boolean)) ∈ bGood := tg3 10 rfl rfl
theorem m491 : (Jvm.Cond.methodLink "LagoonOpera$Reader" (66 : Nat) ({ cls := "LagoonOpera$Reader", name := "readB", desc := "(I)Z" } : Jvm.MethodName)) ∈ bGood := tg3 11 rfl rfl
theorem m493 : (Jvm.Cond.instanceMethod ({ cls := "LagoonOpera$Reader", name := "readB", desc := "(I)Z" } : Jvm.MethodName)) ∈ bGood := tg3 13 rfl rfl
theorem m494 : (Jvm.Cond.code ({ cls := "LagoonOpera$Reader", name := "readB", desc := "(I)Z" } : Jvm.MethodName) prog_7_method_7_code (3 : Nat) (Option.some Jvm.ClassFile.FieldType.boolean)) ∈ bGood := tg3 14 rfl rfl
theorem m495 : (Jvm.Cond.methodLink "LagoonOpera$Reader" (69 : Nat) ({ cls := "LagoonOpera$Reader", name := "readS", desc := "(I)Z" } : Jvm.MethodName)) ∈ bGood := tg3 15 rfl rfl
theorem m497 : (Jvm.Cond.instanceMethod ({ cls := "LagoonOpera$Reader", name := "readS", desc := "(I)Z" } : Jvm.MethodName)) ∈ bGood := tg3 17 rfl rfl
theorem m498 : (Jvm.Cond.code ({ cls := "LagoonOpera$Reader", name := "readS", desc := "(I)Z" } : Jvm.MethodName) prog_7_method_8_code (4 : Nat) (Option.some Jvm.ClassFile.FieldType.boolean)) ∈ bGood := tg3 18 rfl rfl
theorem m499 : (Jvm.Cond.methodLink "LagoonOpera$Reader" (72 : Nat) ({ cls := "LagoonOpera$Reader", name := "readP", desc := "(I)Z" } : Jvm.MethodName)) ∈ bGood := tg3 19 rfl rfl
theorem m501 : (Jvm.Cond.instanceMethod ({ cls := "LagoonOpera$Reader", name := "readP", desc := "(I)Z" } : Jvm.MethodName)) ∈ bGood := tg3 21 rfl rfl
theorem m502 : (Jvm.Cond.code ({ cls := "LagoonOpera$Reader", name := "readP", desc := "(I)Z" } : Jvm.MethodName) prog_7_method_9_code (4 : Nat) (Option.some Jvm.ClassFile.FieldType.boolean)) ∈ bGood := tg3 22 rfl rfl
theorem m503 : (Jvm.Cond.methodLink "LagoonOpera$Reader" (75 : Nat) ({ cls := "LagoonOpera$Reader", name := "readQ", desc := "(I)Z" } : Jvm.MethodName)) ∈ bGood := tg3 23 rfl rfl
theorem m505 : (Jvm.Cond.instanceMethod ({ cls := "LagoonOpera$Reader", name := "readQ", desc := "(I)Z" } : Jvm.MethodName)) ∈ bGood := tg3 25 rfl rfl
theorem m506 : (Jvm.Cond.code ({ cls := "LagoonOpera$Reader", name := "readQ", desc := "(I)Z" } : Jvm.MethodName) prog_7_method_10_code (2 : Nat) (Option.some Jvm.ClassFile.FieldType.boolean)) ∈ bGood := tg3 26 rfl rfl
theorem m507 : (Jvm.Cond.methodLink "LagoonOpera$Reader" (52 : Nat) ({ cls := "LagoonOpera$Reader", name := "sign", desc := "()I" } : Jvm.MethodName)) ∈ bGood := tg3 27 rfl rfl
theorem m509 : (Jvm.Cond.instanceMethod ({ cls := "LagoonOpera$Reader", name := "sign", desc := "()I" } : Jvm.MethodName)) ∈ bGood := tg3 29 rfl rfl
theorem m510 : (Jvm.Cond.code ({ cls := "LagoonOpera$Reader", name := "sign", desc := "()I" } : Jvm.MethodName) prog_7_method_3_code (1 : Nat) (Option.some Jvm.ClassFile.FieldType.int)) ∈ bGood := tg3 30 rfl rfl
theorem m511 : (Jvm.Cond.methodLink "LagoonOpera$Reader" (78 : Nat) ({ cls := "LagoonOpera$Reader", name := "isDigit", desc := "(I)Z" } : Jvm.MethodName)) ∈ bGood := tg3 31 rfl rfl
theorem m512 : (Jvm.Cond.static ({ cls := "LagoonOpera$Reader", name := "isDigit", desc := "(I)Z" } : Jvm.MethodName)) ∈ bGood := tg3 32 rfl rfl
theorem m513 : (Jvm.Cond.code ({ cls := "LagoonOpera$Reader", name := "isDigit", desc := "(I)Z" } : Jvm.MethodName) prog_7_method_13_code (1 : Nat) (Option.some Jvm.ClassFile.FieldType.boolean)) ∈ bGood := tg3 33 rfl rfl
theorem m514 : (Jvm.Cond.methodLink "LagoonOpera$Reader" (81 : Nat) ({ cls := "LagoonOpera$Reader", name := "readNumber", desc := "()V" } : Jvm.MethodName)) ∈ bGood := tg3 34 rfl rfl
theorem m516 : (Jvm.Cond.instanceMethod ({ cls := "LagoonOpera$Reader", name := "readNumber", desc := "()V" } : Jvm.MethodName)) ∈ bGood := tg3 36 rfl rfl
theorem m517 : (Jvm.Cond.code ({ cls := "LagoonOpera$Reader", name := "readNumber", desc := "()V" } : Jvm.MethodName) prog_7_method_11_code (3 : Nat) (Option.none : Option Jvm.ClassFile.FieldType)) ∈ bGood := tg3 37 rfl rfl
theorem m518 : (Jvm.Cond.methodLink "LagoonOpera$Reader" (62 : Nat) ({ cls := "LagoonOpera$Formula", name := "add", desc := "(I)V" } : Jvm.MethodName)) ∈ bGood := tg3 38 rfl rfl
theorem m519 : (Jvm.Cond.instanceMethod ({ cls := "LagoonOpera$Formula", name := "add", desc := "(I)V" } : Jvm.MethodName)) ∈ bGood := tg3 39 rfl rfl
theorem m520 : (Jvm.Cond.selects "LagoonOpera$Formula" ({ cls := "LagoonOpera$Formula", name := "add", desc := "(I)V" } : Jvm.MethodName) ({ cls := "LagoonOpera$Formula", name := "add", desc := "(I)V" } : Jvm.MethodName)) ∈ bGood := tg3 40 rfl rfl
theorem m521 : (Jvm.Cond.code ({ cls := "LagoonOpera$Formula", name := "add", desc := "(I)V" } : Jvm.MethodName) prog_4_method_4_code (2 : Nat) (Option.none : Option Jvm.ClassFile.FieldType)) ∈ bGood := tg3 41 rfl rfl
theorem m522 : (Jvm.Cond.methodLink "LagoonOpera$Reader" (84 : Nat) ({ cls := "LagoonOpera$Reader", name := "readName", desc := "()Z" } : Jvm.MethodName)) ∈ bGood := tg3 42 rfl rfl
theorem m524 : (Jvm.Cond.instanceMethod ({ cls := "LagoonOpera$Reader", name := "readName", desc := "()Z" } : Jvm.MethodName)) ∈ bGood := tg3 44 rfl rfl
theorem m525 : (Jvm.Cond.code ({ cls := "LagoonOpera$Reader", name := "readName", desc := "()Z" } : Jvm.MethodName) prog_7_method_12_code (3 : Nat) (Option.some Jvm.ClassFile.FieldType.boolean)) ∈ bGood := tg3 45 rfl rfl
theorem m526 : (Jvm.Cond.fieldLink "LagoonOpera$Reader" (88 : Nat) "LagoonOpera$Reader" "NAMES" "[C") ∈ bGood := tg3 46 rfl rfl
theorem m528 : (Jvm.Cond.methodLink "LagoonOpera$Reader" (59 : Nat) ({ cls := "LagoonOpera$Reader", name := "takes", desc := "(I)Z" } : Jvm.MethodName)) ∈ bGood := tg3 48 rfl rfl
theorem m530 : (Jvm.Cond.instanceMethod ({ cls := "LagoonOpera$Reader", name := "takes", desc := "(I)Z" } : Jvm.MethodName)) ∈ bGood := tg3 50 rfl rfl
theorem m531 : (Jvm.Cond.code ({ cls := "LagoonOpera$Reader", name := "takes", desc := "(I)Z" } : Jvm.MethodName) prog_7_method_4_code (2 : Nat) (Option.some Jvm.ClassFile.FieldType.boolean)) ∈ bGood := tg3 51 rfl rfl
theorem m532 : (Jvm.Cond.methodLink "LagoonOpera" (185 : Nat) ({ cls := "LagoonOpera$Laws", name := "adopt", desc := "(ILLagoonOpera$Formula;)V" } : Jvm.MethodName)) ∈ bGood := tg3 52 rfl rfl
theorem m533 : (Jvm.Cond.instanceMethod ({ cls := "LagoonOpera$Laws", name := "adopt", desc := "(ILLagoonOpera$Formula;)V" } : Jvm.MethodName)) ∈ bGood := tg3 53 rfl rfl
theorem m534 : (Jvm.Cond.selects "LagoonOpera$Laws" ({ cls := "LagoonOpera$Laws", name := "adopt", desc := "(ILLagoonOpera$Formula;)V" } : Jvm.MethodName) ({ cls := "LagoonOpera$Laws", name := "adopt", desc := "(ILLagoonOpera$Formula;)V" } : Jvm.MethodName)) ∈ bGood := tg3 54 rfl rfl
theorem m535 : (Jvm.Cond.code ({ cls := "LagoonOpera$Laws", name := "adopt", desc := "(ILLagoonOpera$Formula;)V" } : Jvm.MethodName) prog_5_method_3_code (3 : Nat) (Option.none : Option Jvm.ClassFile.FieldType)) ∈ bGood := tg3 55 rfl rfl
theorem m536 : (Jvm.Cond.methodLink "LagoonOpera$Laws" (44 : Nat) ({ cls := "LagoonOpera$Formula", name := "copy", desc := "(LLagoonOpera$Formula;)V" } : Jvm.MethodName)) ∈ bGood := tg3 56 rfl rfl
theorem m537 : (Jvm.Cond.instanceMethod ({ cls := "LagoonOpera$Formula", name := "copy", desc := "(LLagoonOpera$Formula;)V" } : Jvm.MethodName)) ∈ bGood := tg3 57 rfl rfl
theorem m538 : (Jvm.Cond.selects "LagoonOpera$Formula" ({ cls := "LagoonOpera$Formula", name := "copy", desc := "(LLagoonOpera$Formula;)V" } : Jvm.MethodName) ({ cls := "LagoonOpera$Formula", name := "copy", desc := "(LLagoonOpera$Formula;)V" } : Jvm.MethodName)) ∈ bGood := tg3 58 rfl rfl
theorem m539 : (Jvm.Cond.code ({ cls := "LagoonOpera$Formula", name := "copy", desc := "(LLagoonOpera$Formula;)V" } : Jvm.MethodName) prog_4_method_3_code (2 : Nat) (Option.none : Option Jvm.ClassFile.FieldType)) ∈ bGood := tg3 59 rfl rfl
theorem m540 : (Jvm.Cond.methodLink "LagoonOpera$Formula" (22 : Nat) ({ cls := "java/lang/System", name := "arraycopy", desc := "(Ljava/lang/Object;ILjava/lang/Object;II)V" } : Jvm.MethodName)) ∈ bGood := tg3 60 rfl rfl
theorem m541 : (Jvm.Cond.methodLink "LagoonOperaLaw" (71 : Nat) ({ cls := "LagoonOpera", name := "law", desc := "(IIII)I" } : Jvm.MethodName)) ∈ bGood := tg3 61 rfl rfl
theorem m542 : (Jvm.Cond.instanceMethod ({ cls := "LagoonOpera", name := "law", desc := "(IIII)I" } : Jvm.MethodName)) ∈ bGood := tg3 62 rfl rfl
theorem m543 : (Jvm.Cond.selects "LagoonOpera" ({ cls := "LagoonOpera", name := "law", desc := "(IIII)I" } : Jvm.MethodName) ({ cls := "LagoonOpera", name := "law", desc := "(IIII)I" } : Jvm.MethodName)) ∈ bGood := tg3 63 rfl rfl
theorem m544 : (Jvm.Cond.code ({ cls := "LagoonOpera", name := "law", desc := "(IIII)I" } : Jvm.MethodName) prog_1_method_15_code (5 : Nat) (Option.some Jvm.ClassFile.FieldType.int)) ∈ bGood := tg3 64 rfl rfl
theorem m545 : (Jvm.Cond.methodLink "LagoonOpera" (189 : Nat) ({ cls := "LagoonOpera$Laws", name := "gives", desc := "(IIII)I" } : Jvm.MethodName)) ∈ bGood := tg3 65 rfl rfl
theorem m546 : (Jvm.Cond.methodLink "LagoonOperaLaw" (76 : Nat) ({ cls := "LagoonOpera", name := "beats", desc := "(I)I" } : Jvm.MethodName)) ∈ bGood := tg3 66 rfl rfl
theorem m547 : (Jvm.Cond.instanceMethod ({ cls := "LagoonOpera", name := "beats", desc := "(I)I" } : Jvm.MethodName)) ∈ bGood := tg3 67 rfl rfl
theorem m548 : (Jvm.Cond.selects "LagoonOpera" ({ cls := "LagoonOpera", name := "beats", desc := "(I)I" } : Jvm.MethodName) ({ cls := "LagoonOpera", name := "beats", desc := "(I)I" } : Jvm.MethodName)) ∈ bGood := tg3 68 rfl rfl
theorem m549 : (Jvm.Cond.code ({ cls := "LagoonOpera", name := "beats", desc := "(I)I" } : Jvm.MethodName) prog_1_method_16_code (2 : Nat) (Option.some Jvm.ClassFile.FieldType.int)) ∈ bGood := tg3 69 rfl rfl
theorem m550 : (Jvm.Cond.methodLink "LagoonOpera" (193 : Nat) ({ cls := "LagoonOpera", name := "goOn", desc := "(IZ)I" } : Jvm.MethodName)) ∈ bGood := tg3 70 rfl rfl
theorem m552 : (Jvm.Cond.instanceMethod ({ cls := "LagoonOpera", name := "goOn", desc := "(IZ)I" } : Jvm.MethodName)) ∈ bGood := tg3 72 rfl rfl
theorem m553 : (Jvm.Cond.code ({ cls := "LagoonOpera", name := "goOn", desc := "(IZ)I" } : Jvm.MethodName) prog_1_method_44_code (4 : Nat) (Option.some Jvm.ClassFile.FieldType.int)) ∈ bGood := tg3 73 rfl rfl
theorem m554 : (Jvm.Cond.methodLink "LagoonOpera" (215 : Nat) ({ cls := "LagoonOpera$Scene", name := "goBy", desc := "(LLagoonOpera$Laws;Z)V" } : Jvm.MethodName)) ∈ bGood := tg3 74 rfl rfl
theorem m555 : (Jvm.Cond.instanceMethod ({ cls := "LagoonOpera$Scene", name := "goBy", desc := "(LLagoonOpera$Laws;Z)V" } : Jvm.MethodName)) ∈ bGood := tg3 75 rfl rfl
theorem m556 : (Jvm.Cond.selects "LagoonOpera$Scene" ({ cls := "LagoonOpera$Scene", name := "goBy", desc := "(LLagoonOpera$Laws;Z)V" } : Jvm.MethodName) ({ cls := "LagoonOpera$Scene", name := "goBy", desc := "(LLagoonOpera$Laws;Z)V" } : Jvm.MethodName)) ∈ bGood := tg3 76 rfl rfl
theorem m557 : (Jvm.Cond.code ({ cls := "LagoonOpera$Scene", name := "goBy", desc := "(LLagoonOpera$Laws;Z)V" } : Jvm.MethodName) prog_8_method_8_code (9 : Nat) (Option.none : Option Jvm.ClassFile.FieldType)) ∈ bGood := tg3 77 rfl rfl
theorem m558 : (Jvm.Cond.methodLink "LagoonOpera$Scene" (75 : Nat) ({ cls := "LagoonOpera$Scene", name := "leftByFog", desc := "(I)I" } : Jvm.MethodName)) ∈ bGood := tg3 78 rfl rfl
theorem m560 : (Jvm.Cond.instanceMethod ({ cls := "LagoonOpera$Scene", name := "leftByFog", desc := "(I)I" } : Jvm.MethodName)) ∈ bGood := tg3 80 rfl rfl
theorem m561 : (Jvm.Cond.code ({ cls := "LagoonOpera$Scene", name := "leftByFog", desc := "(I)I" } : Jvm.MethodName) prog_8_method_9_code (4 : Nat) (Option.some Jvm.ClassFile.FieldType.int)) ∈ bGood := tg3 81 rfl rfl
theorem m562 : (Jvm.Cond.constant "LagoonOpera$Scene" (103 : Nat) (1103515245 : Int32)) ∈ bGood := tg3 82 rfl rfl
theorem m563 : (Jvm.Cond.methodLink "LagoonOpera$Scene" (78 : Nat) ({ cls := "java/lang/Math", name := "min", desc := "(II)I" } : Jvm.MethodName)) ∈ bGood := tg3 83 rfl rfl
theorem m564 : (Jvm.Cond.methodLink "LagoonOpera$Scene" (84 : Nat) ({ cls := "java/lang/Integer", name := "bitCount", desc := "(I)I" } : Jvm.MethodName)) ∈ bGood := tg3 84 rfl rfl
theorem m565 : (Jvm.Cond.methodLink "LagoonOpera$Scene" (89 : Nat) ({ cls := "LagoonOpera$Laws", name := "gives", desc := "(IIII)I" } : Jvm.MethodName)) ∈ bGood := tg3 85 rfl rfl
theorem m566 : (Jvm.Cond.constant "LagoonOpera$Scene" (93 : Nat) (999999 : Int32)) ∈ bGood := tg3 86 rfl rfl
theorem m567 : (Jvm.Cond.methodLink "LagoonOpera$Scene" (94 : Nat) ({ cls := "LagoonOpera$Laws", name := "tideIn", desc := "(I)I" } : Jvm.MethodName)) ∈ bGood := tg3 87 rfl rfl
theorem m568 : (Jvm.Cond.instanceMethod ({ cls := "LagoonOpera$Laws", name := "tideIn", desc := "(I)I" } : Jvm.MethodName)) ∈ bGood := tg3 88 rfl rfl
theorem m569 : (Jvm.Cond.selects "LagoonOpera$Laws" ({ cls := "LagoonOpera$Laws", name := "tideIn", desc := "(I)I" } : Jvm.MethodName) ({ cls := "LagoonOpera$Laws", name := "tideIn", desc := "(I)I" } : Jvm.MethodName)) ∈ bGood := tg3 89 rfl rfl
theorem m570 : (Jvm.Cond.code ({ cls := "LagoonOpera$Laws", name := "tideIn", desc := "(I)I" } : Jvm.MethodName) prog_5_method_4_code (2 : Nat) (Option.some Jvm.ClassFile.FieldType.int)) ∈ bGood := tg3 90 rfl rfl
theorem m571 : (Jvm.Cond.methodLink "LagoonOpera$Scene" (100 : Nat) ({ cls := "LagoonOpera$Boats", name := "behind", desc := "(IIII)I" } : Jvm.MethodName)) ∈ bGood := tg3 91 rfl rfl
theorem m572 : (Jvm.Cond.instanceMethod ({ cls := "LagoonOpera$Boats", name := "behind", desc := "(IIII)I" } : Jvm.MethodName)) ∈ bGood := tg3 92 rfl rfl
theorem m573 : (Jvm.Cond.selects "LagoonOpera$Boats" ({ cls := "LagoonOpera$Boats", name := "behind", desc := "(IIII)I" } : Jvm.MethodName) ({ cls := "LagoonOpera$Boats", name := "behind", desc := "(IIII)I" } : Jvm.MethodName)) ∈ bGood := tg3 93 rfl rfl
theorem m574 : (Jvm.Cond.code ({ cls := "LagoonOpera$Boats", name := "behind", desc := "(IIII)I" } : Jvm.MethodName) prog_2_method_8_code (5 : Nat) (Option.some Jvm.ClassFile.FieldType.int)) ∈ bGood := tg3 94 rfl rfl
theorem m575 : (Jvm.Cond.methodLink "LagoonOpera$Boats" (42 : Nat) ({ cls := "LagoonOpera$Boats", name := "rocked", desc := "(III)I" } : Jvm.MethodName)) ∈ bGood := tg3 95 rfl rfl
theorem m576 : (Jvm.Cond.static ({ cls := "LagoonOpera$Boats", name := "rocked", desc := "(III)I" } : Jvm.MethodName)) ∈ bGood := tg3 96 rfl rfl
theorem m577 : (Jvm.Cond.code ({ cls := "LagoonOpera$Boats", name := "rocked", desc := "(III)I" } : Jvm.MethodName) prog_2_method_9_code (3 : Nat) (Option.some Jvm.ClassFile.FieldType.int)) ∈ bGood := tg3 97 rfl rfl
theorem m578 : (Jvm.Cond.methodLinkNest "LagoonOpera$Boats" (46 : Nat) ({ cls := "LagoonOpera", name := "nextCell", desc := "(II)I" } : Jvm.MethodName) "LagoonOpera") ∈ bNl := tn3 98 rfl rfl
theorem m579 : (Jvm.Cond.static ({ cls := "LagoonOpera", name := "nextCell", desc := "(II)I" } : Jvm.MethodName)) ∈ bGood := tg3 99 rfl rfl
theorem m580 : (Jvm.Cond.code ({ cls := "LagoonOpera", name := "nextCell", desc := "(II)I" } : Jvm.MethodName) prog_1_method_59_code (2 : Nat) (Option.some Jvm.ClassFile.FieldType.int)) ∈ bGood := tg3 100 rfl rfl
theorem m581 : (Jvm.Cond.methodLink "LagoonOpera$Boats" (50 : Nat) ({ cls := "LagoonOpera$Boats", name := "pulled", desc := "(IIII)I" } : Jvm.MethodName)) ∈ bGood := tg3 101 rfl rfl
theorem m583 : (Jvm.Cond.instanceMethod ({ cls := "LagoonOpera$Boats", name := "pulled", desc := "(IIII)I" } : Jvm.MethodName)) ∈ bGood := tg3 103 rfl rfl
theorem m584 : (Jvm.Cond.code ({ cls := "LagoonOpera$Boats", name := "pulled", desc := "(IIII)I" } : Jvm.MethodName) prog_2_method_10_code (6 : Nat) (Option.some Jvm.ClassFile.FieldType.int)) ∈ bGood := tg3 104 rfl rfl
theorem m585 : (Jvm.Cond.methodLink "LagoonOperaLaw" (80 : Nat) ({ cls := "LagoonOpera", name := "loose", desc := "(I)I" } : Jvm.MethodName)) ∈ bGood := tg3 105 rfl rfl
theorem m586 : (Jvm.Cond.instanceMethod ({ cls := "LagoonOpera", name := "loose", desc := "(I)I" } : Jvm.MethodName)) ∈ bGood := tg3 106 rfl rfl
theorem m587 : (Jvm.Cond.selects "LagoonOpera" ({ cls := "LagoonOpera", name := "loose", desc := "(I)I" } : Jvm.MethodName) ({ cls := "LagoonOpera", name := "loose", desc := "(I)I" } : Jvm.MethodName)) ∈ bGood := tg3 107 rfl rfl
theorem m588 : (Jvm.Cond.code ({ cls := "LagoonOpera", name := "loose", desc := "(I)I" } : Jvm.MethodName) prog_1_method_17_code (2 : Nat) (Option.some Jvm.ClassFile.FieldType.int)) ∈ bGood := tg3 108 rfl rfl
theorem m589 : (Jvm.Cond.methodLink "LagoonOperaLaw" (84 : Nat) ({ cls := "LagoonOpera", name := "then", desc := "(II)I" } : Jvm.MethodName)) ∈ bGood := tg3 109 rfl rfl
theorem m590 : (Jvm.Cond.instanceMethod ({ cls := "LagoonOpera", name := "then", desc := "(II)I" } : Jvm.MethodName)) ∈ bGood := tg3 110 rfl rfl
theorem m591 : (Jvm.Cond.selects "LagoonOpera" ({ cls := "LagoonOpera", name := "then", desc := "(II)I" } : Jvm.MethodName) ({ cls := "LagoonOpera", name := "then", desc := "(II)I" } : Jvm.MethodName)) ∈ bGood := tg3 111 rfl rfl
theorem m592 : (Jvm.Cond.code ({ cls := "LagoonOpera", name := "then", desc := "(II)I" } : Jvm.MethodName) prog_1_method_18_code (3 : Nat) (Option.some Jvm.ClassFile.FieldType.int)) ∈ bGood := tg3 112 rfl rfl
theorem m593 : (Jvm.Cond.methodLink "LagoonOpera" (197 : Nat) ({ cls := "LagoonOpera", name := "isAhead", desc := "(I)Z" } : Jvm.MethodName)) ∈ bGood := tg3 113 rfl rfl
theorem m594 : (Jvm.Cond.static ({ cls := "LagoonOpera", name := "isAhead", desc := "(I)Z" } : Jvm.MethodName)) ∈ bGood := tg3 114 rfl rfl
theorem m595 : (Jvm.Cond.code ({ cls := "LagoonOpera", name := "isAhead", desc := "(I)Z" } : Jvm.MethodName) prog_1_method_52_code (1 : Nat) (Option.some Jvm.ClassFile.FieldType.boolean)) ∈ bGood := tg3 115 rfl rfl
theorem m596 : (Jvm.Cond.methodLink "LagoonOpera" (200 : Nat) ({ cls := "LagoonOpera$Outlook", name := "watch", desc := "(LLagoonOpera$Scene;I)V" } : Jvm.MethodName)) ∈ bGood := tg3 116 rfl rfl
theorem m597 : (Jvm.Cond.instanceMethod ({ cls := "LagoonOpera$Outlook", name := "watch", desc := "(LLagoonOpera$Scene;I)V" } : Jvm.MethodName)) ∈ bGood := tg3 117 rfl rfl
theorem m598 : (Jvm.Cond.selects "LagoonOpera$Outlook" ({ cls := "LagoonOpera$Outlook", name := "watch", desc := "(LLagoonOpera$Scene;I)V" } : Jvm.MethodName) ({ cls := "LagoonOpera$Outlook", name := "watch", desc := "(LLagoonOpera$Scene;I)V" } : Jvm.MethodName)) ∈ bGood := tg3 118 rfl rfl
theorem m599 : (Jvm.Cond.code ({ cls := "LagoonOpera$Outlook", name := "watch", desc := "(LLagoonOpera$Scene;I)V" } : Jvm.MethodName) prog_6_method_2_code (3 : Nat) (Option.none : Option Jvm.ClassFile.FieldType)) ∈ bGood := tg3 119 rfl rfl
theorem m600 : (Jvm.Cond.methodLink "LagoonOpera$Outlook" (30 : Nat) ({ cls := "LagoonOpera$Boats", name := "copy", desc := "(LLagoonOpera$Boats;)V" } : Jvm.MethodName)) ∈ bGood := tg3 120 rfl rfl
theorem m601 : (Jvm.Cond.instanceMethod ({ cls := "LagoonOpera$Boats", name := "copy", desc := "(LLagoonOpera$Boats;)V" } : Jvm.MethodName)) ∈ bGood := tg3 121 rfl rfl
theorem m602 : (Jvm.Cond.selects "LagoonOpera$Boats" ({ cls := "LagoonOpera$Boats", name := "copy", desc := "(LLagoonOpera$Boats;)V" } : Jvm.MethodName) ({ cls := "LagoonOpera$Boats", name := "copy", desc := "(LLagoonOpera$Boats;)V" } : Jvm.MethodName)) ∈ bGood := tg3 122 rfl rfl
theorem m603 : (Jvm.Cond.code ({ cls := "LagoonOpera$Boats", name := "copy", desc := "(LLagoonOpera$Boats;)V" } : Jvm.MethodName) prog_2_method_2_code (2 : Nat) (Option.none : Option Jvm.ClassFile.FieldType)) ∈ bGood := tg3 123 rfl rfl
theorem m604 : (Jvm.Cond.methodLink "LagoonOpera$Boats" (28 : Nat) ({ cls := "java/lang/System", name := "arraycopy", desc := "(Ljava/lang/Object;ILjava/lang/Object;II)V" } : Jvm.MethodName)) ∈ bGood := tg3 124 rfl rfl
theorem m605 : (Jvm.Cond.methodLink "LagoonOpera$Outlook" (39 : Nat) ({ cls := "java/lang/Math", name := "min", desc := "(II)I" } : Jvm.MethodName)) ∈ bGood := tg3 125 rfl rfl
theorem m606 : (Jvm.Cond.methodLink "LagoonOpera$Outlook" (45 : Nat) ({ cls := "java/lang/Math", name := "max", desc := "(II)I" } : Jvm.MethodName)) ∈ bGood := tg3 126 rfl rfl
theorem m607 : (Jvm.Cond.methodLink "LagoonOpera$Outlook" (51 : Nat) ({ cls := "java/util/Arrays", name := "fill", desc := "([II)V" } : Jvm.MethodName)) ∈ bGood := tg3 127 rfl rfl
theorem m608 : (Jvm.Cond.methodLink "LagoonOpera" (204 : Nat) ({ cls := "LagoonOpera$Outlook", name := "sail", desc := "(LLagoonOpera$Laws;I)V" } : Jvm.MethodName)) ∈ bGood := tg3 128 rfl rfl
theorem m609 : (Jvm.Cond.instanceMethod ({ cls := "LagoonOpera$Outlook", name := "sail", desc := "(LLagoonOpera$Laws;I)V" } : Jvm.MethodName)) ∈ bGood := tg3 129 rfl rfl
theorem m610 : (Jvm.Cond.selects "LagoonOpera$Outlook" ({ cls := "LagoonOpera$Outlook", name := "sail", desc := "(LLagoonOpera$Laws;I)V" } : Jvm.MethodName) ({ cls := "LagoonOpera$Outlook", name := "sail", desc := "(LLagoonOpera$Laws;I)V" } : Jvm.MethodName)) ∈ bGood := tg3 130 rfl rfl
theorem m611 : (Jvm.Cond.code ({ cls := "LagoonOpera$Outlook", name := "sail", desc := "(LLagoonOpera$Laws;I)V" } : Jvm.MethodName) prog_6_method_3_code (7 : Nat) (Option.none : Option Jvm.ClassFile.FieldType)) ∈ bGood := tg3 131 rfl rfl
theorem m612 : (Jvm.Cond.methodLink "LagoonOpera$Outlook" (57 : Nat) ({ cls := "LagoonOpera$Boats", name := "hold", desc := "(I)Z" } : Jvm.MethodName)) ∈ bGood := tg3 132 rfl rfl
theorem m613 : (Jvm.Cond.methodLink "LagoonOpera$Outlook" (63 : Nat) ({ cls := "LagoonOpera$Boats", name := "sings", desc := "(II)Z" } : Jvm.MethodName)) ∈ bGood := tg3 133 rfl rfl
theorem m614 : (Jvm.Cond.methodLink "LagoonOpera$Outlook" (67 : Nat) ({ cls := "LagoonOpera$Laws", name := "tideIn", desc := "(I)I" } : Jvm.MethodName)) ∈ bGood := tg3 134 rfl rfl
theorem m615 : (Jvm.Cond.methodLink "LagoonOpera$Outlook" (73 : Nat) ({ cls := "LagoonOpera$Boats", name := "behind", desc := "(IIII)I" } : Jvm.MethodName)) ∈ bGood := tg3 135 rfl rfl
theorem m616 : (Jvm.Cond.methodLink "LagoonOpera" (208 : Nat) ({ cls := "LagoonOpera$Outlook", name := "cellBehind", desc := "(II)I" } : Jvm.MethodName)) ∈ bGood := tg3 136 rfl rfl
theorem m617 : (Jvm.Cond.instanceMethod ({ cls := "LagoonOpera$Outlook", name := "cellBehind", desc := "(II)I" } : Jvm.MethodName)) ∈ bGood := tg3 137 rfl rfl
theorem m618 : (Jvm.Cond.selects "LagoonOpera$Outlook" ({ cls := "LagoonOpera$Outlook", name := "cellBehind", desc := "(II)I" } : Jvm.MethodName) ({ cls := "LagoonOpera$Outlook", name := "cellBehind", desc := "(II)I" } : Jvm.MethodName)) ∈ bGood := tg3 138 rfl rfl
theorem m619 : (Jvm.Cond.code ({ cls := "LagoonOpera$Outlook", name := "cellBehind", desc := "(II)I" } : Jvm.MethodName) prog_6_method_4_code (3 : Nat) (Option.some Jvm.ClassFile.FieldType.int)) ∈ bGood := tg3 139 rfl rfl
theorem m620 : (Jvm.Cond.methodLink "LagoonOperaLaw" (88 : Nat) ({ cls := "LagoonOpera", name := "thenListener", desc := "(III)I" } : Jvm.MethodName)) ∈ bGood := tg3 140 rfl rfl
theorem m621 : (Jvm.Cond.instanceMethod ({ cls := "LagoonOpera", name := "thenListener", desc := "(III)I" } : Jvm.MethodName)) ∈ bGood := tg3 141 rfl rfl
theorem m622 : (Jvm.Cond.selects "LagoonOpera" ({ cls := "LagoonOpera", name := "thenListener", desc := "(III)I" } : Jvm.MethodName) ({ cls := "LagoonOpera", name := "thenListener", desc := "(III)I" } : Jvm.MethodName)) ∈ bGood := tg3 142 rfl rfl
theorem m623 : (Jvm.Cond.code ({ cls := "LagoonOpera", name := "thenListener", desc := "(III)I" } : Jvm.MethodName) prog_1_method_19_code (5 : Nat) (Option.some Jvm.ClassFile.FieldType.int)) ∈ bGood := tg3 143 rfl rfl
theorem m624 : (Jvm.Cond.methodLink "LagoonOpera" (211 : Nat) ({ cls := "LagoonOpera$Scene", name := "copy", desc := "(LLagoonOpera$Scene;)V" } : Jvm.MethodName)) ∈ bGood := tg3 144 rfl rfl
theorem m625 : (Jvm.Cond.instanceMethod ({ cls := "LagoonOpera$Scene", name := "copy", desc := "(LLagoonOpera$Scene;)V" } : Jvm.MethodName)) ∈ bGood := tg3 145 rfl rfl
theorem m626 : (Jvm.Cond.selects "LagoonOpera$Scene" ({ cls := "LagoonOpera$Scene", name := "copy", desc := "(LLagoonOpera$Scene;)V" } : Jvm.MethodName) ({ cls := "LagoonOpera$Scene", name := "copy", desc := "(LLagoonOpera$Scene;)V" } : Jvm.MethodName)) ∈ bGood := tg3 146 rfl rfl
theorem m627 : (Jvm.Cond.code ({ cls := "LagoonOpera$Scene", name := "copy", desc := "(LLagoonOpera$Scene;)V" } : Jvm.MethodName) prog_8_method_2_code (2 : Nat) (Option.none : Option Jvm.ClassFile.FieldType)) ∈ bGood := tg3 147 rfl rfl
theorem m628 : (Jvm.Cond.methodLink "LagoonOpera$Scene" (38 : Nat) ({ cls := "LagoonOpera$Boats", name := "copy", desc := "(LLagoonOpera$Boats;)V" } : Jvm.MethodName)) ∈ bGood := tg3 148 rfl rfl
theorem m629 : (Jvm.Cond.methodLink "LagoonOpera$Scene" (45 : Nat) ({ cls := "java/lang/System", name := "arraycopy", desc := "(Ljava/lang/Object;ILjava/lang/Object;II)V" } : Jvm.MethodName)) ∈ bGood := tg3 149 rfl rfl
theorem m630 : (Jvm.Cond.methodLink "LagoonOperaLaw" (92 : Nat) ({ cls := "LagoonOpera", name := "score", desc := "(II)I" } : Jvm.MethodName)) ∈ bGood := tg3 150 rfl rfl
theorem m631 : (Jvm.Cond.instanceMethod ({ cls := "LagoonOpera", name := "score", desc := "(II)I" } : Jvm.MethodName)) ∈ bGood := tg3 151 rfl rfl
theorem m632 : (Jvm.Cond.selects "LagoonOpera" ({ cls := "LagoonOpera", name := "score", desc := "(II)I" } : Jvm.MethodName) ({ cls := "LagoonOpera", name := "score", desc := "(II)I" } : Jvm.MethodName)) ∈ bGood := tg3 152 rfl rfl
theorem m633 : (Jvm.Cond.code ({ cls := "LagoonOpera", name := "score", desc := "(II)I" } : Jvm.MethodName) prog_1_method_20_code (3 : Nat) (Option.some Jvm.ClassFile.FieldType.int)) ∈ bGood := tg3 153 rfl rfl
theorem m634 : (Jvm.Cond.methodLink "LagoonOpera" (219 : Nat) ({ cls := "LagoonOpera", name := "watchAll", desc := "(I)V" } : Jvm.MethodName)) ∈ bGood := tg3 154 rfl rfl
theorem m636 : (Jvm.Cond.instanceMethod ({ cls := "LagoonOpera", name := "watchAll", desc := "(I)V" } : Jvm.MethodName)) ∈ bGood := tg3 156 rfl rfl
theorem m637 : (Jvm.Cond.code ({ cls := "LagoonOpera", name := "watchAll", desc := "(I)V" } : Jvm.MethodName) prog_1_method_45_code (3 : Nat) (Option.none : Option Jvm.ClassFile.FieldType)) ∈ bGood := tg3 157 rfl rfl
theorem m638 : (Jvm.Cond.methodLink "LagoonOpera" (223 : Nat) ({ cls := "LagoonOpera$Outlook", name := "inTime", desc := "(LLagoonOpera$Laws;II)I" } : Jvm.MethodName)) ∈ bGood := tg3 158 rfl rfl
theorem m639 : (Jvm.Cond.instanceMethod ({ cls := "LagoonOpera$Outlook", name := "inTime", desc := "(LLagoonOpera$Laws;II)I" } : Jvm.MethodName)) ∈ bGood := tg3 159 rfl rfl
theorem m640 : (Jvm.Cond.selects "LagoonOpera$Outlook" ({ cls := "LagoonOpera$Outlook", name := "inTime", desc := "(LLagoonOpera$Laws;II)I" } : Jvm.MethodName) ({ cls := "LagoonOpera$Outlook", name := "inTime", desc := "(LLagoonOpera$Laws;II)I" } : Jvm.MethodName)) ∈ bGood := tg3 160 rfl rfl
theorem m641 : (Jvm.Cond.code ({ cls := "LagoonOpera$Outlook", name := "inTime", desc := "(LLagoonOpera$Laws;II)I" } : Jvm.MethodName) prog_6_method_5_code (6 : Nat) (Option.some Jvm.ClassFile.FieldType.int)) ∈ bGood := tg3 161 rfl rfl
theorem m642 : (Jvm.Cond.methodLink "LagoonOpera$Outlook" (77 : Nat) ({ cls := "LagoonOpera$Boats", name := "together", desc := "(LLagoonOpera$Laws;[IIIII)Z" } : Jvm.MethodName)) ∈ bGood := tg3 162 rfl rfl
theorem m643 : (Jvm.Cond.methodLink "LagoonOperaLaw" (96 : Nat) ({ cls := "LagoonOpera", name := "place", desc := "(I)I" } : Jvm.MethodName)) ∈ bGood := tg3 163 rfl rfl
theorem m644 : (Jvm.Cond.instanceMethod ({ cls := "LagoonOpera", name := "place", desc := "(I)I" } : Jvm.MethodName)) ∈ bGood := tg3 164 rfl rfl
theorem m645 : (Jvm.Cond.selects "LagoonOpera" ({ cls := "LagoonOpera", name := "place", desc := "(I)I" } : Jvm.MethodName) ({ cls := "LagoonOpera", name := "place", desc := "(I)I" } : Jvm.MethodName)) ∈ bGood := tg3 165 rfl rfl
theorem m646 : (Jvm.Cond.code ({ cls := "LagoonOpera", name := "place", desc := "(I)I" } : Jvm.MethodName) prog_1_method_21_code (2 : Nat) (Option.some Jvm.ClassFile.FieldType.int)) ∈ bGood := tg3 166 rfl rfl
theorem m647 : (Jvm.Cond.methodLink "LagoonOpera" (226 : Nat) ({ cls := "LagoonOpera", name := "scoreAll", desc := "(I)V" } : Jvm.MethodName)) ∈ bGood := tg3 167 rfl rfl
theorem m649 : (Jvm.Cond.instanceMethod ({ cls := "LagoonOpera", name := "scoreAll", desc := "(I)V" } : Jvm.MethodName)) ∈ bGood := tg3 169 rfl rfl
theorem m650 : (Jvm.Cond.code ({ cls := "LagoonOpera", name := "scoreAll", desc := "(I)V" } : Jvm.MethodName) prog_1_method_46_code (3 : Nat) (Option.none : Option Jvm.ClassFile.FieldType)) ∈ bGood := tg3 170 rfl rfl
theorem m651 : (Jvm.Cond.methodLink "LagoonOpera" (229 : Nat) ({ cls := "LagoonOpera", name := "firstOfMost", desc := "([II)I" } : Jvm.MethodName)) ∈ bGood := tg3 171 rfl rfl
theorem m652 : (Jvm.Cond.static ({ cls := "LagoonOpera", name := "firstOfMost", desc := "([II)I" } : Jvm.MethodName)) ∈ bGood := tg3 172 rfl rfl
theorem m653 : (Jvm.Cond.code ({ cls := "LagoonOpera", name := "firstOfMost", desc := "([II)I" } : Jvm.MethodName) prog_1_method_60_code (4 : Nat) (Option.some Jvm.ClassFile.FieldType.int)) ∈ bGood := tg3 173 rfl rfl
theorem m654 : (Jvm.Cond.methodLink "LagoonOperaLaw" (100 : Nat) ({ cls := "LagoonOpera", name := "fromHere", desc := "(I)J" } : Jvm.MethodName)) ∈ bGood := tg3 174 rfl rfl
theorem m655 : (Jvm.Cond.instanceMethod ({ cls := "LagoonOpera", name := "fromHere", desc := "(I)J" } : Jvm.MethodName)) ∈ bGood := tg3 175 rfl rfl
theorem m656 : (Jvm.Cond.selects "LagoonOpera" ({ cls := "LagoonOpera", name := "fromHere", desc := "(I)J" } : Jvm.MethodName) ({ cls := "LagoonOpera", name := "fromHere", desc := "(I)J" } : Jvm.MethodName)) ∈ bGood := tg3 176 rfl rfl
theorem m657 : (Jvm.Cond.code ({ cls := "LagoonOpera", name := "fromHere", desc := "(I)J" } : Jvm.MethodName) prog_1_method_22_code (6 : Nat) (Option.some Jvm.ClassFile.FieldType.long)) ∈ bGood := tg3 177 rfl rfl
theorem m658 : (Jvm.Cond.methodLink "LagoonOperaLaw" (105 : Nat) ({ cls := "LagoonOpera", name := "mooring", desc := "(III)I" } : Jvm.MethodName)) ∈ bGood := tg3 178 rfl rfl
theorem m659 : (Jvm.Cond.instanceMethod ({ cls := "LagoonOpera", name := "mooring", desc := "(III)I" } : Jvm.MethodName)) ∈ bGood := tg3 179 rfl rfl
theorem m660 : (Jvm.Cond.selects "LagoonOpera" ({ cls := "LagoonOpera", name := "mooring", desc := "(III)I" } : Jvm.MethodName) ({ cls := "LagoonOpera", name := "mooring", desc := "(III)I" } : Jvm.MethodName)) ∈ bGood := tg3 180 rfl rfl
theorem m661 : (Jvm.Cond.code ({ cls := "LagoonOpera", name := "mooring", desc := "(III)I" } : Jvm.MethodName) prog_1_method_23_code (5 : Nat) (Option.some Jvm.ClassFile.FieldType.int)) ∈ bGood := tg3 181 rfl rfl
theorem m662 : (Jvm.Cond.methodLink "LagoonOperaLaw" (109 : Nat) ({ cls := "LagoonOpera", name := "sooner", desc := "(III)I" } : Jvm.MethodName)) ∈ bGood := tg3 182 rfl rfl
theorem m663 : (Jvm.Cond.instanceMethod ({ cls := "LagoonOpera", name := "sooner", desc := "(III)I" } : Jvm.MethodName)) ∈ bGood := tg3 183 rfl rfl
theorem m664 : (Jvm.Cond.selects "LagoonOpera" ({ cls := "LagoonOpera", name := "sooner", desc := "(III)I" } : Jvm.MethodName) ({ cls := "LagoonOpera", name := "sooner", desc := "(III)I" } : Jvm.MethodName)) ∈ bGood := tg3 184 rfl rfl
theorem m665 : (Jvm.Cond.code ({ cls := "LagoonOpera", name := "sooner", desc := "(III)I" } : Jvm.MethodName) prog_1_method_24_code (5 : Nat) (Option.some Jvm.ClassFile.FieldType.int)) ∈ bGood := tg3 185 rfl rfl
theorem m666 : (Jvm.Cond.methodLink "LagoonOpera" (234 : Nat) ({ cls := "java/lang/Integer", name := "rotateRight", desc := "(II)I" } : Jvm.MethodName)) ∈ bGood := tg3 186 rfl rfl
theorem m667 : (Jvm.Cond.static ({ cls := "java/lang/Integer", name := "rotateRight", desc := "(II)I" } : Jvm.MethodName)) ∈ bGood := tg3 187 rfl rfl
theorem m668 : (Jvm.Cond.code ({ cls := "java/lang/Integer", name := "rotateRight", desc := "(II)I" } : Jvm.MethodName) prog_13_method_51_code (2 : Nat) (Option.some Jvm.ClassFile.FieldType.int)) ∈ bGood := tg3 188 rfl rfl
theorem m669 : (Jvm.Cond.methodLink "LagoonOperaLaw" (113 : Nat) ({ cls := "LagoonOpera", name := "fitSpeed", desc := "(II)I" } : Jvm.MethodName)) ∈ bGood := tg3 189 rfl rfl
theorem m670 : (Jvm.Cond.instanceMethod ({ cls := "LagoonOpera", name := "fitSpeed", desc := "(II)I" } : Jvm.MethodName)) ∈ bGood := tg3 190 rfl rfl
theorem m671 : (Jvm.Cond.selects "LagoonOpera" ({ cls := "LagoonOpera", name := "fitSpeed", desc := "(II)I" } : Jvm.MethodName) ({ cls := "LagoonOpera", name := "fitSpeed", desc := "(II)I" } : Jvm.MethodName)) ∈ bGood := tg3 191 rfl rfl
theorem m672 : (Jvm.Cond.code ({ cls := "LagoonOpera", name := "fitSpeed", desc := "(II)I" } : Jvm.MethodName) prog_1_method_25_code (4 : Nat) (Option.some Jvm.ClassFile.FieldType.int)) ∈ bGood := tg3 192 rfl rfl
theorem m673 : (Jvm.Cond.methodLink "LagoonOperaLaw" (117 : Nat) ({ cls := "LagoonOpera", name := "fromWhere", desc := "(II)I" } : Jvm.MethodName)) ∈ bGood := tg3 193 rfl rfl
theorem m674 : (Jvm.Cond.instanceMethod ({ cls := "LagoonOpera", name := "fromWhere", desc := "(II)I" } : Jvm.MethodName)) ∈ bGood := tg3 194 rfl rfl
theorem m675 : (Jvm.Cond.selects "LagoonOpera" ({ cls := "LagoonOpera", name := "fromWhere", desc := "(II)I" } : Jvm.MethodName) ({ cls := "LagoonOpera", name := "fromWhere", desc := "(II)I" } : Jvm.MethodName)) ∈ bGood := tg3 195 rfl rfl
theorem m676 : (Jvm.Cond.code ({ cls := "LagoonOpera", name := "fromWhere", desc := "(II)I" } : Jvm.MethodName) prog_1_method_26_code (3 : Nat) (Option.some Jvm.ClassFile.FieldType.int)) ∈ bGood := tg3 196 rfl rfl
theorem m677 : (Jvm.Cond.methodLink "LagoonOpera" (239 : Nat) ({ cls := "LagoonOpera", name := "areThreeCells", desc := "(I)Z" } : Jvm.MethodName)) ∈ bGood := tg3 197 rfl rfl
theorem m678 : (Jvm.Cond.static ({ cls := "LagoonOpera", name := "areThreeCells", desc := "(I)Z" } : Jvm.MethodName)) ∈ bGood := tg3 198 rfl rfl
theorem m679 : (Jvm.Cond.code ({ cls := "LagoonOpera", name := "areThreeCells", desc := "(I)Z" } : Jvm.MethodName) prog_1_method_54_code (1 : Nat) (Option.some Jvm.ClassFile.FieldType.boolean)) ∈ bGood := tg3 199 rfl rfl
theorem m680 : (Jvm.Cond.constant "LagoonOpera" (341 : Nat) (262143 : Int32)) ∈ bGood := tg3 200 rfl rfl
theorem m681 : (Jvm.Cond.methodLink "LagoonOpera" (242 : Nat) ({ cls := "LagoonOpera", name := "areThreeLags", desc := "(I)Z" } : Jvm.MethodName)) ∈ bGood := tg3 201 rfl rfl
theorem m682 : (Jvm.Cond.static ({ cls := "LagoonOpera", name := "areThreeLags", desc := "(I)Z" } : Jvm.MethodName)) ∈ bGood := tg3 202 rfl rfl
theorem m683 : (Jvm.Cond.code ({ cls := "LagoonOpera", name := "areThreeLags", desc := "(I)Z" } : Jvm.MethodName) prog_1_method_55_code (1 : Nat) (Option.some Jvm.ClassFile.FieldType.boolean)) ∈ bGood := tg3 203 rfl rfl
theorem m684 : (Jvm.Cond.constant "LagoonOpera" (342 : Nat) (999999 : Int32)) ∈ bGood := tg3 204 rfl rfl
theorem m685 : (Jvm.Cond.methodLink "LagoonOpera" (245 : Nat) ({ cls := "LagoonOpera", name := "origins", desc := "(II)J" } : Jvm.MethodName)) ∈ bGood := tg3 205 rfl rfl
theorem m687 : (Jvm.Cond.instanceMethod ({ cls := "LagoonOpera", name := "origins", desc := "(II)J" } : Jvm.MethodName)) ∈ bGood := tg3 207 rfl rfl
theorem m688 : (Jvm.Cond.code ({ cls := "LagoonOpera", name := "origins", desc := "(II)J" } : Jvm.MethodName) prog_1_method_47_code (9 : Nat) (Option.some Jvm.ClassFile.FieldType.long)) ∈ bGood := tg3 208 rfl rfl
theorem m689 : (Jvm.Cond.methodLink "LagoonOpera" (338 : Nat) ({ cls := "LagoonOpera", name := "isHeardBehind", desc := "(III)Z" } : Jvm.MethodName)) ∈ bGood := tg3 209 rfl rfl
theorem m691 : (Jvm.Cond.instanceMethod ({ cls := "LagoonOpera", name := "isHeardBehind", desc := "(III)Z" } : Jvm.MethodName)) ∈ bGood := tg3 211 rfl rfl
theorem m692 : (Jvm.Cond.code ({ cls := "LagoonOpera", name := "isHeardBehind", desc := "(III)Z" } : Jvm.MethodName) prog_1_method_48_code (4 : Nat) (Option.some Jvm.ClassFile.FieldType.boolean)) ∈ bGood := tg3 212 rfl rfl
theorem m693 : (Jvm.Cond.methodLink "LagoonOpera" (249 : Nat) ({ cls := "java/lang/Long", name := "bitCount", desc := "(J)I" } : Jvm.MethodName)) ∈ bGood := tg3 213 rfl rfl
theorem m694 : (Jvm.Cond.static ({ cls := "java/lang/Long", name := "bitCount", desc := "(J)I" } : Jvm.MethodName)) ∈ bGood := tg3 214 rfl rfl
theorem m695 : (Jvm.Cond.code ({ cls := "java/lang/Long", name := "bitCount", desc := "(J)I" } : Jvm.MethodName) prog_14_method_50_code (2 : Nat) (Option.some Jvm.ClassFile.FieldType.int)) ∈ bGood := tg3 215 rfl rfl
theorem m696 : (Jvm.Cond.constantLong "java/lang/Long" (314 : Nat) (6148914691236517205 : Int64)) ∈ bGood := tg3 216 rfl rfl
theorem m697 : (Jvm.Cond.constantLong "java/lang/Long" (316 : Nat) (3689348814741910323 : Int64)) ∈ bGood := tg3 217 rfl rfl
theorem m698 : (Jvm.Cond.constantLong "java/lang/Long" (318 : Nat) (1085102592571150095 : Int64)) ∈ bGood := tg3 218 rfl rfl
theorem m699 : (Jvm.Cond.methodLink "LagoonOperaLaw" (121 : Nat) ({ cls := "LagoonOpera", name := "whereFrom", desc := "(III)I" } : Jvm.MethodName)) ∈ bGood := tg3 219 rfl rfl
theorem m700 : (Jvm.Cond.instanceMethod ({ cls := "LagoonOpera", name := "whereFrom", desc := "(III)I" } : Jvm.MethodName)) ∈ bGood := tg3 220 rfl rfl
theorem m701 : (Jvm.Cond.selects "LagoonOpera" ({ cls := "LagoonOpera", name := "whereFrom", desc := "(III)I" } : Jvm.MethodName) ({ cls := "LagoonOpera", name := "whereFrom", desc := "(III)I" } : Jvm.MethodName)) ∈ bGood := tg3 221 rfl rfl
theorem m702 : (Jvm.Cond.code ({ cls := "LagoonOpera", name := "whereFrom", desc := "(III)I" } : Jvm.MethodName) prog_1_method_27_code (8 : Nat) (Option.some Jvm.ClassFile.FieldType.int)) ∈ bGood := tg3 222 rfl rfl
theorem m703 : (Jvm.Cond.methodLink "LagoonOperaLaw" (125 : Nat) ({ cls := "LagoonOpera", name := "strokes", desc := "(II)I" } : Jvm.MethodName)) ∈ bGood := tg3 223 rfl rfl
theorem m704 : (Jvm.Cond.instanceMethod ({ cls := "LagoonOpera", name := "strokes", desc := "(II)I" } : Jvm.MethodName)) ∈ bGood := tg3 224 rfl rfl
theorem m705 : (Jvm.Cond.selects "LagoonOpera" ({ cls := "LagoonOpera", name := "strokes", desc := "(II)I" } : Jvm.MethodName) ({ cls := "LagoonOpera", name := "strokes", desc := "(II)I" } : Jvm.MethodName)) ∈ bGood := tg3 225 rfl rfl
theorem m706 : (Jvm.Cond.code ({ cls := "LagoonOpera", name := "strokes", desc := "(II)I" } : Jvm.MethodName) prog_1_method_28_code (5 : Nat) (Option.some Jvm.ClassFile.FieldType.int)) ∈ bGood := tg3 226 rfl rfl
theorem m707 : (Jvm.Cond.methodLink "LagoonOperaLaw" (129 : Nat) ({ cls := "LagoonOpera", name := "seed", desc := "(I)I" } : Jvm.MethodName)) ∈ bGood := tg3 227 rfl rfl
theorem m708 : (Jvm.Cond.instanceMethod ({ cls := "LagoonOpera", name := "seed", desc := "(I)I" } : Jvm.MethodName)) ∈ bGood := tg3 228 rfl rfl
theorem m709 : (Jvm.Cond.selects "LagoonOpera" ({ cls := "LagoonOpera", name := "seed", desc := "(I)I" } : Jvm.MethodName) ({ cls := "LagoonOpera", name := "seed", desc := "(I)I" } : Jvm.MethodName)) ∈ bGood := tg3 229 rfl rfl
theorem m710 : (Jvm.Cond.code ({ cls := "LagoonOpera", name := "seed", desc := "(I)I" } : Jvm.MethodName) prog_1_method_29_code (3 : Nat) (Option.some Jvm.ClassFile.FieldType.int)) ∈ bGood := tg3 230 rfl rfl
theorem m711 : (Jvm.Cond.methodLink "LagoonOperaLaw" (133 : Nat) ({ cls := "LagoonOpera", name := "voice", desc := "(III)I" } : Jvm.MethodName)) ∈ bGood := tg3 231 rfl rfl
theorem m712 : (Jvm.Cond.instanceMethod ({ cls := "LagoonOpera", name := "voice", desc := "(III)I" } : Jvm.MethodName)) ∈ bGood := tg3 232 rfl rfl
theorem m713 : (Jvm.Cond.selects "LagoonOpera" ({ cls := "LagoonOpera", name := "voice", desc := "(III)I" } : Jvm.MethodName) ({ cls := "LagoonOpera", name := "voice", desc := "(III)I" } : Jvm.MethodName)) ∈ bGood := tg3 233 rfl rfl
theorem m714 : (Jvm.Cond.code ({ cls := "LagoonOpera", name := "voice", desc := "(III)I" } : Jvm.MethodName) prog_1_method_30_code (5 : Nat) (Option.some Jvm.ClassFile.FieldType.int)) ∈ bGood := tg3 234 rfl rfl
theorem m715 : (Jvm.Cond.methodLink "LagoonOpera" (258 : Nat) ({ cls := "LagoonOpera$Voices", name := "raise", desc := "(IIIII)I" } : Jvm.MethodName)) ∈ bGood := tg3 235 rfl rfl
theorem m716 : (Jvm.Cond.instanceMethod ({ cls := "LagoonOpera$Voices", name := "raise", desc := "(IIIII)I" } : Jvm.MethodName)) ∈ bGood := tg3 236 rfl rfl
theorem m717 : (Jvm.Cond.selects "LagoonOpera$Voices" ({ cls := "LagoonOpera$Voices", name := "raise", desc := "(IIIII)I" } : Jvm.MethodName) ({ cls := "LagoonOpera$Voices", name := "raise", desc := "(IIIII)I" } : Jvm.MethodName)) ∈ bGood := tg3 237 rfl rfl
theorem m718 : (Jvm.Cond.code ({ cls := "LagoonOpera$Voices", name := "raise", desc := "(IIIII)I" } : Jvm.MethodName) prog_10_method_2_code (6 : Nat) (Option.some Jvm.ClassFile.FieldType.int)) ∈ bGood := tg3 238 rfl rfl
theorem m719 : (Jvm.Cond.methodLink "LagoonOpera$Voices" (28 : Nat) ({ cls := "LagoonOpera$Voices", name := "own", desc := "(III)I" } : Jvm.MethodName)) ∈ bGood := tg3 239 rfl rfl
theorem m721 : (Jvm.Cond.instanceMethod ({ cls := "LagoonOpera$Voices", name := "own", desc := "(III)I" } : Jvm.MethodName)) ∈ bGood := tg4 1 rfl rfl
theorem m722 : (Jvm.Cond.code ({ cls := "LagoonOpera$Voices", name := "own", desc := "(III)I" } : Jvm.MethodName) prog_10_method_3_code (4 : Nat) (Option.some Jvm.ClassFile.FieldType.int)) ∈ bGood := tg4 2 rfl rfl
theorem m723 : (Jvm.Cond.methodLink "LagoonOpera$Voices" (32 : Nat) ({ cls := "LagoonOpera$Voices", name := "from", desc := "(IIII)I" } : Jvm.MethodName)) ∈ bGood := tg4 3 rfl rfl
theorem m725 : (Jvm.Cond.instanceMethod ({ cls := "LagoonOpera$Voices", name := "from", desc := "(IIII)I" } : Jvm.MethodName)) ∈ bGood := tg4 5 rfl rfl
theorem m726 : (Jvm.Cond.code ({ cls := "LagoonOpera$Voices", name := "from", desc := "(IIII)I" } : Jvm.MethodName) prog_10_method_4_code (8 : Nat) (Option.some Jvm.ClassFile.FieldType.int)) ∈ bGood := tg4 6 rfl rfl
theorem m727 : (Jvm.Cond.methodLink "LagoonOpera$Voices" (36 : Nat) ({ cls := "LagoonOpera$Voices", name := "bodyFrom", desc := "(II)I" } : Jvm.MethodName)) ∈ bGood := tg4 7 rfl rfl
theorem m728 : (Jvm.Cond.static ({ cls := "LagoonOpera$Voices", name := "bodyFrom", desc := "(II)I" } : Jvm.MethodName)) ∈ bGood := tg4 8 rfl rfl
theorem m729 : (Jvm.Cond.code ({ cls := "LagoonOpera$Voices", name := "bodyFrom", desc := "(II)I" } : Jvm.MethodName) prog_10_method_5_code (5 : Nat) (Option.some Jvm.ClassFile.FieldType.int)) ∈ bGood := tg4 9 rfl rfl
theorem m730 : (Jvm.Cond.fieldLinkNest "LagoonOpera$Voices" (48 : Nat) "LagoonOpera" "KIND_ABOVE" "[I" "LagoonOpera") ∈ bNl := tn4 10 rfl rfl
theorem m731 : (Jvm.Cond.fieldLink "LagoonOpera$Voices" (51 : Nat) "LagoonOpera$Voices" "BODIES" "[I") ∈ bGood := tg4 11 rfl rfl
theorem m733 : (Jvm.Cond.methodLinkNest "LagoonOpera$Voices" (44 : Nat) ({ cls := "LagoonOpera", name := "above", desc := "(I)I" } : Jvm.MethodName) "LagoonOpera") ∈ bNl := tn4 13 rfl rfl
theorem m734 : (Jvm.Cond.methodLink "LagoonOpera$Voices" (40 : Nat) ({ cls := "LagoonOpera$Voices", name := "begin", desc := "(I)V" } : Jvm.MethodName)) ∈ bGood := tg4 14 rfl rfl
theorem m736 : (Jvm.Cond.instanceMethod ({ cls := "LagoonOpera$Voices", name := "begin", desc := "(I)V" } : Jvm.MethodName)) ∈ bGood := tg4 16 rfl rfl
theorem m737 : (Jvm.Cond.code ({ cls := "LagoonOpera$Voices", name := "begin", desc := "(I)V" } : Jvm.MethodName) prog_10_method_6_code (2 : Nat) (Option.none : Option Jvm.ClassFile.FieldType)) ∈ bGood := tg4 17 rfl rfl
theorem m738 : (Jvm.Cond.methodLink "LagoonOperaLaw" (137 : Nat) ({ cls := "LagoonOpera", name := "trace", desc := "(I)I" } : Jvm.MethodName)) ∈ bGood := tg4 18 rfl rfl
theorem m739 : (Jvm.Cond.instanceMethod ({ cls := "LagoonOpera", name := "trace", desc := "(I)I" } : Jvm.MethodName)) ∈ bGood := tg4 19 rfl rfl
theorem m740 : (Jvm.Cond.selects "LagoonOpera" ({ cls := "LagoonOpera", name := "trace", desc := "(I)I" } : Jvm.MethodName) ({ cls := "LagoonOpera", name := "trace", desc := "(I)I" } : Jvm.MethodName)) ∈ bGood := tg4 20 rfl rfl
theorem m741 : (Jvm.Cond.code ({ cls := "LagoonOpera", name := "trace", desc := "(I)I" } : Jvm.MethodName) prog_1_method_31_code (2 : Nat) (Option.some Jvm.ClassFile.FieldType.int)) ∈ bGood := tg4 21 rfl rfl
theorem m742 : (Jvm.Cond.methodLink "LagoonOperaLaw" (141 : Nat) ({ cls := "LagoonOpera", name := "sheet", desc := "(III)I" } : Jvm.MethodName)) ∈ bGood := tg4 22 rfl rfl
theorem m743 : (Jvm.Cond.instanceMethod ({ cls := "LagoonOpera", name := "sheet", desc := "(III)I" } : Jvm.MethodName)) ∈ bGood := tg4 23 rfl rfl
theorem m744 : (Jvm.Cond.selects "LagoonOpera" ({ cls := "LagoonOpera", name := "sheet", desc := "(III)I" } : Jvm.MethodName) ({ cls := "LagoonOpera", name := "sheet", desc := "(III)I" } : Jvm.MethodName)) ∈ bGood := tg4 24 rfl rfl
theorem m745 : (Jvm.Cond.code ({ cls := "LagoonOpera", name := "sheet", desc := "(III)I" } : Jvm.MethodName) prog_1_method_32_code (5 : Nat) (Option.some Jvm.ClassFile.FieldType.int)) ∈ bGood := tg4 25 rfl rfl
theorem m746 : (Jvm.Cond.methodLink "LagoonOpera" (268 : Nat) ({ cls := "LagoonOpera", name := "sheetOf", desc := "(I)LLagoonOpera$Sheet;" } : Jvm.MethodName)) ∈ bGood := tg4 26 rfl rfl
theorem m748 : (Jvm.Cond.instanceMethod ({ cls := "LagoonOpera", name := "sheetOf", desc := "(I)LLagoonOpera$Sheet;" } : Jvm.MethodName)) ∈ bGood := tg4 28 rfl rfl
theorem m749 : (Jvm.Cond.code ({ cls := "LagoonOpera", name := "sheetOf", desc := "(I)LLagoonOpera$Sheet;" } : Jvm.MethodName) prog_1_method_49_code (2 : Nat) (Option.some (Jvm.ClassFile.FieldType.object "LagoonOpera$Sheet"))) ∈ bGood := tg4 29 rfl rfl
theorem m750 : (Jvm.Cond.methodLink "LagoonOpera" (272 : Nat) ({ cls := "LagoonOpera$Sheet", name := "lay", desc := "(II)V" } : Jvm.MethodName)) ∈ bGood := tg4 30 rfl rfl
theorem m751 : (Jvm.Cond.instanceMethod ({ cls := "LagoonOpera$Sheet", name := "lay", desc := "(II)V" } : Jvm.MethodName)) ∈ bGood := tg4 31 rfl rfl
theorem m752 : (Jvm.Cond.selects "LagoonOpera$Sheet" ({ cls := "LagoonOpera$Sheet", name := "lay", desc := "(II)V" } : Jvm.MethodName) ({ cls := "LagoonOpera$Sheet", name := "lay", desc := "(II)V" } : Jvm.MethodName)) ∈ bGood := tg4 32 rfl rfl
theorem m753 : (Jvm.Cond.code ({ cls := "LagoonOpera$Sheet", name := "lay", desc := "(II)V" } : Jvm.MethodName) prog_9_method_5_code (3 : Nat) (Option.none : Option Jvm.ClassFile.FieldType)) ∈ bGood := tg4 33 rfl rfl
theorem m754 : (Jvm.Cond.methodLink "LagoonOpera$Sheet" (22 : Nat) ({ cls := "java/util/Arrays", name := "fill", desc := "([II)V" } : Jvm.MethodName)) ∈ bGood := tg4 34 rfl rfl
theorem m755 : (Jvm.Cond.methodLink "LagoonOperaLaw" (145 : Nat) ({ cls := "LagoonOpera", name := "put", desc := "(III)I" } : Jvm.MethodName)) ∈ bGood := tg4 35 rfl rfl
theorem m756 : (Jvm.Cond.instanceMethod ({ cls := "LagoonOpera", name := "put", desc := "(III)I" } : Jvm.MethodName)) ∈ bGood := tg4 36 rfl rfl
theorem m757 : (Jvm.Cond.selects "LagoonOpera" ({ cls := "LagoonOpera", name := "put", desc := "(III)I" } : Jvm.MethodName) ({ cls := "LagoonOpera", name := "put", desc := "(III)I" } : Jvm.MethodName)) ∈ bGood := tg4 37 rfl rfl
theorem m758 : (Jvm.Cond.code ({ cls := "LagoonOpera", name := "put", desc := "(III)I" } : Jvm.MethodName) prog_1_method_33_code (5 : Nat) (Option.some Jvm.ClassFile.FieldType.int)) ∈ bGood := tg4 38 rfl rfl
theorem m759 : (Jvm.Cond.methodLink "LagoonOpera" (276 : Nat) ({ cls := "LagoonOpera$Sheet", name := "isMissing", desc := "()Z" } : Jvm.MethodName)) ∈ bGood := tg4 39 rfl rfl
theorem m760 : (Jvm.Cond.instanceMethod ({ cls := "LagoonOpera$Sheet", name := "isMissing", desc := "()Z" } : Jvm.MethodName)) ∈ bGood := tg4 40 rfl rfl
theorem m761 : (Jvm.Cond.selects "LagoonOpera$Sheet" ({ cls := "LagoonOpera$Sheet", name := "isMissing", desc := "()Z" } : Jvm.MethodName) ({ cls := "LagoonOpera$Sheet", name := "isMissing", desc := "()Z" } : Jvm.MethodName)) ∈ bGood := tg4 41 rfl rfl
theorem m762 : (Jvm.Cond.code ({ cls := "LagoonOpera$Sheet", name := "isMissing", desc := "()Z" } : Jvm.MethodName) prog_9_method_2_code (1 : Nat) (Option.some Jvm.ClassFile.FieldType.boolean)) ∈ bGood := tg4 42 rfl rfl
theorem m763 : (Jvm.Cond.methodLink "LagoonOpera" (280 : Nat) ({ cls := "LagoonOpera$Sheet", name := "holds", desc := "(I)Z" } : Jvm.MethodName)) ∈ bGood := tg4 43 rfl rfl
theorem m764 : (Jvm.Cond.instanceMethod ({ cls := "LagoonOpera$Sheet", name := "holds", desc := "(I)Z" } : Jvm.MethodName)) ∈ bGood := tg4 44 rfl rfl
theorem m765 : (Jvm.Cond.selects "LagoonOpera$Sheet" ({ cls := "LagoonOpera$Sheet", name := "holds", desc := "(I)Z" } : Jvm.MethodName) ({ cls := "LagoonOpera$Sheet", name := "holds", desc := "(I)Z" } : Jvm.MethodName)) ∈ bGood := tg4 45 rfl rfl
theorem m766 : (Jvm.Cond.code ({ cls := "LagoonOpera$Sheet", name := "holds", desc := "(I)Z" } : Jvm.MethodName) prog_9_method_3_code (2 : Nat) (Option.some Jvm.ClassFile.FieldType.boolean)) ∈ bGood := tg4 46 rfl rfl
theorem m767 : (Jvm.Cond.methodLink "LagoonOpera" (283 : Nat) ({ cls := "LagoonOpera$Sheet", name := "write", desc := "(II)V" } : Jvm.MethodName)) ∈ bGood := tg4 47 rfl rfl
theorem m768 : (Jvm.Cond.instanceMethod ({ cls := "LagoonOpera$Sheet", name := "write", desc := "(II)V" } : Jvm.MethodName)) ∈ bGood := tg4 48 rfl rfl
theorem m769 : (Jvm.Cond.selects "LagoonOpera$Sheet" ({ cls := "LagoonOpera$Sheet", name := "write", desc := "(II)V" } : Jvm.MethodName) ({ cls := "LagoonOpera$Sheet", name := "write", desc := "(II)V" } : Jvm.MethodName)) ∈ bGood := tg4 49 rfl rfl
theorem m770 : (Jvm.Cond.code ({ cls := "LagoonOpera$Sheet", name := "write", desc := "(II)V" } : Jvm.MethodName) prog_9_method_6_code (3 : Nat) (Option.none : Option Jvm.ClassFile.FieldType)) ∈ bGood := tg4 50 rfl rfl
theorem m771 : (Jvm.Cond.methodLink "LagoonOpera$Sheet" (28 : Nat) ({ cls := "LagoonOpera$Sheet", name := "holds", desc := "(I)Z" } : Jvm.MethodName)) ∈ bGood := tg4 51 rfl rfl
theorem m772 : (Jvm.Cond.constant "LagoonOpera$Sheet" (32 : Nat) (65535 : Int32)) ∈ bGood := tg4 52 rfl rfl
theorem m773 : (Jvm.Cond.methodLink "LagoonOperaLaw" (149 : Nat) ({ cls := "LagoonOpera", name := "move", desc := "(IIIII)I" } : Jvm.MethodName)) ∈ bGood := tg4 53 rfl rfl
theorem m774 : (Jvm.Cond.instanceMethod ({ cls := "LagoonOpera", name := "move", desc := "(IIIII)I" } : Jvm.MethodName)) ∈ bGood := tg4 54 rfl rfl
theorem m775 : (Jvm.Cond.selects "LagoonOpera" ({ cls := "LagoonOpera", name := "move", desc := "(IIIII)I" } : Jvm.MethodName) ({ cls := "LagoonOpera", name := "move", desc := "(IIIII)I" } : Jvm.MethodName)) ∈ bGood := tg4 55 rfl rfl
theorem m776 : (Jvm.Cond.code ({ cls := "LagoonOpera", name := "move", desc := "(IIIII)I" } : Jvm.MethodName) prog_1_method_34_code (8 : Nat) (Option.some Jvm.ClassFile.FieldType.int)) ∈ bGood := tg4 56 rfl rfl
theorem m777 : (Jvm.Cond.methodLink "LagoonOpera" (289 : Nat) ({ cls := "LagoonOpera$Sheet", name := "holdsFrom", desc := "(II)Z" } : Jvm.MethodName)) ∈ bGood := tg4 57 rfl rfl
theorem m778 : (Jvm.Cond.instanceMethod ({ cls := "LagoonOpera$Sheet", name := "holdsFrom", desc := "(II)Z" } : Jvm.MethodName)) ∈ bGood := tg4 58 rfl rfl
theorem m779 : (Jvm.Cond.selects "LagoonOpera$Sheet" ({ cls := "LagoonOpera$Sheet", name := "holdsFrom", desc := "(II)Z" } : Jvm.MethodName) ({ cls := "LagoonOpera$Sheet", name := "holdsFrom", desc := "(II)Z" } : Jvm.MethodName)) ∈ bGood := tg4 59 rfl rfl
theorem m780 : (Jvm.Cond.code ({ cls := "LagoonOpera$Sheet", name := "holdsFrom", desc := "(II)Z" } : Jvm.MethodName) prog_9_method_4_code (3 : Nat) (Option.some Jvm.ClassFile.FieldType.boolean)) ∈ bGood := tg4 60 rfl rfl
theorem m781 : (Jvm.Cond.methodLink "LagoonOpera" (293 : Nat) ({ cls := "java/lang/System", name := "arraycopy", desc := "(Ljava/lang/Object;ILjava/lang/Object;II)V" } : Jvm.MethodName)) ∈ bGood := tg4 61 rfl rfl
theorem m782 : (Jvm.Cond.methodLink "LagoonOperaLaw" (154 : Nat) ({ cls := "LagoonOpera", name := "part", desc := "(II)I" } : Jvm.MethodName)) ∈ bGood := tg4 62 rfl rfl
theorem m783 : (Jvm.Cond.instanceMethod ({ cls := "LagoonOpera", name := "part", desc := "(II)I" } : Jvm.MethodName)) ∈ bGood := tg4 63 rfl rfl
theorem m784 : (Jvm.Cond.selects "LagoonOpera" ({ cls := "LagoonOpera", name := "part", desc := "(II)I" } : Jvm.MethodName) ({ cls := "LagoonOpera", name := "part", desc := "(II)I" } : Jvm.MethodName)) ∈ bGood := tg4 64 rfl rfl
theorem m785 : (Jvm.Cond.code ({ cls := "LagoonOpera", name := "part", desc := "(II)I" } : Jvm.MethodName) prog_1_method_35_code (5 : Nat) (Option.some Jvm.ClassFile.FieldType.int)) ∈ bGood := tg4 65 rfl rfl
theorem m786 : (Jvm.Cond.methodLink "LagoonOpera" (299 : Nat) ({ cls := "LagoonOpera$Sheet", name := "readPart", desc := "()I" } : Jvm.MethodName)) ∈ bGood := tg4 66 rfl rfl
theorem m787 : (Jvm.Cond.instanceMethod ({ cls := "LagoonOpera$Sheet", name := "readPart", desc := "()I" } : Jvm.MethodName)) ∈ bGood := tg4 67 rfl rfl
theorem m788 : (Jvm.Cond.selects "LagoonOpera$Sheet" ({ cls := "LagoonOpera$Sheet", name := "readPart", desc := "()I" } : Jvm.MethodName) ({ cls := "LagoonOpera$Sheet", name := "readPart", desc := "()I" } : Jvm.MethodName)) ∈ bGood := tg4 68 rfl rfl
theorem m789 : (Jvm.Cond.code ({ cls := "LagoonOpera$Sheet", name := "readPart", desc := "()I" } : Jvm.MethodName) prog_9_method_7_code (3 : Nat) (Option.some Jvm.ClassFile.FieldType.int)) ∈ bGood := tg4 69 rfl rfl
theorem m790 : (Jvm.Cond.methodLinkNest "LagoonOpera$Sheet" (33 : Nat) ({ cls := "LagoonOpera", name := "within", desc := "(III)Z" } : Jvm.MethodName) "LagoonOpera") ∈ bNl := tn4 70 rfl rfl
theorem m791 : (Jvm.Cond.methodLink "LagoonOpera" (302 : Nat) ({ cls := "java/lang/Integer", name := "bitCount", desc := "(I)I" } : Jvm.MethodName)) ∈ bGood := tg4 71 rfl rfl
theorem m792 : (Jvm.Cond.methodLink "LagoonOperaLaw" (158 : Nat) ({ cls := "LagoonOpera", name := "judge", desc := "(II)I" } : Jvm.MethodName)) ∈ bGood := tg4 72 rfl rfl
theorem m793 : (Jvm.Cond.instanceMethod ({ cls := "LagoonOpera", name := "judge", desc := "(II)I" } : Jvm.MethodName)) ∈ bGood := tg4 73 rfl rfl
theorem m794 : (Jvm.Cond.selects "LagoonOpera" ({ cls := "LagoonOpera", name := "judge", desc := "(II)I" } : Jvm.MethodName) ({ cls := "LagoonOpera", name := "judge", desc := "(II)I" } : Jvm.MethodName)) ∈ bGood := tg4 74 rfl rfl
theorem m795 : (Jvm.Cond.code ({ cls := "LagoonOpera", name := "judge", desc := "(II)I" } : Jvm.MethodName) prog_1_method_36_code (5 : Nat) (Option.some Jvm.ClassFile.FieldType.int)) ∈ bGood := tg4 75 rfl rfl
theorem m796 : (Jvm.Cond.methodLink "LagoonOperaLaw" (162 : Nat) ({ cls := "LagoonOpera", name := "image", desc := "()I" } : Jvm.MethodName)) ∈ bGood := tg4 76 rfl rfl
theorem m797 : (Jvm.Cond.instanceMethod ({ cls := "LagoonOpera", name := "image", desc := "()I" } : Jvm.MethodName)) ∈ bGood := tg4 77 rfl rfl
theorem m798 : (Jvm.Cond.selects "LagoonOpera" ({ cls := "LagoonOpera", name := "image", desc := "()I" } : Jvm.MethodName) ({ cls := "LagoonOpera", name := "image", desc := "()I" } : Jvm.MethodName)) ∈ bGood := tg4 78 rfl rfl
theorem m799 : (Jvm.Cond.code ({ cls := "LagoonOpera", name := "image", desc := "()I" } : Jvm.MethodName) prog_1_method_37_code (1 : Nat) (Option.some Jvm.ClassFile.FieldType.int)) ∈ bGood := tg4 79 rfl rfl
theorem m800 : (Jvm.Cond.methodLink "LagoonOpera" (307 : Nat) ({ cls := "LagoonOpera$Laws", name := "copy", desc := "(LLagoonOpera$Laws;)V" } : Jvm.MethodName)) ∈ bGood := tg4 80 rfl rfl
theorem m801 : (Jvm.Cond.instanceMethod ({ cls := "LagoonOpera$Laws", name := "copy", desc := "(LLagoonOpera$Laws;)V" } : Jvm.MethodName)) ∈ bGood := tg4 81 rfl rfl
theorem m802 : (Jvm.Cond.selects "LagoonOpera$Laws" ({ cls := "LagoonOpera$Laws", name := "copy", desc := "(LLagoonOpera$Laws;)V" } : Jvm.MethodName) ({ cls := "LagoonOpera$Laws", name := "copy", desc := "(LLagoonOpera$Laws;)V" } : Jvm.MethodName)) ∈ bGood := tg4 82 rfl rfl
theorem m803 : (Jvm.Cond.code ({ cls := "LagoonOpera$Laws", name := "copy", desc := "(LLagoonOpera$Laws;)V" } : Jvm.MethodName) prog_5_method_2_code (2 : Nat) (Option.none : Option Jvm.ClassFile.FieldType)) ∈ bGood := tg4 83 rfl rfl
theorem m804 : (Jvm.Cond.methodLink "LagoonOpera$Laws" (38 : Nat) ({ cls := "java/lang/System", name := "arraycopy", desc := "(Ljava/lang/Object;ILjava/lang/Object;II)V" } : Jvm.MethodName)) ∈ bGood := tg4 84 rfl rfl
theorem m805 : (Jvm.Cond.methodLink "LagoonOpera" (310 : Nat) ({ cls := "LagoonOpera$Desk", name := "copy", desc := "(LLagoonOpera$Desk;)V" } : Jvm.MethodName)) ∈ bGood := tg4 85 rfl rfl
theorem m806 : (Jvm.Cond.instanceMethod ({ cls := "LagoonOpera$Desk", name := "copy", desc := "(LLagoonOpera$Desk;)V" } : Jvm.MethodName)) ∈ bGood := tg4 86 rfl rfl
theorem m807 : (Jvm.Cond.selects "LagoonOpera$Desk" ({ cls := "LagoonOpera$Desk", name := "copy", desc := "(LLagoonOpera$Desk;)V" } : Jvm.MethodName) ({ cls := "LagoonOpera$Desk", name := "copy", desc := "(LLagoonOpera$Desk;)V" } : Jvm.MethodName)) ∈ bGood := tg4 87 rfl rfl
theorem m808 : (Jvm.Cond.code ({ cls := "LagoonOpera$Desk", name := "copy", desc := "(LLagoonOpera$Desk;)V" } : Jvm.MethodName) prog_3_method_2_code (2 : Nat) (Option.none : Option Jvm.ClassFile.FieldType)) ∈ bGood := tg4 88 rfl rfl
theorem m809 : (Jvm.Cond.methodLink "LagoonOpera$Desk" (22 : Nat) ({ cls := "java/lang/System", name := "arraycopy", desc := "(Ljava/lang/Object;ILjava/lang/Object;II)V" } : Jvm.MethodName)) ∈ bGood := tg4 89 rfl rfl
theorem m810 : (Jvm.Cond.methodLink "LagoonOperaLaw" (167 : Nat) ({ cls := "LagoonOpera", name := "restore", desc := "()I" } : Jvm.MethodName)) ∈ bGood := tg4 90 rfl rfl
theorem m811 : (Jvm.Cond.instanceMethod ({ cls := "LagoonOpera", name := "restore", desc := "()I" } : Jvm.MethodName)) ∈ bGood := tg4 91 rfl rfl
theorem m812 : (Jvm.Cond.selects "LagoonOpera" ({ cls := "LagoonOpera", name := "restore", desc := "()I" } : Jvm.MethodName) ({ cls := "LagoonOpera", name := "restore", desc := "()I" } : Jvm.MethodName)) ∈ bGood := tg4 92 rfl rfl
theorem m813 : (Jvm.Cond.code ({ cls := "LagoonOpera", name := "restore", desc := "()I" } : Jvm.MethodName) prog_1_method_38_code (1 : Nat) (Option.some Jvm.ClassFile.FieldType.int)) ∈ bGood := tg4 93 rfl rfl
theorem m814 : (Jvm.Cond.methodLink "LagoonOperaLaw" (171 : Nat) ({ cls := "LagoonOpera", name := "tell", desc := "(I)I" } : Jvm.MethodName)) ∈ bGood := tg4 94 rfl rfl
theorem m815 : (Jvm.Cond.instanceMethod ({ cls := "LagoonOpera", name := "tell", desc := "(I)I" } : Jvm.MethodName)) ∈ bGood := tg4 95 rfl rfl
theorem m816 : (Jvm.Cond.selects "LagoonOpera" ({ cls := "LagoonOpera", name := "tell", desc := "(I)I" } : Jvm.MethodName) ({ cls := "LagoonOpera", name := "tell", desc := "(I)I" } : Jvm.MethodName)) ∈ bGood := tg4 96 rfl rfl
theorem m817 : (Jvm.Cond.code ({ cls := "LagoonOpera", name := "tell", desc := "(I)I" } : Jvm.MethodName) prog_1_method_39_code (2 : Nat) (Option.some Jvm.ClassFile.FieldType.int)) ∈ bGood := tg4 97 rfl rfl
theorem m818 : (Jvm.Cond.methodLink "LagoonOpera" (322 : Nat) ({ cls := "LagoonOpera$Desk", name := "add", desc := "(I)I" } : Jvm.MethodName)) ∈ bGood := tg4 98 rfl rfl
theorem m819 : (Jvm.Cond.instanceMethod ({ cls := "LagoonOpera$Desk", name := "add", desc := "(I)I" } : Jvm.MethodName)) ∈ bGood := tg4 99 rfl rfl
theorem m820 : (Jvm.Cond.selects "LagoonOpera$Desk" ({ cls := "LagoonOpera$Desk", name := "add", desc := "(I)I" } : Jvm.MethodName) ({ cls := "LagoonOpera$Desk", name := "add", desc := "(I)I" } : Jvm.MethodName)) ∈ bGood := tg4 100 rfl rfl
theorem m821 : (Jvm.Cond.code ({ cls := "LagoonOpera$Desk", name := "add", desc := "(I)I" } : Jvm.MethodName) prog_3_method_4_code (2 : Nat) (Option.some Jvm.ClassFile.FieldType.int)) ∈ bGood := tg4 101 rfl rfl
theorem m822 : (Jvm.Cond.methodLink "LagoonOperaLaw" (175 : Nat) ({ cls := "LagoonOpera", name := "check", desc := "(I)I" } : Jvm.MethodName)) ∈ bGood := tg4 102 rfl rfl
theorem m823 : (Jvm.Cond.instanceMethod ({ cls := "LagoonOpera", name := "check", desc := "(I)I" } : Jvm.MethodName)) ∈ bGood := tg4 103 rfl rfl
theorem m824 : (Jvm.Cond.selects "LagoonOpera" ({ cls := "LagoonOpera", name := "check", desc := "(I)I" } : Jvm.MethodName) ({ cls := "LagoonOpera", name := "check", desc := "(I)I" } : Jvm.MethodName)) ∈ bGood := tg4 104 rfl rfl
theorem m825 : (Jvm.Cond.code ({ cls := "LagoonOpera", name := "check", desc := "(I)I" } : Jvm.MethodName) prog_1_method_40_code (4 : Nat) (Option.some Jvm.ClassFile.FieldType.int)) ∈ bGood := tg4 105 rfl rfl
theorem m826 : (Jvm.Cond.methodLink "LagoonOperaLaw" (179 : Nat) ({ cls := "LagoonOpera", name := "count", desc := "(I)I" } : Jvm.MethodName)) ∈ bGood := tg4 106 rfl rfl
theorem m827 : (Jvm.Cond.instanceMethod ({ cls := "LagoonOpera", name := "count", desc := "(I)I" } : Jvm.MethodName)) ∈ bGood := tg4 107 rfl rfl
theorem m828 : (Jvm.Cond.selects "LagoonOpera" ({ cls := "LagoonOpera", name := "count", desc := "(I)I" } : Jvm.MethodName) ({ cls := "LagoonOpera", name := "count", desc := "(I)I" } : Jvm.MethodName)) ∈ bGood := tg4 108 rfl rfl
theorem m829 : (Jvm.Cond.code ({ cls := "LagoonOpera", name := "count", desc := "(I)I" } : Jvm.MethodName) prog_1_method_41_code (2 : Nat) (Option.some Jvm.ClassFile.FieldType.int)) ∈ bGood := tg4 109 rfl rfl
theorem m830 : (Jvm.Cond.methodLink "LagoonOpera" (328 : Nat) ({ cls := "LagoonOpera$Boats", name := "singers", desc := "(I)I" } : Jvm.MethodName)) ∈ bGood := tg4 110 rfl rfl
theorem m831 : (Jvm.Cond.methodLink "LagoonOpera" (334 : Nat) ({ cls := "LagoonOpera$Scene", name := "allCoins", desc := "()I" } : Jvm.MethodName)) ∈ bGood := tg4 111 rfl rfl
theorem m832 : (Jvm.Cond.instanceMethod ({ cls := "LagoonOpera$Scene", name := "allCoins", desc := "()I" } : Jvm.MethodName)) ∈ bGood := tg4 112 rfl rfl
theorem m833 : (Jvm.Cond.selects "LagoonOpera$Scene" ({ cls := "LagoonOpera$Scene", name := "allCoins", desc := "()I" } : Jvm.MethodName) ({ cls := "LagoonOpera$Scene", name := "allCoins", desc := "()I" } : Jvm.MethodName)) ∈ bGood := tg4 113 rfl rfl
theorem m834 : (Jvm.Cond.code ({ cls := "LagoonOpera$Scene", name := "allCoins", desc := "()I" } : Jvm.MethodName) prog_8_method_6_code (3 : Nat) (Option.some Jvm.ClassFile.FieldType.int)) ∈ bGood := tg4 114 rfl rfl
theorem m835 : (Jvm.Cond.methodLink "LagoonOperaLaw" (183 : Nat) ({ cls := "LagoonOpera", name := "told", desc := "(I)I" } : Jvm.MethodName)) ∈ bGood := tg4 115 rfl rfl
theorem m836 : (Jvm.Cond.instanceMethod ({ cls := "LagoonOpera", name := "told", desc := "(I)I" } : Jvm.MethodName)) ∈ bGood := tg4 116 rfl rfl
theorem m837 : (Jvm.Cond.selects "LagoonOpera" ({ cls := "LagoonOpera", name := "told", desc := "(I)I" } : Jvm.MethodName) ({ cls := "LagoonOpera", name := "told", desc := "(I)I" } : Jvm.MethodName)) ∈ bGood := tg4 117 rfl rfl
theorem m838 : (Jvm.Cond.code ({ cls := "LagoonOpera", name := "told", desc := "(I)I" } : Jvm.MethodName) prog_1_method_42_code (2 : Nat) (Option.some Jvm.ClassFile.FieldType.int)) ∈ bGood := tg4 118 rfl rfl
theorem m839 : (Jvm.Cond.classLink "LagoonOperaLaw" (10 : Nat) "LagoonOperaModel") ∈ bGood := tg4 119 rfl rfl
theorem m840 : (Jvm.Cond.instantiable "LagoonOperaModel" (23 : Nat)) ∈ bGood := tg4 120 rfl rfl
theorem m841 : (Jvm.Cond.methodLink "LagoonOperaLaw" (12 : Nat) ({ cls := "LagoonOperaModel", name := "<init>", desc := "()V" } : Jvm.MethodName)) ∈ bGood := tg4 121 rfl rfl
theorem m842 : (Jvm.Cond.instanceMethod ({ cls := "LagoonOperaModel", name := "<init>", desc := "()V" } : Jvm.MethodName)) ∈ bGood := tg4 122 rfl rfl
theorem m843 : (Jvm.Cond.code ({ cls := "LagoonOperaModel", name := "<init>", desc := "()V" } : Jvm.MethodName) prog_12_method_1_code (1 : Nat) (Option.none : Option Jvm.ClassFile.FieldType)) ∈ bGood := tg4 123 rfl rfl
theorem m844 : (Jvm.Cond.methodLink "LagoonOperaModel" (3 : Nat) ({ cls := "java/lang/Object", name := "<init>", desc := "()V" } : Jvm.MethodName)) ∈ bGood := tg4 124 rfl rfl
theorem m845 : (Jvm.Cond.classLink "LagoonOperaModel" (25 : Nat) "java/lang/String") ∈ bGood := tg4 125 rfl rfl
theorem m846 : (Jvm.Cond.arrayOver (Jvm.ClassFile.FieldType.object "java/lang/String")) ∈ lw_tbl := tm4 (List.mem_of_getElem? (i := 126) rfl)
theorem m849 : (Jvm.Cond.fieldLink "LagoonOperaModel" (9 : Nat) "LagoonOperaModel" "now" "[I") ∈ bGood := tg4 129 rfl rfl
theorem m850 : (Jvm.Cond.fieldLink "LagoonOperaModel" (13 : Nat) "LagoonOperaModel" "kept" "[I") ∈ bGood := tg4 130 rfl rfl
theorem m851 : (Jvm.Cond.fieldLink "LagoonOperaModel" (16 : Nat) "LagoonOperaModel" "aside" "[I") ∈ bGood := tg4 131 rfl rfl
theorem m852 : (Jvm.Cond.fieldLink "LagoonOperaModel" (288 : Nat) "LagoonOperaModel" "images" "I") ∈ bGood := tg4 132 rfl rfl
theorem m853 : (Jvm.Cond.fieldLink "LagoonOperaModel" (19 : Nat) "LagoonOperaModel" "errors" "[I") ∈ bGood := tg4 133 rfl rfl
theorem m854 : (Jvm.Cond.fieldLink "LagoonOperaModel" (22 : Nat) "LagoonOperaModel" "lagFound" "[I") ∈ bGood := tg4 134 rfl rfl
theorem m855 : (Jvm.Cond.fieldLink "LagoonOperaModel" (31 : Nat) "LagoonOperaModel" "NAMED" "[Ljava/lang/String;") ∈ bGood := tg4 135 rfl rfl
theorem m856 : (Jvm.Cond.fieldLink "LagoonOperaModel" (148 : Nat) "LagoonOperaModel" "at" "I") ∈ bGood := tg4 136 rfl rfl
theorem m857 : (Jvm.Cond.fieldLink "LagoonOperaModel" (190 : Nat) "LagoonOperaModel" "open" "I") ∈ bGood := tg4 137 rfl rfl
theorem m858 : (Jvm.Cond.fieldLink "LagoonOperaModel" (180 : Nat) "LagoonOperaModel" "use" "I") ∈ bGood := tg4 138 rfl rfl
theorem m859 : (Jvm.Cond.fieldLink "LagoonOperaModel" (144 : Nat) "LagoonOperaModel" "isWrong" "Z") ∈ bGood := tg4 139 rfl rfl
theorem m860 : (Jvm.Cond.fieldLink "LagoonOperaModel" (35 : Nat) "LagoonOperaModel" "code" "[I") ∈ bGood := tg4 140 rfl rfl
theorem m861 : (Jvm.Cond.fieldLink "LagoonOperaModel" (155 : Nat) "LagoonOperaModel" "coded" "I") ∈ bGood := tg4 141 rfl rfl
theorem m862 : (Jvm.Cond.fieldLink "LagoonOperaModel" (38 : Nat) "LagoonOperaModel" "named" "[I") ∈ bGood := tg4 142 rfl rfl
theorem m863 : (Jvm.Cond.fieldLink "LagoonOperaModel" (41 : Nat) "LagoonOperaModel" "pile" "[I") ∈ bGood := tg4 143 rfl rfl
theorem m864 : (Jvm.Cond.fieldLink "LagoonOperaModel" (44 : Nat) "LagoonOperaModel" "scores" "[I") ∈ bGood := tg4 144 rfl rfl
theorem m865 : (Jvm.Cond.fieldLink "LagoonOperaModel" (47 : Nat) "LagoonOperaModel" "trace" "[I") ∈ bGood := tg4 145 rfl rfl
theorem m866 : (Jvm.Cond.fieldLink "LagoonOperaModel" (261 : Nat) "LagoonOperaModel" "traced" "I") ∈ bGood := tg4 146 rfl rfl
theorem m867 : (Jvm.Cond.fieldLink "LagoonOperaModel" (264 : Nat) "LagoonOperaModel" "speaker" "I") ∈ bGood := tg4 147 rfl rfl
theorem m868 : (Jvm.Cond.fieldLink "LagoonOperaModel" (50 : Nat) "LagoonOperaModel" "widths" "[I") ∈ bGood := tg4 148 rfl rfl
theorem m869 : (Jvm.Cond.fieldLink "LagoonOperaModel" (53 : Nat) "LagoonOperaModel" "sizes" "[I") ∈ bGood := tg4 149 rfl rfl
theorem m870 : (Jvm.Cond.fieldLink "LagoonOperaModel" (56 : Nat) "LagoonOperaModel" "numbers" "[I") ∈ bGood := tg4 150 rfl rfl
theorem m871 : (Jvm.Cond.fieldLink "LagoonOperaModel" (59 : Nat) "LagoonOperaModel" "carried" "[I") ∈ bGood := tg4 151 rfl rfl
theorem m919 : (Jvm.Cond.arrayClass Jvm.ClassFile.FieldType.byte) ∈ bGood := tg4 199 rfl rfl
theorem m920 : (Jvm.Cond.methodLink "LagoonOperaLaw" (17 : Nat) ({ cls := "LagoonOperaModel", name := "tide", desc := "(II)I" } : Jvm.MethodName)) ∈ bGood := tg4 200 rfl rfl
theorem m921 : (Jvm.Cond.instanceMethod ({ cls := "LagoonOperaModel", name := "tide", desc := "(II)I" } : Jvm.MethodName)) ∈ bGood := tg4 201 rfl rfl
theorem m922 : (Jvm.Cond.selects "LagoonOperaModel" ({ cls := "LagoonOperaModel", name := "tide", desc := "(II)I" } : Jvm.MethodName) ({ cls := "LagoonOperaModel", name := "tide", desc := "(II)I" } : Jvm.MethodName)) ∈ bGood := tg4 202 rfl rfl
theorem m923 : (Jvm.Cond.code ({ cls := "LagoonOperaModel", name := "tide", desc := "(II)I" } : Jvm.MethodName) prog_12_method_10_code (3 : Nat) (Option.some Jvm.ClassFile.FieldType.int)) ∈ bGood := tg4 203 rfl rfl
theorem m924 : (Jvm.Cond.methodLink "LagoonOperaModel" (72 : Nat) ({ cls := "LagoonOperaModel", name := "within", desc := "(III)Z" } : Jvm.MethodName)) ∈ bGood := tg4 204 rfl rfl
theorem m925 : (Jvm.Cond.static ({ cls := "LagoonOperaModel", name := "within", desc := "(III)Z" } : Jvm.MethodName)) ∈ bGood := tg4 205 rfl rfl
theorem m926 : (Jvm.Cond.code ({ cls := "LagoonOperaModel", name := "within", desc := "(III)Z" } : Jvm.MethodName) prog_12_method_3_code (3 : Nat) (Option.some Jvm.ClassFile.FieldType.boolean)) ∈ bGood := tg4 206 rfl rfl
theorem m927 : (Jvm.Cond.methodLink "LagoonOperaModel" (80 : Nat) ({ cls := "LagoonOperaModel", name := "putIn", desc := "(II)I" } : Jvm.MethodName)) ∈ bGood := tg4 207 rfl rfl
theorem m929 : (Jvm.Cond.instanceMethod ({ cls := "LagoonOperaModel", name := "putIn", desc := "(II)I" } : Jvm.MethodName)) ∈ bGood := tg4 209 rfl rfl
theorem m930 : (Jvm.Cond.code ({ cls := "LagoonOperaModel", name := "putIn", desc := "(II)I" } : Jvm.MethodName) prog_12_method_7_code (4 : Nat) (Option.some Jvm.ClassFile.FieldType.int)) ∈ bGood := tg4 210 rfl rfl
theorem m931 : (Jvm.Cond.constant "LagoonOperaModel" (83 : Nat) (-1000000001 : Int32)) ∈ bGood := tg4 211 rfl rfl
theorem m932 : (Jvm.Cond.methodLink "LagoonOperaModel" (84 : Nat) ({ cls := "LagoonOperaModel", name := "finding", desc := "(I)I" } : Jvm.MethodName)) ∈ bGood := tg4 212 rfl rfl
theorem m934 : (Jvm.Cond.instanceMethod ({ cls := "LagoonOperaModel", name := "finding", desc := "(I)I" } : Jvm.MethodName)) ∈ bGood := tg4 214 rfl rfl
theorem m935 : (Jvm.Cond.code ({ cls := "LagoonOperaModel", name := "finding", desc := "(I)I" } : Jvm.MethodName) prog_12_method_2_code (2 : Nat) (Option.some Jvm.ClassFile.FieldType.int)) ∈ bGood := tg4 215 rfl rfl
theorem m936 : (Jvm.Cond.constant "LagoonOperaModel" (62 : Nat) (-1000000000 : Int32)) ∈ bGood := tg4 216 rfl rfl
theorem m937 : (Jvm.Cond.methodLink "LagoonOperaLaw" (22 : Nat) ({ cls := "LagoonOperaModel", name := "speed", desc := "(I)I" } : Jvm.MethodName)) ∈ bGood := tg4 217 rfl rfl
theorem m938 : (Jvm.Cond.instanceMethod ({ cls := "LagoonOperaModel", name := "speed", desc := "(I)I" } : Jvm.MethodName)) ∈ bGood := tg4 218 rfl rfl
theorem m939 : (Jvm.Cond.selects "LagoonOperaModel" ({ cls := "LagoonOperaModel", name := "speed", desc := "(I)I" } : Jvm.MethodName) ({ cls := "LagoonOperaModel", name := "speed", desc := "(I)I" } : Jvm.MethodName)) ∈ bGood := tg4 219 rfl rfl
theorem m940 : (Jvm.Cond.code ({ cls := "LagoonOperaModel", name := "speed", desc := "(I)I" } : Jvm.MethodName) prog_12_method_11_code (2 : Nat) (Option.some Jvm.ClassFile.FieldType.int)) ∈ bGood := tg4 220 rfl rfl
theorem m941 : (Jvm.Cond.methodLink "LagoonOperaLaw" (26 : Nat) ({ cls := "LagoonOperaModel", name := "boat", desc := "(II)I" } : Jvm.MethodName)) ∈ bGood := tg4 221 rfl rfl
theorem m942 : (Jvm.Cond.instanceMethod ({ cls := "LagoonOperaModel", name := "boat", desc := "(II)I" } : Jvm.MethodName)) ∈ bGood := tg4 222 rfl rfl
theorem m943 : (Jvm.Cond.selects "LagoonOperaModel" ({ cls := "LagoonOperaModel", name := "boat", desc := "(II)I" } : Jvm.MethodName) ({ cls := "LagoonOperaModel", name := "boat", desc := "(II)I" } : Jvm.MethodName)) ∈ bGood := tg4 223 rfl rfl
theorem m944 : (Jvm.Cond.code ({ cls := "LagoonOperaModel", name := "boat", desc := "(II)I" } : Jvm.MethodName) prog_12_method_14_code (4 : Nat) (Option.some Jvm.ClassFile.FieldType.int)) ∈ bGood := tg4 224 rfl rfl
theorem m945 : (Jvm.Cond.methodLink "LagoonOperaModel" (88 : Nat) ({ cls := "LagoonOperaModel", name := "isCell", desc := "(I)Z" } : Jvm.MethodName)) ∈ bGood := tg4 225 rfl rfl
theorem m946 : (Jvm.Cond.static ({ cls := "LagoonOperaModel", name := "isCell", desc := "(I)Z" } : Jvm.MethodName)) ∈ bGood := tg4 226 rfl rfl
theorem m947 : (Jvm.Cond.code ({ cls := "LagoonOperaModel", name := "isCell", desc := "(I)Z" } : Jvm.MethodName) prog_12_method_9_code (1 : Nat) (Option.some Jvm.ClassFile.FieldType.boolean)) ∈ bGood := tg4 227 rfl rfl
theorem m948 : (Jvm.Cond.constant "LagoonOperaModel" (92 : Nat) (-1000000004 : Int32)) ∈ bGood := tg4 228 rfl rfl
theorem m949 : (Jvm.Cond.methodLink "LagoonOperaLaw" (30 : Nat) ({ cls := "LagoonOperaModel", name := "ofBoat", desc := "(II)I" } : Jvm.MethodName)) ∈ bGood := tg4 229 rfl rfl
theorem m950 : (Jvm.Cond.instanceMethod ({ cls := "LagoonOperaModel", name := "ofBoat", desc := "(II)I" } : Jvm.MethodName)) ∈ bGood := tg4 230 rfl rfl
theorem m951 : (Jvm.Cond.selects "LagoonOperaModel" ({ cls := "LagoonOperaModel", name := "ofBoat", desc := "(II)I" } : Jvm.MethodName) ({ cls := "LagoonOperaModel", name := "ofBoat", desc := "(II)I" } : Jvm.MethodName)) ∈ bGood := tg4 231 rfl rfl
theorem m952 : (Jvm.Cond.code ({ cls := "LagoonOperaModel", name := "ofBoat", desc := "(II)I" } : Jvm.MethodName) prog_12_method_17_code (3 : Nat) (Option.some Jvm.ClassFile.FieldType.int)) ∈ bGood := tg4 232 rfl rfl
theorem m953 : (Jvm.Cond.methodLink "LagoonOperaModel" (100 : Nat) ({ cls := "LagoonOperaModel", name := "is", desc := "(II)Z" } : Jvm.MethodName)) ∈ bGood := tg4 233 rfl rfl
theorem m955 : (Jvm.Cond.instanceMethod ({ cls := "LagoonOperaModel", name := "is", desc := "(II)Z" } : Jvm.MethodName)) ∈ bGood := tg4 235 rfl rfl
theorem m956 : (Jvm.Cond.code ({ cls := "LagoonOperaModel", name := "is", desc := "(II)Z" } : Jvm.MethodName) prog_12_method_5_code (3 : Nat) (Option.some Jvm.ClassFile.FieldType.boolean)) ∈ bGood := tg4 236 rfl rfl
theorem m957 : (Jvm.Cond.methodLink "LagoonOperaModel" (104 : Nat) ({ cls := "LagoonOperaModel", name := "sings", desc := "(I)Z" } : Jvm.MethodName)) ∈ bGood := tg4 237 rfl rfl
theorem m959 : (Jvm.Cond.instanceMethod ({ cls := "LagoonOperaModel", name := "sings", desc := "(I)Z" } : Jvm.MethodName)) ∈ bGood := tg4 239 rfl rfl
theorem m960 : (Jvm.Cond.code ({ cls := "LagoonOperaModel", name := "sings", desc := "(I)Z" } : Jvm.MethodName) prog_12_method_16_code (2 : Nat) (Option.some Jvm.ClassFile.FieldType.boolean)) ∈ bGood := tg5 0 rfl rfl
theorem m961 : (Jvm.Cond.methodLink "LagoonOperaModel" (93 : Nat) ({ cls := "LagoonOperaModel", name := "boatIs", desc := "(II)I" } : Jvm.MethodName)) ∈ bGood := tg5 1 rfl rfl
theorem m963 : (Jvm.Cond.instanceMethod ({ cls := "LagoonOperaModel", name := "boatIs", desc := "(II)I" } : Jvm.MethodName)) ∈ bGood := tg5 3 rfl rfl
theorem m964 : (Jvm.Cond.code ({ cls := "LagoonOperaModel", name := "boatIs", desc := "(II)I" } : Jvm.MethodName) prog_12_method_12_code (3 : Nat) (Option.some Jvm.ClassFile.FieldType.int)) ∈ bGood := tg5 4 rfl rfl
theorem m965 : (Jvm.Cond.methodLink "LagoonOperaModel" (96 : Nat) ({ cls := "LagoonOperaModel", name := "beat", desc := "()I" } : Jvm.MethodName)) ∈ bGood := tg5 5 rfl rfl
theorem m967 : (Jvm.Cond.instanceMethod ({ cls := "LagoonOperaModel", name := "beat", desc := "()I" } : Jvm.MethodName)) ∈ bGood := tg5 7 rfl rfl
theorem m968 : (Jvm.Cond.code ({ cls := "LagoonOperaModel", name := "beat", desc := "()I" } : Jvm.MethodName) prog_12_method_15_code (1 : Nat) (Option.some Jvm.ClassFile.FieldType.int)) ∈ bGood := tg5 8 rfl rfl
theorem m969 : (Jvm.Cond.methodLink "LagoonOperaLaw" (35 : Nat) ({ cls := "LagoonOperaModel", name := "change", desc := "(III)I" } : Jvm.MethodName)) ∈ bGood := tg5 9 rfl rfl
theorem m970 : (Jvm.Cond.instanceMethod ({ cls := "LagoonOperaModel", name := "change", desc := "(III)I" } : Jvm.MethodName)) ∈ bGood := tg5 10 rfl rfl
theorem m971 : (Jvm.Cond.selects "LagoonOperaModel" ({ cls := "LagoonOperaModel", name := "change", desc := "(III)I" } : Jvm.MethodName) ({ cls := "LagoonOperaModel", name := "change", desc := "(III)I" } : Jvm.MethodName)) ∈ bGood := tg5 11 rfl rfl
theorem m972 : (Jvm.Cond.code ({ cls := "LagoonOperaModel", name := "change", desc := "(III)I" } : Jvm.MethodName) prog_12_method_18_code (5 : Nat) (Option.some Jvm.ClassFile.FieldType.int)) ∈ bGood := tg5 12 rfl rfl
theorem m973 : (Jvm.Cond.methodLink "LagoonOperaLaw" (39 : Nat) ({ cls := "LagoonOperaModel", name := "become", desc := "(II)I" } : Jvm.MethodName)) ∈ bGood := tg5 13 rfl rfl
theorem m974 : (Jvm.Cond.instanceMethod ({ cls := "LagoonOperaModel", name := "become", desc := "(II)I" } : Jvm.MethodName)) ∈ bGood := tg5 14 rfl rfl
theorem m975 : (Jvm.Cond.selects "LagoonOperaModel" ({ cls := "LagoonOperaModel", name := "become", desc := "(II)I" } : Jvm.MethodName) ({ cls := "LagoonOperaModel", name := "become", desc := "(II)I" } : Jvm.MethodName)) ∈ bGood := tg5 15 rfl rfl
theorem m976 : (Jvm.Cond.code ({ cls := "LagoonOperaModel", name := "become", desc := "(II)I" } : Jvm.MethodName) prog_12_method_19_code (3 : Nat) (Option.some Jvm.ClassFile.FieldType.int)) ∈ bGood := tg5 16 rfl rfl
theorem m977 : (Jvm.Cond.methodLink "LagoonOperaLaw" (43 : Nat) ({ cls := "LagoonOperaModel", name := "as", desc := "(II)I" } : Jvm.MethodName)) ∈ bGood := tg5 17 rfl rfl
theorem m978 : (Jvm.Cond.instanceMethod ({ cls := "LagoonOperaModel", name := "as", desc := "(II)I" } : Jvm.MethodName)) ∈ bGood := tg5 18 rfl rfl
theorem m979 : (Jvm.Cond.selects "LagoonOperaModel" ({ cls := "LagoonOperaModel", name := "as", desc := "(II)I" } : Jvm.MethodName) ({ cls := "LagoonOperaModel", name := "as", desc := "(II)I" } : Jvm.MethodName)) ∈ bGood := tg5 19 rfl rfl
theorem m980 : (Jvm.Cond.code ({ cls := "LagoonOperaModel", name := "as", desc := "(II)I" } : Jvm.MethodName) prog_12_method_21_code (4 : Nat) (Option.some Jvm.ClassFile.FieldType.int)) ∈ bGood := tg5 20 rfl rfl
theorem m981 : (Jvm.Cond.methodLink "LagoonOperaModel" (107 : Nat) ({ cls := "LagoonOperaModel", name := "above", desc := "(I)I" } : Jvm.MethodName)) ∈ bGood := tg5 21 rfl rfl
theorem m982 : (Jvm.Cond.static ({ cls := "LagoonOperaModel", name := "above", desc := "(I)I" } : Jvm.MethodName)) ∈ bGood := tg5 22 rfl rfl
theorem m983 : (Jvm.Cond.code ({ cls := "LagoonOperaModel", name := "above", desc := "(I)I" } : Jvm.MethodName) prog_12_method_20_code (1 : Nat) (Option.some Jvm.ClassFile.FieldType.int)) ∈ bGood := tg5 23 rfl rfl
theorem m984 : (Jvm.Cond.constant "LagoonOperaModel" (110 : Nat) (-1000000005 : Int32)) ∈ bGood := tg5 24 rfl rfl
theorem m985 : (Jvm.Cond.methodLink "LagoonOperaLaw" (47 : Nat) ({ cls := "LagoonOperaModel", name := "lag", desc := "(II)I" } : Jvm.MethodName)) ∈ bGood := tg5 25 rfl rfl
theorem m986 : (Jvm.Cond.instanceMethod ({ cls := "LagoonOperaModel", name := "lag", desc := "(II)I" } : Jvm.MethodName)) ∈ bGood := tg5 26 rfl rfl
theorem m987 : (Jvm.Cond.selects "LagoonOperaModel" ({ cls := "LagoonOperaModel", name := "lag", desc := "(II)I" } : Jvm.MethodName) ({ cls := "LagoonOperaModel", name := "lag", desc := "(II)I" } : Jvm.MethodName)) ∈ bGood := tg5 27 rfl rfl
theorem m988 : (Jvm.Cond.code ({ cls := "LagoonOperaModel", name := "lag", desc := "(II)I" } : Jvm.MethodName) prog_12_method_26_code (3 : Nat) (Option.some Jvm.ClassFile.FieldType.int)) ∈ bGood := tg5 28 rfl rfl
theorem m989 : (Jvm.Cond.methodLink "LagoonOperaModel" (124 : Nat) ({ cls := "LagoonOperaModel", name := "comes", desc := "(II)I" } : Jvm.MethodName)) ∈ bGood := tg5 29 rfl rfl
theorem m991 : (Jvm.Cond.instanceMethod ({ cls := "LagoonOperaModel", name := "comes", desc := "(II)I" } : Jvm.MethodName)) ∈ bGood := tg5 31 rfl rfl
theorem m992 : (Jvm.Cond.code ({ cls := "LagoonOperaModel", name := "comes", desc := "(II)I" } : Jvm.MethodName) prog_12_method_25_code (4 : Nat) (Option.some Jvm.ClassFile.FieldType.int)) ∈ bGood := tg5 32 rfl rfl
theorem m993 : (Jvm.Cond.methodLink "LagoonOperaModel" (121 : Nat) ({ cls := "LagoonOperaModel", name := "lags", desc := "(II)I" } : Jvm.MethodName)) ∈ bGood := tg5 33 rfl rfl
theorem m995 : (Jvm.Cond.instanceMethod ({ cls := "LagoonOperaModel", name := "lags", desc := "(II)I" } : Jvm.MethodName)) ∈ bGood := tg5 35 rfl rfl
theorem m996 : (Jvm.Cond.code ({ cls := "LagoonOperaModel", name := "lags", desc := "(II)I" } : Jvm.MethodName) prog_12_method_24_code (5 : Nat) (Option.some Jvm.ClassFile.FieldType.int)) ∈ bGood := tg5 36 rfl rfl
theorem m997 : (Jvm.Cond.methodLink "LagoonOperaModel" (114 : Nat) ({ cls := "LagoonOperaModel", name := "far", desc := "(II)I" } : Jvm.MethodName)) ∈ bGood := tg5 37 rfl rfl
theorem m998 : (Jvm.Cond.static ({ cls := "LagoonOperaModel", name := "far", desc := "(II)I" } : Jvm.MethodName)) ∈ bGood := tg5 38 rfl rfl
theorem m999 : (Jvm.Cond.code ({ cls := "LagoonOperaModel", name := "far", desc := "(II)I" } : Jvm.MethodName) prog_12_method_22_code (2 : Nat) (Option.some Jvm.ClassFile.FieldType.int)) ∈ bGood := tg5 39 rfl rfl
theorem m1000 : (Jvm.Cond.methodLink "LagoonOperaModel" (111 : Nat) ({ cls := "java/lang/Math", name := "abs", desc := "(I)I" } : Jvm.MethodName)) ∈ bGood := tg5 40 rfl rfl
theorem m1001 : (Jvm.Cond.methodLink "LagoonOperaModel" (69 : Nat) ({ cls := "java/lang/Math", name := "max", desc := "(II)I" } : Jvm.MethodName)) ∈ bGood := tg5 41 rfl rfl
theorem m1002 : (Jvm.Cond.methodLink "LagoonOperaModel" (117 : Nat) ({ cls := "LagoonOperaModel", name := "given", desc := "(IIII)I" } : Jvm.MethodName)) ∈ bGood := tg5 42 rfl rfl
theorem m1004 : (Jvm.Cond.instanceMethod ({ cls := "LagoonOperaModel", name := "given", desc := "(IIII)I" } : Jvm.MethodName)) ∈ bGood := tg5 44 rfl rfl
theorem m1005 : (Jvm.Cond.code ({ cls := "LagoonOperaModel", name := "given", desc := "(IIII)I" } : Jvm.MethodName) prog_12_method_49_code (6 : Nat) (Option.some Jvm.ClassFile.FieldType.int)) ∈ bGood := tg5 45 rfl rfl
theorem m1006 : (Jvm.Cond.methodLink "LagoonOperaModel" (206 : Nat) ({ cls := "LagoonOperaModel", name := "hasText", desc := "(I)Z" } : Jvm.MethodName)) ∈ bGood := tg5 46 rfl rfl
theorem m1008 : (Jvm.Cond.instanceMethod ({ cls := "LagoonOperaModel", name := "hasText", desc := "(I)Z" } : Jvm.MethodName)) ∈ bGood := tg5 48 rfl rfl
theorem m1009 : (Jvm.Cond.code ({ cls := "LagoonOperaModel", name := "hasText", desc := "(I)Z" } : Jvm.MethodName) prog_12_method_48_code (2 : Nat) (Option.some Jvm.ClassFile.FieldType.boolean)) ∈ bGood := tg5 49 rfl rfl
theorem m1010 : (Jvm.Cond.methodLink "LagoonOperaModel" (209 : Nat) ({ cls := "LagoonOperaModel", name := "worked", desc := "(I)I" } : Jvm.MethodName)) ∈ bGood := tg5 50 rfl rfl
theorem m1012 : (Jvm.Cond.instanceMethod ({ cls := "LagoonOperaModel", name := "worked", desc := "(I)I" } : Jvm.MethodName)) ∈ bGood := tg5 52 rfl rfl
theorem m1013 : (Jvm.Cond.code ({ cls := "LagoonOperaModel", name := "worked", desc := "(I)I" } : Jvm.MethodName) prog_12_method_47_code (5 : Nat) (Option.some Jvm.ClassFile.FieldType.int)) ∈ bGood := tg5 53 rfl rfl
theorem m1014 : (Jvm.Cond.methodLink "LagoonOperaModel" (202 : Nat) ({ cls := "LagoonOperaModel", name := "done", desc := "(III)I" } : Jvm.MethodName)) ∈ bGood := tg5 54 rfl rfl
theorem m1015 : (Jvm.Cond.static ({ cls := "LagoonOperaModel", name := "done", desc := "(III)I" } : Jvm.MethodName)) ∈ bGood := tg5 55 rfl rfl
theorem m1016 : (Jvm.Cond.code ({ cls := "LagoonOperaModel", name := "done", desc := "(III)I" } : Jvm.MethodName) prog_12_method_46_code (3 : Nat) (Option.some Jvm.ClassFile.FieldType.int)) ∈ bGood := tg5 56 rfl rfl
theorem m1017 : (Jvm.Cond.methodLink "LagoonOperaModel" (212 : Nat) ({ cls := "LagoonOperaModel", name := "held", desc := "(III)I" } : Jvm.MethodName)) ∈ bGood := tg5 57 rfl rfl
theorem m1018 : (Jvm.Cond.static ({ cls := "LagoonOperaModel", name := "held", desc := "(III)I" } : Jvm.MethodName)) ∈ bGood := tg5 58 rfl rfl
theorem m1019 : (Jvm.Cond.code ({ cls := "LagoonOperaModel", name := "held", desc := "(III)I" } : Jvm.MethodName) prog_12_method_4_code (3 : Nat) (Option.some Jvm.ClassFile.FieldType.int)) ∈ bGood := tg5 59 rfl rfl
theorem m1020 : (Jvm.Cond.methodLink "LagoonOperaModel" (63 : Nat) ({ cls := "java/lang/Math", name := "min", desc := "(II)I" } : Jvm.MethodName)) ∈ bGood := tg5 60 rfl rfl
theorem m1021 : (Jvm.Cond.methodLink "LagoonOperaLaw" (51 : Nat) ({ cls := "LagoonOperaModel", name := "listener", desc := "(I)I" } : Jvm.MethodName)) ∈ bGood := tg5 61 rfl rfl
theorem m1022 : (Jvm.Cond.instanceMethod ({ cls := "LagoonOperaModel", name := "listener", desc := "(I)I" } : Jvm.MethodName)) ∈ bGood := tg5 62 rfl rfl
theorem m1023 : (Jvm.Cond.selects "LagoonOperaModel" ({ cls := "LagoonOperaModel", name := "listener", desc := "(I)I" } : Jvm.MethodName) ({ cls := "LagoonOperaModel", name := "listener", desc := "(I)I" } : Jvm.MethodName)) ∈ bGood := tg5 63 rfl rfl
theorem m1024 : (Jvm.Cond.code ({ cls := "LagoonOperaModel", name := "listener", desc := "(I)I" } : Jvm.MethodName) prog_12_method_27_code (3 : Nat) (Option.some Jvm.ClassFile.FieldType.int)) ∈ bGood := tg5 64 rfl rfl
theorem m1025 : (Jvm.Cond.methodLink "LagoonOperaLaw" (55 : Nat) ({ cls := "LagoonOperaModel", name := "ofListener", desc := "(II)I" } : Jvm.MethodName)) ∈ bGood := tg5 65 rfl rfl
theorem m1026 : (Jvm.Cond.instanceMethod ({ cls := "LagoonOperaModel", name := "ofListener", desc := "(II)I" } : Jvm.MethodName)) ∈ bGood := tg5 66 rfl rfl
theorem m1027 : (Jvm.Cond.selects "LagoonOperaModel" ({ cls := "LagoonOperaModel", name := "ofListener", desc := "(II)I" } : Jvm.MethodName) ({ cls := "LagoonOperaModel", name := "ofListener", desc := "(II)I" } : Jvm.MethodName)) ∈ bGood := tg5 67 rfl rfl
theorem m1028 : (Jvm.Cond.code ({ cls := "LagoonOperaModel", name := "ofListener", desc := "(II)I" } : Jvm.MethodName) prog_12_method_32_code (3 : Nat) (Option.some Jvm.ClassFile.FieldType.int)) ∈ bGood := tg5 68 rfl rfl
theorem m1029 : (Jvm.Cond.methodLink "LagoonOperaModel" (139 : Nat) ({ cls := "LagoonOperaModel", name := "ofOne", desc := "(II)I" } : Jvm.MethodName)) ∈ bGood := tg5 69 rfl rfl
theorem m1031 : (Jvm.Cond.instanceMethod ({ cls := "LagoonOperaModel", name := "ofOne", desc := "(II)I" } : Jvm.MethodName)) ∈ bGood := tg5 71 rfl rfl
theorem m1032 : (Jvm.Cond.code ({ cls := "LagoonOperaModel", name := "ofOne", desc := "(II)I" } : Jvm.MethodName) prog_12_method_31_code (3 : Nat) (Option.some Jvm.ClassFile.FieldType.int)) ∈ bGood := tg5 72 rfl rfl
theorem m1033 : (Jvm.Cond.methodLink "LagoonOperaModel" (130 : Nat) ({ cls := "LagoonOperaModel", name := "listenerIs", desc := "(II)I" } : Jvm.MethodName)) ∈ bGood := tg5 73 rfl rfl
theorem m1035 : (Jvm.Cond.instanceMethod ({ cls := "LagoonOperaModel", name := "listenerIs", desc := "(II)I" } : Jvm.MethodName)) ∈ bGood := tg5 75 rfl rfl
theorem m1036 : (Jvm.Cond.code ({ cls := "LagoonOperaModel", name := "listenerIs", desc := "(II)I" } : Jvm.MethodName) prog_12_method_13_code (3 : Nat) (Option.some Jvm.ClassFile.FieldType.int)) ∈ bGood := tg5 76 rfl rfl
theorem m1037 : (Jvm.Cond.methodLink "LagoonOperaModel" (133 : Nat) ({ cls := "LagoonOperaModel", name := "singers", desc := "()I" } : Jvm.MethodName)) ∈ bGood := tg5 77 rfl rfl
theorem m1039 : (Jvm.Cond.instanceMethod ({ cls := "LagoonOperaModel", name := "singers", desc := "()I" } : Jvm.MethodName)) ∈ bGood := tg5 79 rfl rfl
theorem m1040 : (Jvm.Cond.code ({ cls := "LagoonOperaModel", name := "singers", desc := "()I" } : Jvm.MethodName) prog_12_method_28_code (3 : Nat) (Option.some Jvm.ClassFile.FieldType.int)) ∈ bGood := tg5 80 rfl rfl
theorem m1041 : (Jvm.Cond.methodLink "LagoonOperaModel" (136 : Nat) ({ cls := "LagoonOperaModel", name := "isTogether", desc := "(II)Z" } : Jvm.MethodName)) ∈ bGood := tg5 81 rfl rfl
theorem m1043 : (Jvm.Cond.instanceMethod ({ cls := "LagoonOperaModel", name := "isTogether", desc := "(II)Z" } : Jvm.MethodName)) ∈ bGood := tg5 83 rfl rfl
theorem m1044 : (Jvm.Cond.code ({ cls := "LagoonOperaModel", name := "isTogether", desc := "(II)Z" } : Jvm.MethodName) prog_12_method_30_code (7 : Nat) (Option.some Jvm.ClassFile.FieldType.boolean)) ∈ bGood := tg5 84 rfl rfl
theorem m1045 : (Jvm.Cond.methodLink "LagoonOperaModel" (127 : Nat) ({ cls := "LagoonOperaModel", name := "bits", desc := "(I)I" } : Jvm.MethodName)) ∈ bGood := tg5 85 rfl rfl
theorem m1046 : (Jvm.Cond.static ({ cls := "LagoonOperaModel", name := "bits", desc := "(I)I" } : Jvm.MethodName)) ∈ bGood := tg5 86 rfl rfl
theorem m1047 : (Jvm.Cond.code ({ cls := "LagoonOperaModel", name := "bits", desc := "(I)I" } : Jvm.MethodName) prog_12_method_29_code (3 : Nat) (Option.some Jvm.ClassFile.FieldType.int)) ∈ bGood := tg5 87 rfl rfl
theorem m1048 : (Jvm.Cond.methodLink "LagoonOperaLaw" (59 : Nat) ({ cls := "LagoonOperaModel", name := "row", desc := "(II)I" } : Jvm.MethodName)) ∈ bGood := tg5 88 rfl rfl
theorem m1049 : (Jvm.Cond.instanceMethod ({ cls := "LagoonOperaModel", name := "row", desc := "(II)I" } : Jvm.MethodName)) ∈ bGood := tg5 89 rfl rfl
theorem m1050 : (Jvm.Cond.selects "LagoonOperaModel" ({ cls := "LagoonOperaModel", name := "row", desc := "(II)I" } : Jvm.MethodName) ({ cls := "LagoonOperaModel", name := "row", desc := "(II)I" } : Jvm.MethodName)) ∈ bGood := tg5 90 rfl rfl
theorem m1051 : (Jvm.Cond.code ({ cls := "LagoonOperaModel", name := "row", desc := "(II)I" } : Jvm.MethodName) prog_12_method_33_code (3 : Nat) (Option.some Jvm.ClassFile.FieldType.int)) ∈ bGood := tg5 91 rfl rfl
theorem m1052 : (Jvm.Cond.methodLink "LagoonOperaLaw" (66 : Nat) ({ cls := "LagoonOperaModel", name := "feed", desc := "(JI)I" } : Jvm.MethodName)) ∈ bGood := tg5 92 rfl rfl
theorem m1053 : (Jvm.Cond.instanceMethod ({ cls := "LagoonOperaModel", name := "feed", desc := "(JI)I" } : Jvm.MethodName)) ∈ bGood := tg5 93 rfl rfl
theorem m1054 : (Jvm.Cond.selects "LagoonOperaModel" ({ cls := "LagoonOperaModel", name := "feed", desc := "(JI)I" } : Jvm.MethodName) ({ cls := "LagoonOperaModel", name := "feed", desc := "(JI)I" } : Jvm.MethodName)) ∈ bGood := tg5 94 rfl rfl
theorem m1055 : (Jvm.Cond.code ({ cls := "LagoonOperaModel", name := "feed", desc := "(JI)I" } : Jvm.MethodName) prog_12_method_34_code (5 : Nat) (Option.some Jvm.ClassFile.FieldType.int)) ∈ bGood := tg5 95 rfl rfl
theorem m1056 : (Jvm.Cond.constantLong "LagoonOperaModel" (142 : Nat) (255 : Int64)) ∈ bGood := tg5 96 rfl rfl
theorem m1057 : (Jvm.Cond.methodLink "LagoonOperaLaw" (70 : Nat) ({ cls := "LagoonOperaModel", name := "text", desc := "(I)I" } : Jvm.MethodName)) ∈ bGood := tg5 97 rfl rfl
theorem m1058 : (Jvm.Cond.instanceMethod ({ cls := "LagoonOperaModel", name := "text", desc := "(I)I" } : Jvm.MethodName)) ∈ bGood := tg5 98 rfl rfl
theorem m1059 : (Jvm.Cond.selects "LagoonOperaModel" ({ cls := "LagoonOperaModel", name := "text", desc := "(I)I" } : Jvm.MethodName) ({ cls := "LagoonOperaModel", name := "text", desc := "(I)I" } : Jvm.MethodName)) ∈ bGood := tg5 99 rfl rfl
theorem m1060 : (Jvm.Cond.code ({ cls := "LagoonOperaModel", name := "text", desc := "(I)I" } : Jvm.MethodName) prog_12_method_45_code (3 : Nat) (Option.some Jvm.ClassFile.FieldType.int)) ∈ bGood := tg5 100 rfl rfl
theorem m1061 : (Jvm.Cond.methodLink "LagoonOperaModel" (193 : Nat) ({ cls := "LagoonOperaModel", name := "either", desc := "()V" } : Jvm.MethodName)) ∈ bGood := tg5 101 rfl rfl
theorem m1063 : (Jvm.Cond.instanceMethod ({ cls := "LagoonOperaModel", name := "either", desc := "()V" } : Jvm.MethodName)) ∈ bGood := tg5 103 rfl rfl
theorem m1064 : (Jvm.Cond.code ({ cls := "LagoonOperaModel", name := "either", desc := "()V" } : Jvm.MethodName) prog_12_method_38_code (1 : Nat) (Option.none : Option Jvm.ClassFile.FieldType)) ∈ bGood := tg5 104 rfl rfl
theorem m1065 : (Jvm.Cond.methodLink "LagoonOperaModel" (158 : Nat) ({ cls := "LagoonOperaModel", name := "both", desc := "()V" } : Jvm.MethodName)) ∈ bGood := tg5 105 rfl rfl
theorem m1067 : (Jvm.Cond.instanceMethod ({ cls := "LagoonOperaModel", name := "both", desc := "()V" } : Jvm.MethodName)) ∈ bGood := tg5 107 rfl rfl
theorem m1068 : (Jvm.Cond.code ({ cls := "LagoonOperaModel", name := "both", desc := "()V" } : Jvm.MethodName) prog_12_method_39_code (1 : Nat) (Option.none : Option Jvm.ClassFile.FieldType)) ∈ bGood := tg5 108 rfl rfl
theorem m1069 : (Jvm.Cond.methodLink "LagoonOperaModel" (168 : Nat) ({ cls := "LagoonOperaModel", name := "compared", desc := "()V" } : Jvm.MethodName)) ∈ bGood := tg5 109 rfl rfl
theorem m1071 : (Jvm.Cond.instanceMethod ({ cls := "LagoonOperaModel", name := "compared", desc := "()V" } : Jvm.MethodName)) ∈ bGood := tg5 111 rfl rfl
theorem m1072 : (Jvm.Cond.code ({ cls := "LagoonOperaModel", name := "compared", desc := "()V" } : Jvm.MethodName) prog_12_method_40_code (2 : Nat) (Option.none : Option Jvm.ClassFile.FieldType)) ∈ bGood := tg5 112 rfl rfl
theorem m1073 : (Jvm.Cond.methodLink "LagoonOperaModel" (171 : Nat) ({ cls := "LagoonOperaModel", name := "sum", desc := "()V" } : Jvm.MethodName)) ∈ bGood := tg5 113 rfl rfl
theorem m1075 : (Jvm.Cond.instanceMethod ({ cls := "LagoonOperaModel", name := "sum", desc := "()V" } : Jvm.MethodName)) ∈ bGood := tg5 115 rfl rfl
theorem m1076 : (Jvm.Cond.code ({ cls := "LagoonOperaModel", name := "sum", desc := "()V" } : Jvm.MethodName) prog_12_method_41_code (2 : Nat) (Option.none : Option Jvm.ClassFile.FieldType)) ∈ bGood := tg5 116 rfl rfl
theorem m1077 : (Jvm.Cond.methodLink "LagoonOperaModel" (174 : Nat) ({ cls := "LagoonOperaModel", name := "product", desc := "()V" } : Jvm.MethodName)) ∈ bGood := tg5 117 rfl rfl
theorem m1079 : (Jvm.Cond.instanceMethod ({ cls := "LagoonOperaModel", name := "product", desc := "()V" } : Jvm.MethodName)) ∈ bGood := tg5 119 rfl rfl
theorem m1080 : (Jvm.Cond.code ({ cls := "LagoonOperaModel", name := "product", desc := "()V" } : Jvm.MethodName) prog_12_method_42_code (2 : Nat) (Option.none : Option Jvm.ClassFile.FieldType)) ∈ bGood := tg5 120 rfl rfl
theorem m1081 : (Jvm.Cond.methodLink "LagoonOperaModel" (177 : Nat) ({ cls := "LagoonOperaModel", name := "one", desc := "()V" } : Jvm.MethodName)) ∈ bGood := tg5 121 rfl rfl
theorem m1083 : (Jvm.Cond.instanceMethod ({ cls := "LagoonOperaModel", name := "one", desc := "()V" } : Jvm.MethodName)) ∈ bGood := tg5 123 rfl rfl
theorem m1084 : (Jvm.Cond.code ({ cls := "LagoonOperaModel", name := "one", desc := "()V" } : Jvm.MethodName) prog_12_method_44_code (4 : Nat) (Option.none : Option Jvm.ClassFile.FieldType)) ∈ bGood := tg5 124 rfl rfl
theorem m1085 : (Jvm.Cond.methodLink "LagoonOperaModel" (152 : Nat) ({ cls := "LagoonOperaModel", name := "here", desc := "()I" } : Jvm.MethodName)) ∈ bGood := tg5 125 rfl rfl
theorem m1087 : (Jvm.Cond.instanceMethod ({ cls := "LagoonOperaModel", name := "here", desc := "()I" } : Jvm.MethodName)) ∈ bGood := tg5 127 rfl rfl
theorem m1088 : (Jvm.Cond.code ({ cls := "LagoonOperaModel", name := "here", desc := "()I" } : Jvm.MethodName) prog_12_method_35_code (1 : Nat) (Option.some Jvm.ClassFile.FieldType.int)) ∈ bGood := tg5 128 rfl rfl
theorem m1089 : (Jvm.Cond.methodLink "LagoonOperaModel" (164 : Nat) ({ cls := "LagoonOperaModel", name := "codes", desc := "(I)V" } : Jvm.MethodName)) ∈ bGood := tg5 129 rfl rfl
theorem m1091 : (Jvm.Cond.instanceMethod ({ cls := "LagoonOperaModel", name := "codes", desc := "(I)V" } : Jvm.MethodName)) ∈ bGood := tg5 131 rfl rfl
theorem m1092 : (Jvm.Cond.code ({ cls := "LagoonOperaModel", name := "codes", desc := "(I)V" } : Jvm.MethodName) prog_12_method_37_code (2 : Nat) (Option.none : Option Jvm.ClassFile.FieldType)) ∈ bGood := tg5 132 rfl rfl
theorem m1093 : (Jvm.Cond.methodLink "LagoonOperaModel" (161 : Nat) ({ cls := "LagoonOperaModel", name := "takes", desc := "(I)Z" } : Jvm.MethodName)) ∈ bGood := tg5 133 rfl rfl
theorem m1095 : (Jvm.Cond.instanceMethod ({ cls := "LagoonOperaModel", name := "takes", desc := "(I)Z" } : Jvm.MethodName)) ∈ bGood := tg5 135 rfl rfl
theorem m1096 : (Jvm.Cond.code ({ cls := "LagoonOperaModel", name := "takes", desc := "(I)Z" } : Jvm.MethodName) prog_12_method_36_code (3 : Nat) (Option.some Jvm.ClassFile.FieldType.boolean)) ∈ bGood := tg5 136 rfl rfl
theorem m1097 : (Jvm.Cond.methodLink "LagoonOperaModel" (196 : Nat) ({ cls := "LagoonOperaModel", name := "nameOf", desc := "(I)I" } : Jvm.MethodName)) ∈ bGood := tg5 137 rfl rfl
theorem m1099 : (Jvm.Cond.instanceMethod ({ cls := "LagoonOperaModel", name := "nameOf", desc := "(I)I" } : Jvm.MethodName)) ∈ bGood := tg5 139 rfl rfl
theorem m1100 : (Jvm.Cond.code ({ cls := "LagoonOperaModel", name := "nameOf", desc := "(I)I" } : Jvm.MethodName) prog_12_method_43_code (4 : Nat) (Option.some Jvm.ClassFile.FieldType.int)) ∈ bGood := tg5 140 rfl rfl
theorem m1101 : (Jvm.Cond.methodLink "LagoonOperaModel" (183 : Nat) ({ cls := "java/lang/String", name := "length", desc := "()I" } : Jvm.MethodName)) ∈ bGood := tg5 141 rfl rfl
theorem m1102 : (Jvm.Cond.instanceMethod ({ cls := "java/lang/String", name := "length", desc := "()I" } : Jvm.MethodName)) ∈ bGood := tg5 142 rfl rfl
theorem m1103 : (Jvm.Cond.selects "java/lang/String" ({ cls := "java/lang/String", name := "length", desc := "()I" } : Jvm.MethodName) ({ cls := "java/lang/String", name := "length", desc := "()I" } : Jvm.MethodName)) ∈ bGood := tg5 143 rfl rfl
theorem m1104 : (Jvm.Cond.code ({ cls := "java/lang/String", name := "length", desc := "()I" } : Jvm.MethodName) prog_16_method_54_code (1 : Nat) (Option.some Jvm.ClassFile.FieldType.int)) ∈ bGood := tg5 144 rfl rfl
theorem m1105 : (Jvm.Cond.methodLink "java/lang/String" (335 : Nat) ({ cls := "java/lang/String", name := "coder", desc := "()B" } : Jvm.MethodName)) ∈ bGood := tg5 145 rfl rfl
theorem m1106 : (Jvm.Cond.instanceMethod ({ cls := "java/lang/String", name := "coder", desc := "()B" } : Jvm.MethodName)) ∈ bGood := tg5 146 rfl rfl
theorem m1107 : (Jvm.Cond.selects "java/lang/String" ({ cls := "java/lang/String", name := "coder", desc := "()B" } : Jvm.MethodName) ({ cls := "java/lang/String", name := "coder", desc := "()B" } : Jvm.MethodName)) ∈ bGood := tg5 147 rfl rfl
theorem m1108 : (Jvm.Cond.code ({ cls := "java/lang/String", name := "coder", desc := "()B" } : Jvm.MethodName) prog_16_method_152_code (1 : Nat) (Option.some Jvm.ClassFile.FieldType.byte)) ∈ bGood := tg5 148 rfl rfl
theorem m1109 : (Jvm.Cond.fieldLink "java/lang/String" (38 : Nat) "java/lang/String" "COMPACT_STRINGS" "Z") ∈ bGood := tg5 149 rfl rfl
theorem m1111 : (Jvm.Cond.methodLink "LagoonOperaModel" (186 : Nat) ({ cls := "java/lang/String", name := "charAt", desc := "(I)C" } : Jvm.MethodName)) ∈ bGood := tg5 151 rfl rfl
theorem m1112 : (Jvm.Cond.instanceMethod ({ cls := "java/lang/String", name := "charAt", desc := "(I)C" } : Jvm.MethodName)) ∈ bGood := tg5 152 rfl rfl
theorem m1113 : (Jvm.Cond.selects "java/lang/String" ({ cls := "java/lang/String", name := "charAt", desc := "(I)C" } : Jvm.MethodName) ({ cls := "java/lang/String", name := "charAt", desc := "(I)C" } : Jvm.MethodName)) ∈ bGood := tg5 153 rfl rfl
theorem m1114 : (Jvm.Cond.code ({ cls := "java/lang/String", name := "charAt", desc := "(I)C" } : Jvm.MethodName) prog_16_method_56_code (2 : Nat) (Option.some Jvm.ClassFile.FieldType.char)) ∈ bGood := tg5 154 rfl rfl
theorem m1115 : (Jvm.Cond.methodLink "java/lang/String" (492 : Nat) ({ cls := "java/lang/String", name := "isLatin1", desc := "()Z" } : Jvm.MethodName)) ∈ bGood := tg5 155 rfl rfl
theorem m1116 : (Jvm.Cond.instanceMethod ({ cls := "java/lang/String", name := "isLatin1", desc := "()Z" } : Jvm.MethodName)) ∈ bGood := tg5 156 rfl rfl
theorem m1117 : (Jvm.Cond.selects "java/lang/String" ({ cls := "java/lang/String", name := "isLatin1", desc := "()Z" } : Jvm.MethodName) ({ cls := "java/lang/String", name := "isLatin1", desc := "()Z" } : Jvm.MethodName)) ∈ bGood := tg5 157 rfl rfl
theorem m1118 : (Jvm.Cond.code ({ cls := "java/lang/String", name := "isLatin1", desc := "()Z" } : Jvm.MethodName) prog_16_method_154_code (1 : Nat) (Option.some Jvm.ClassFile.FieldType.boolean)) ∈ bGood := tg5 158 rfl rfl
theorem m1119 : (Jvm.Cond.methodLink "java/lang/String" (495 : Nat) ({ cls := "java/lang/StringLatin1", name := "charAt", desc := "([BI)C" } : Jvm.MethodName)) ∈ bGood := tg5 159 rfl rfl
theorem m1120 : (Jvm.Cond.static ({ cls := "java/lang/StringLatin1", name := "charAt", desc := "([BI)C" } : Jvm.MethodName)) ∈ bGood := tg5 160 rfl rfl
theorem m1121 : (Jvm.Cond.code ({ cls := "java/lang/StringLatin1", name := "charAt", desc := "([BI)C" } : Jvm.MethodName) prog_17_method_2_code (2 : Nat) (Option.some Jvm.ClassFile.FieldType.char)) ∈ bGood := tg5 161 rfl rfl
theorem m1122 : (Jvm.Cond.methodLink "java/lang/StringLatin1" (9 : Nat) ({ cls := "java/lang/String", name := "checkIndex", desc := "(II)V" } : Jvm.MethodName)) ∈ bGood := tg5 162 rfl rfl
theorem m1123 : (Jvm.Cond.static ({ cls := "java/lang/String", name := "checkIndex", desc := "(II)V" } : Jvm.MethodName)) ∈ bGood := tg5 163 rfl rfl
theorem m1124 : (Jvm.Cond.code ({ cls := "java/lang/String", name := "checkIndex", desc := "(II)V" } : Jvm.MethodName) prog_16_method_155_code (2 : Nat) (Option.none : Option Jvm.ClassFile.FieldType)) ∈ bGood := tg5 164 rfl rfl
theorem m1125 : (Jvm.Cond.fieldLink "java/lang/String" (1053 : Nat) "jdk/internal/util/Preconditions" "SIOOBE_FORMATTER" "Ljava/util/function/BiFunction;") ∈ bGood := tg5 165 rfl rfl
theorem m1127 : (Jvm.Cond.methodLink "java/lang/String" (1059 : Nat) ({ cls := "jdk/internal/util/Preconditions", name := "checkIndex", desc := "(IILjava/util/function/BiFunction;)I" } : Jvm.MethodName)) ∈ bGood := tg5 167 rfl rfl
theorem m1128 : (Jvm.Cond.static ({ cls := "jdk/internal/util/Preconditions", name := "checkIndex", desc := "(IILjava/util/function/BiFunction;)I" } : Jvm.MethodName)) ∈ bGood := tg5 168 rfl rfl
theorem m1129 : (Jvm.Cond.code ({ cls := "jdk/internal/util/Preconditions", name := "checkIndex", desc := "(IILjava/util/function/BiFunction;)I" } : Jvm.MethodName) prog_21_method_11_code (3 : Nat) (Option.some Jvm.ClassFile.FieldType.int)) ∈ bGood := tg5 169 rfl rfl
theorem m1130 : (Jvm.Cond.methodLink "java/lang/String" (498 : Nat) ({ cls := "java/lang/StringUTF16", name := "charAt", desc := "([BI)C" } : Jvm.MethodName)) ∈ bGood := tg5 170 rfl rfl
theorem m1131 : (Jvm.Cond.static ({ cls := "java/lang/StringUTF16", name := "charAt", desc := "([BI)C" } : Jvm.MethodName)) ∈ bGood := tg5 171 rfl rfl
theorem m1132 : (Jvm.Cond.code ({ cls := "java/lang/StringUTF16", name := "charAt", desc := "([BI)C" } : Jvm.MethodName) prog_18_method_83_code (2 : Nat) (Option.some Jvm.ClassFile.FieldType.char)) ∈ bGood := tg5 172 rfl rfl
theorem m1133 : (Jvm.Cond.methodLink "java/lang/StringUTF16" (67 : Nat) ({ cls := "java/lang/StringUTF16", name := "checkIndex", desc := "(I[B)V" } : Jvm.MethodName)) ∈ bGood := tg5 173 rfl rfl
theorem m1134 : (Jvm.Cond.static ({ cls := "java/lang/StringUTF16", name := "checkIndex", desc := "(I[B)V" } : Jvm.MethodName)) ∈ bGood := tg5 174 rfl rfl
theorem m1135 : (Jvm.Cond.code ({ cls := "java/lang/StringUTF16", name := "checkIndex", desc := "(I[B)V" } : Jvm.MethodName) prog_18_method_91_code (2 : Nat) (Option.none : Option Jvm.ClassFile.FieldType)) ∈ bGood := tg5 175 rfl rfl
theorem m1136 : (Jvm.Cond.methodLink "java/lang/StringUTF16" (48 : Nat) ({ cls := "java/lang/StringUTF16", name := "length", desc := "([B)I" } : Jvm.MethodName)) ∈ bGood := tg5 176 rfl rfl
theorem m1137 : (Jvm.Cond.static ({ cls := "java/lang/StringUTF16", name := "length", desc := "([B)I" } : Jvm.MethodName)) ∈ bGood := tg5 177 rfl rfl
theorem m1138 : (Jvm.Cond.code ({ cls := "java/lang/StringUTF16", name := "length", desc := "([B)I" } : Jvm.MethodName) prog_18_method_6_code (1 : Nat) (Option.some Jvm.ClassFile.FieldType.int)) ∈ bGood := tg5 178 rfl rfl
theorem m1139 : (Jvm.Cond.methodLink "java/lang/StringUTF16" (414 : Nat) ({ cls := "java/lang/String", name := "checkIndex", desc := "(II)V" } : Jvm.MethodName)) ∈ bGood := tg5 179 rfl rfl
theorem m1140 : (Jvm.Cond.methodLink "java/lang/StringUTF16" (71 : Nat) ({ cls := "java/lang/StringUTF16", name := "getChar", desc := "([BI)C" } : Jvm.MethodName)) ∈ bGood := tg5 180 rfl rfl
theorem m1141 : (Jvm.Cond.static ({ cls := "java/lang/StringUTF16", name := "getChar", desc := "([BI)C" } : Jvm.MethodName)) ∈ bGood := tg5 181 rfl rfl
theorem m1142 : (Jvm.Cond.code ({ cls := "java/lang/StringUTF16", name := "getChar", desc := "([BI)C" } : Jvm.MethodName) prog_18_method_5_code (2 : Nat) (Option.some Jvm.ClassFile.FieldType.char)) ∈ bGood := tg5 182 rfl rfl
theorem m1143 : (Jvm.Cond.fieldLink "java/lang/StringUTF16" (44 : Nat) "java/lang/StringUTF16" "$assertionsDisabled" "Z") ∈ bGood := tg5 183 rfl rfl
theorem m1145 : (Jvm.Cond.fieldLink "java/lang/StringUTF16" (59 : Nat) "java/lang/StringUTF16" "HI_BYTE_SHIFT" "I") ∈ bGood := tg5 185 rfl rfl
theorem m1147 : (Jvm.Cond.fieldLink "java/lang/StringUTF16" (63 : Nat) "java/lang/StringUTF16" "LO_BYTE_SHIFT" "I") ∈ bGood := tg5 187 rfl rfl
theorem m1149 : (Jvm.Cond.methodLink "LagoonOperaModel" (199 : Nat) ({ cls := "LagoonOperaModel", name := "forgetLags", desc := "()V" } : Jvm.MethodName)) ∈ bGood := tg5 189 rfl rfl
theorem m1151 : (Jvm.Cond.instanceMethod ({ cls := "LagoonOperaModel", name := "forgetLags", desc := "()V" } : Jvm.MethodName)) ∈ bGood := tg5 191 rfl rfl
theorem m1152 : (Jvm.Cond.code ({ cls := "LagoonOperaModel", name := "forgetLags", desc := "()V" } : Jvm.MethodName) prog_12_method_23_code (2 : Nat) (Option.none : Option Jvm.ClassFile.FieldType)) ∈ bGood := tg5 192 rfl rfl
theorem m1153 : (Jvm.Cond.methodLink "LagoonOperaLaw" (75 : Nat) ({ cls := "LagoonOperaModel", name := "law", desc := "(IIII)I" } : Jvm.MethodName)) ∈ bGood := tg5 193 rfl rfl
theorem m1154 : (Jvm.Cond.instanceMethod ({ cls := "LagoonOperaModel", name := "law", desc := "(IIII)I" } : Jvm.MethodName)) ∈ bGood := tg5 194 rfl rfl
theorem m1155 : (Jvm.Cond.selects "LagoonOperaModel" ({ cls := "LagoonOperaModel", name := "law", desc := "(IIII)I" } : Jvm.MethodName) ({ cls := "LagoonOperaModel", name := "law", desc := "(IIII)I" } : Jvm.MethodName)) ∈ bGood := tg5 195 rfl rfl
theorem m1156 : (Jvm.Cond.code ({ cls := "LagoonOperaModel", name := "law", desc := "(IIII)I" } : Jvm.MethodName) prog_12_method_50_code (5 : Nat) (Option.some Jvm.ClassFile.FieldType.int)) ∈ bGood := tg5 196 rfl rfl
theorem m1157 : (Jvm.Cond.methodLink "LagoonOperaLaw" (79 : Nat) ({ cls := "LagoonOperaModel", name := "beats", desc := "(I)I" } : Jvm.MethodName)) ∈ bGood := tg5 197 rfl rfl
theorem m1158 : (Jvm.Cond.instanceMethod ({ cls := "LagoonOperaModel", name := "beats", desc := "(I)I" } : Jvm.MethodName)) ∈ bGood := tg5 198 rfl rfl
theorem m1159 : (Jvm.Cond.selects "LagoonOperaModel" ({ cls := "LagoonOperaModel", name := "beats", desc := "(I)I" } : Jvm.MethodName) ({ cls := "LagoonOperaModel", name := "beats", desc := "(I)I" } : Jvm.MethodName)) ∈ bGood := tg5 199 rfl rfl
theorem m1160 : (Jvm.Cond.code ({ cls := "LagoonOperaModel", name := "beats", desc := "(I)I" } : Jvm.MethodName) prog_12_method_58_code (2 : Nat) (Option.some Jvm.ClassFile.FieldType.int)) ∈ bGood := tg5 200 rfl rfl
theorem m1161 : (Jvm.Cond.methodLink "LagoonOperaModel" (237 : Nat) ({ cls := "LagoonOperaModel", name := "go", desc := "(IZ)I" } : Jvm.MethodName)) ∈ bGood := tg5 201 rfl rfl
theorem m1163 : (Jvm.Cond.instanceMethod ({ cls := "LagoonOperaModel", name := "go", desc := "(IZ)I" } : Jvm.MethodName)) ∈ bGood := tg5 203 rfl rfl
theorem m1164 : (Jvm.Cond.code ({ cls := "LagoonOperaModel", name := "go", desc := "(IZ)I" } : Jvm.MethodName) prog_12_method_57_code (3 : Nat) (Option.some Jvm.ClassFile.FieldType.int)) ∈ bGood := tg5 204 rfl rfl
theorem m1165 : (Jvm.Cond.constant "LagoonOperaModel" (232 : Nat) (-1000000003 : Int32)) ∈ bGood := tg5 205 rfl rfl
theorem m1166 : (Jvm.Cond.methodLink "LagoonOperaModel" (233 : Nat) ({ cls := "LagoonOperaModel", name := "beatsGo", desc := "(IZ)V" } : Jvm.MethodName)) ∈ bGood := tg5 206 rfl rfl
theorem m1168 : (Jvm.Cond.instanceMethod ({ cls := "LagoonOperaModel", name := "beatsGo", desc := "(IZ)V" } : Jvm.MethodName)) ∈ bGood := tg5 208 rfl rfl
theorem m1169 : (Jvm.Cond.code ({ cls := "LagoonOperaModel", name := "beatsGo", desc := "(IZ)V" } : Jvm.MethodName) prog_12_method_56_code (6 : Nat) (Option.none : Option Jvm.ClassFile.FieldType)) ∈ bGood := tg5 209 rfl rfl
theorem m1170 : (Jvm.Cond.methodLink "LagoonOperaModel" (223 : Nat) ({ cls := "LagoonOperaModel", name := "drawn", desc := "(I)I" } : Jvm.MethodName)) ∈ bGood := tg5 210 rfl rfl
theorem m1172 : (Jvm.Cond.instanceMethod ({ cls := "LagoonOperaModel", name := "drawn", desc := "(I)I" } : Jvm.MethodName)) ∈ bGood := tg5 212 rfl rfl
theorem m1173 : (Jvm.Cond.code ({ cls := "LagoonOperaModel", name := "drawn", desc := "(I)I" } : Jvm.MethodName) prog_12_method_51_code (2 : Nat) (Option.some Jvm.ClassFile.FieldType.int)) ∈ bGood := tg5 213 rfl rfl
theorem m1174 : (Jvm.Cond.constant "LagoonOperaModel" (215 : Nat) (1103515245 : Int32)) ∈ bGood := tg5 214 rfl rfl
theorem m1175 : (Jvm.Cond.methodLink "LagoonOperaModel" (226 : Nat) ({ cls := "LagoonOperaModel", name := "listen", desc := "(I)V" } : Jvm.MethodName)) ∈ bGood := tg5 215 rfl rfl
theorem m1177 : (Jvm.Cond.instanceMethod ({ cls := "LagoonOperaModel", name := "listen", desc := "(I)V" } : Jvm.MethodName)) ∈ bGood := tg5 217 rfl rfl
theorem m1178 : (Jvm.Cond.code ({ cls := "LagoonOperaModel", name := "listen", desc := "(I)V" } : Jvm.MethodName) prog_12_method_54_code (6 : Nat) (Option.none : Option Jvm.ClassFile.FieldType)) ∈ bGood := tg5 218 rfl rfl
theorem m1179 : (Jvm.Cond.constant "LagoonOperaModel" (219 : Nat) (999999 : Int32)) ∈ bGood := tg5 219 rfl rfl
theorem m1180 : (Jvm.Cond.methodLink "LagoonOperaModel" (229 : Nat) ({ cls := "LagoonOperaModel", name := "moveAll", desc := "()V" } : Jvm.MethodName)) ∈ bGood := tg5 220 rfl rfl
theorem m1182 : (Jvm.Cond.instanceMethod ({ cls := "LagoonOperaModel", name := "moveAll", desc := "()V" } : Jvm.MethodName)) ∈ bGood := tg5 222 rfl rfl
theorem m1183 : (Jvm.Cond.code ({ cls := "LagoonOperaModel", name := "moveAll", desc := "()V" } : Jvm.MethodName) prog_12_method_55_code (2 : Nat) (Option.none : Option Jvm.ClassFile.FieldType)) ∈ bGood := tg5 223 rfl rfl
theorem m1184 : (Jvm.Cond.methodLink "LagoonOperaModel" (220 : Nat) ({ cls := "LagoonOperaModel", name := "movesTo", desc := "(I)I" } : Jvm.MethodName)) ∈ bGood := tg5 224 rfl rfl
theorem m1186 : (Jvm.Cond.instanceMethod ({ cls := "LagoonOperaModel", name := "movesTo", desc := "(I)I" } : Jvm.MethodName)) ∈ bGood := tg5 226 rfl rfl
theorem m1187 : (Jvm.Cond.code ({ cls := "LagoonOperaModel", name := "movesTo", desc := "(I)I" } : Jvm.MethodName) prog_12_method_53_code (8 : Nat) (Option.some Jvm.ClassFile.FieldType.int)) ∈ bGood := tg5 227 rfl rfl
theorem m1188 : (Jvm.Cond.methodLink "LagoonOperaModel" (216 : Nat) ({ cls := "LagoonOperaModel", name := "next", desc := "(II)I" } : Jvm.MethodName)) ∈ bGood := tg5 228 rfl rfl
theorem m1189 : (Jvm.Cond.static ({ cls := "LagoonOperaModel", name := "next", desc := "(II)I" } : Jvm.MethodName)) ∈ bGood := tg5 229 rfl rfl
theorem m1190 : (Jvm.Cond.code ({ cls := "LagoonOperaModel", name := "next", desc := "(II)I" } : Jvm.MethodName) prog_12_method_52_code (4 : Nat) (Option.some Jvm.ClassFile.FieldType.int)) ∈ bGood := tg5 230 rfl rfl
theorem m1191 : (Jvm.Cond.methodLink "LagoonOperaLaw" (83 : Nat) ({ cls := "LagoonOperaModel", name := "loose", desc := "(I)I" } : Jvm.MethodName)) ∈ bGood := tg5 231 rfl rfl
theorem m1192 : (Jvm.Cond.instanceMethod ({ cls := "LagoonOperaModel", name := "loose", desc := "(I)I" } : Jvm.MethodName)) ∈ bGood := tg5 232 rfl rfl
theorem m1193 : (Jvm.Cond.selects "LagoonOperaModel" ({ cls := "LagoonOperaModel", name := "loose", desc := "(I)I" } : Jvm.MethodName) ({ cls := "LagoonOperaModel", name := "loose", desc := "(I)I" } : Jvm.MethodName)) ∈ bGood := tg5 233 rfl rfl
theorem m1194 : (Jvm.Cond.code ({ cls := "LagoonOperaModel", name := "loose", desc := "(I)I" } : Jvm.MethodName) prog_12_method_59_code (2 : Nat) (Option.some Jvm.ClassFile.FieldType.int)) ∈ bGood := tg5 234 rfl rfl
theorem m1195 : (Jvm.Cond.methodLink "LagoonOperaLaw" (87 : Nat) ({ cls := "LagoonOperaModel", name := "then", desc := "(II)I" } : Jvm.MethodName)) ∈ bGood := tg5 235 rfl rfl
theorem m1196 : (Jvm.Cond.instanceMethod ({ cls := "LagoonOperaModel", name := "then", desc := "(II)I" } : Jvm.MethodName)) ∈ bGood := tg5 236 rfl rfl
theorem m1197 : (Jvm.Cond.selects "LagoonOperaModel" ({ cls := "LagoonOperaModel", name := "then", desc := "(II)I" } : Jvm.MethodName) ({ cls := "LagoonOperaModel", name := "then", desc := "(II)I" } : Jvm.MethodName)) ∈ bGood := tg5 237 rfl rfl
theorem m1198 : (Jvm.Cond.code ({ cls := "LagoonOperaModel", name := "then", desc := "(II)I" } : Jvm.MethodName) prog_12_method_61_code (3 : Nat) (Option.some Jvm.ClassFile.FieldType.int)) ∈ bGood := tg5 238 rfl rfl
theorem m1199 : (Jvm.Cond.methodLink "LagoonOperaModel" (241 : Nat) ({ cls := "LagoonOperaModel", name := "isAhead", desc := "(I)Z" } : Jvm.MethodName)) ∈ bGood := tg5 239 rfl rfl
theorem m1200 : (Jvm.Cond.static ({ cls := "LagoonOperaModel", name := "isAhead", desc := "(I)Z" } : Jvm.MethodName)) ∈ bGood := tg6 0 rfl rfl
theorem m1201 : (Jvm.Cond.code ({ cls := "LagoonOperaModel", name := "isAhead", desc := "(I)Z" } : Jvm.MethodName) prog_12_method_60_code (1 : Nat) (Option.some Jvm.ClassFile.FieldType.boolean)) ∈ bGood := tg6 1 rfl rfl
theorem m1202 : (Jvm.Cond.methodLink "LagoonOperaModel" (76 : Nat) ({ cls := "LagoonOperaModel", name := "copy", desc := "([I[I)V" } : Jvm.MethodName)) ∈ bGood := tg6 2 rfl rfl
theorem m1203 : (Jvm.Cond.static ({ cls := "LagoonOperaModel", name := "copy", desc := "([I[I)V" } : Jvm.MethodName)) ∈ bGood := tg6 3 rfl rfl
theorem m1204 : (Jvm.Cond.code ({ cls := "LagoonOperaModel", name := "copy", desc := "([I[I)V" } : Jvm.MethodName) prog_12_method_6_code (3 : Nat) (Option.none : Option Jvm.ClassFile.FieldType)) ∈ bGood := tg6 4 rfl rfl
theorem m1205 : (Jvm.Cond.methodLink "LagoonOperaModel" (244 : Nat) ({ cls := "LagoonOperaModel", name := "putBack", desc := "(I)I" } : Jvm.MethodName)) ∈ bGood := tg6 5 rfl rfl
theorem m1207 : (Jvm.Cond.instanceMethod ({ cls := "LagoonOperaModel", name := "putBack", desc := "(I)I" } : Jvm.MethodName)) ∈ bGood := tg6 7 rfl rfl
theorem m1208 : (Jvm.Cond.code ({ cls := "LagoonOperaModel", name := "putBack", desc := "(I)I" } : Jvm.MethodName) prog_12_method_8_code (2 : Nat) (Option.some Jvm.ClassFile.FieldType.int)) ∈ bGood := tg6 8 rfl rfl
theorem m1209 : (Jvm.Cond.methodLink "LagoonOperaLaw" (91 : Nat) ({ cls := "LagoonOperaModel", name := "thenListener", desc := "(III)I" } : Jvm.MethodName)) ∈ bGood := tg6 9 rfl rfl
theorem m1210 : (Jvm.Cond.instanceMethod ({ cls := "LagoonOperaModel", name := "thenListener", desc := "(III)I" } : Jvm.MethodName)) ∈ bGood := tg6 10 rfl rfl
theorem m1211 : (Jvm.Cond.selects "LagoonOperaModel" ({ cls := "LagoonOperaModel", name := "thenListener", desc := "(III)I" } : Jvm.MethodName) ({ cls := "LagoonOperaModel", name := "thenListener", desc := "(III)I" } : Jvm.MethodName)) ∈ bGood := tg6 11 rfl rfl
theorem m1212 : (Jvm.Cond.code ({ cls := "LagoonOperaModel", name := "thenListener", desc := "(III)I" } : Jvm.MethodName) prog_12_method_62_code (4 : Nat) (Option.some Jvm.ClassFile.FieldType.int)) ∈ bGood := tg6 12 rfl rfl
theorem m1213 : (Jvm.Cond.methodLink "LagoonOperaLaw" (95 : Nat) ({ cls := "LagoonOperaModel", name := "score", desc := "(II)I" } : Jvm.MethodName)) ∈ bGood := tg6 13 rfl rfl
theorem m1214 : (Jvm.Cond.instanceMethod ({ cls := "LagoonOperaModel", name := "score", desc := "(II)I" } : Jvm.MethodName)) ∈ bGood := tg6 14 rfl rfl
theorem m1215 : (Jvm.Cond.selects "LagoonOperaModel" ({ cls := "LagoonOperaModel", name := "score", desc := "(II)I" } : Jvm.MethodName) ({ cls := "LagoonOperaModel", name := "score", desc := "(II)I" } : Jvm.MethodName)) ∈ bGood := tg6 15 rfl rfl
theorem m1216 : (Jvm.Cond.code ({ cls := "LagoonOperaModel", name := "score", desc := "(II)I" } : Jvm.MethodName) prog_12_method_64_code (3 : Nat) (Option.some Jvm.ClassFile.FieldType.int)) ∈ bGood := tg6 16 rfl rfl
theorem m1217 : (Jvm.Cond.methodLink "LagoonOperaModel" (247 : Nat) ({ cls := "LagoonOperaModel", name := "scoreBy", desc := "(II)I" } : Jvm.MethodName)) ∈ bGood := tg6 17 rfl rfl
theorem m1219 : (Jvm.Cond.instanceMethod ({ cls := "LagoonOperaModel", name := "scoreBy", desc := "(II)I" } : Jvm.MethodName)) ∈ bGood := tg6 19 rfl rfl
theorem m1220 : (Jvm.Cond.code ({ cls := "LagoonOperaModel", name := "scoreBy", desc := "(II)I" } : Jvm.MethodName) prog_12_method_63_code (5 : Nat) (Option.some Jvm.ClassFile.FieldType.int)) ∈ bGood := tg6 20 rfl rfl
theorem m1221 : (Jvm.Cond.methodLink "LagoonOperaLaw" (99 : Nat) ({ cls := "LagoonOperaModel", name := "place", desc := "(I)I" } : Jvm.MethodName)) ∈ bGood := tg6 21 rfl rfl
theorem m1222 : (Jvm.Cond.instanceMethod ({ cls := "LagoonOperaModel", name := "place", desc := "(I)I" } : Jvm.MethodName)) ∈ bGood := tg6 22 rfl rfl
theorem m1223 : (Jvm.Cond.selects "LagoonOperaModel" ({ cls := "LagoonOperaModel", name := "place", desc := "(I)I" } : Jvm.MethodName) ({ cls := "LagoonOperaModel", name := "place", desc := "(I)I" } : Jvm.MethodName)) ∈ bGood := tg6 23 rfl rfl
theorem m1224 : (Jvm.Cond.code ({ cls := "LagoonOperaModel", name := "place", desc := "(I)I" } : Jvm.MethodName) prog_12_method_66_code (4 : Nat) (Option.some Jvm.ClassFile.FieldType.int)) ∈ bGood := tg6 24 rfl rfl
theorem m1225 : (Jvm.Cond.methodLink "LagoonOperaModel" (250 : Nat) ({ cls := "LagoonOperaModel", name := "findScores", desc := "(I)I" } : Jvm.MethodName)) ∈ bGood := tg6 25 rfl rfl
theorem m1227 : (Jvm.Cond.instanceMethod ({ cls := "LagoonOperaModel", name := "findScores", desc := "(I)I" } : Jvm.MethodName)) ∈ bGood := tg6 27 rfl rfl
theorem m1228 : (Jvm.Cond.code ({ cls := "LagoonOperaModel", name := "findScores", desc := "(I)I" } : Jvm.MethodName) prog_12_method_65_code (4 : Nat) (Option.some Jvm.ClassFile.FieldType.int)) ∈ bGood := tg6 28 rfl rfl
theorem m1229 : (Jvm.Cond.methodLink "LagoonOperaLaw" (104 : Nat) ({ cls := "LagoonOperaModel", name := "fromHere", desc := "(I)J" } : Jvm.MethodName)) ∈ bGood := tg6 29 rfl rfl
theorem m1230 : (Jvm.Cond.instanceMethod ({ cls := "LagoonOperaModel", name := "fromHere", desc := "(I)J" } : Jvm.MethodName)) ∈ bGood := tg6 30 rfl rfl
theorem m1231 : (Jvm.Cond.selects "LagoonOperaModel" ({ cls := "LagoonOperaModel", name := "fromHere", desc := "(I)J" } : Jvm.MethodName) ({ cls := "LagoonOperaModel", name := "fromHere", desc := "(I)J" } : Jvm.MethodName)) ∈ bGood := tg6 31 rfl rfl
theorem m1232 : (Jvm.Cond.code ({ cls := "LagoonOperaModel", name := "fromHere", desc := "(I)J" } : Jvm.MethodName) prog_12_method_67_code (6 : Nat) (Option.some Jvm.ClassFile.FieldType.long)) ∈ bGood := tg6 32 rfl rfl
theorem m1233 : (Jvm.Cond.methodLink "LagoonOperaLaw" (108 : Nat) ({ cls := "LagoonOperaModel", name := "mooring", desc := "(III)I" } : Jvm.MethodName)) ∈ bGood := tg6 33 rfl rfl
theorem m1234 : (Jvm.Cond.instanceMethod ({ cls := "LagoonOperaModel", name := "mooring", desc := "(III)I" } : Jvm.MethodName)) ∈ bGood := tg6 34 rfl rfl
theorem m1235 : (Jvm.Cond.selects "LagoonOperaModel" ({ cls := "LagoonOperaModel", name := "mooring", desc := "(III)I" } : Jvm.MethodName) ({ cls := "LagoonOperaModel", name := "mooring", desc := "(III)I" } : Jvm.MethodName)) ∈ bGood := tg6 35 rfl rfl
theorem m1236 : (Jvm.Cond.code ({ cls := "LagoonOperaModel", name := "mooring", desc := "(III)I" } : Jvm.MethodName) prog_12_method_68_code (8 : Nat) (Option.some Jvm.ClassFile.FieldType.int)) ∈ bGood := tg6 36 rfl rfl
theorem m1237 : (Jvm.Cond.methodLink "LagoonOperaLaw" (112 : Nat) ({ cls := "LagoonOperaModel", name := "sooner", desc := "(III)I" } : Jvm.MethodName)) ∈ bGood := tg6 37 rfl rfl
theorem m1238 : (Jvm.Cond.instanceMethod ({ cls := "LagoonOperaModel", name := "sooner", desc := "(III)I" } : Jvm.MethodName)) ∈ bGood := tg6 38 rfl rfl
theorem m1239 : (Jvm.Cond.selects "LagoonOperaModel" ({ cls := "LagoonOperaModel", name := "sooner", desc := "(III)I" } : Jvm.MethodName) ({ cls := "LagoonOperaModel", name := "sooner", desc := "(III)I" } : Jvm.MethodName)) ∈ bGood := tg6 39 rfl rfl
theorem m1240 : (Jvm.Cond.code ({ cls := "LagoonOperaModel", name := "sooner", desc := "(III)I" } : Jvm.MethodName) prog_12_method_69_code (9 : Nat) (Option.some Jvm.ClassFile.FieldType.int)) ∈ bGood := tg6 40 rfl rfl
theorem m1241 : (Jvm.Cond.methodLink "LagoonOperaLaw" (116 : Nat) ({ cls := "LagoonOperaModel", name := "fitSpeed", desc := "(II)I" } : Jvm.MethodName)) ∈ bGood := tg6 41 rfl rfl
theorem m1242 : (Jvm.Cond.instanceMethod ({ cls := "LagoonOperaModel", name := "fitSpeed", desc := "(II)I" } : Jvm.MethodName)) ∈ bGood := tg6 42 rfl rfl
theorem m1243 : (Jvm.Cond.selects "LagoonOperaModel" ({ cls := "LagoonOperaModel", name := "fitSpeed", desc := "(II)I" } : Jvm.MethodName) ({ cls := "LagoonOperaModel", name := "fitSpeed", desc := "(II)I" } : Jvm.MethodName)) ∈ bGood := tg6 43 rfl rfl
theorem m1244 : (Jvm.Cond.code ({ cls := "LagoonOperaModel", name := "fitSpeed", desc := "(II)I" } : Jvm.MethodName) prog_12_method_70_code (7 : Nat) (Option.some Jvm.ClassFile.FieldType.int)) ∈ bGood := tg6 44 rfl rfl
theorem m1245 : (Jvm.Cond.methodLink "LagoonOperaLaw" (120 : Nat) ({ cls := "LagoonOperaModel", name := "fromWhere", desc := "(II)I" } : Jvm.MethodName)) ∈ bGood := tg6 45 rfl rfl
theorem m1246 : (Jvm.Cond.instanceMethod ({ cls := "LagoonOperaModel", name := "fromWhere", desc := "(II)I" } : Jvm.MethodName)) ∈ bGood := tg6 46 rfl rfl
theorem m1247 : (Jvm.Cond.selects "LagoonOperaModel" ({ cls := "LagoonOperaModel", name := "fromWhere", desc := "(II)I" } : Jvm.MethodName) ({ cls := "LagoonOperaModel", name := "fromWhere", desc := "(II)I" } : Jvm.MethodName)) ∈ bGood := tg6 47 rfl rfl
theorem m1248 : (Jvm.Cond.code ({ cls := "LagoonOperaModel", name := "fromWhere", desc := "(II)I" } : Jvm.MethodName) prog_12_method_73_code (5 : Nat) (Option.some Jvm.ClassFile.FieldType.int)) ∈ bGood := tg6 48 rfl rfl
theorem m1249 : (Jvm.Cond.methodLink "LagoonOperaModel" (254 : Nat) ({ cls := "LagoonOperaModel", name := "areTold", desc := "(II)Z" } : Jvm.MethodName)) ∈ bGood := tg6 49 rfl rfl
theorem m1250 : (Jvm.Cond.static ({ cls := "LagoonOperaModel", name := "areTold", desc := "(II)Z" } : Jvm.MethodName)) ∈ bGood := tg6 50 rfl rfl
theorem m1251 : (Jvm.Cond.code ({ cls := "LagoonOperaModel", name := "areTold", desc := "(II)Z" } : Jvm.MethodName) prog_12_method_71_code (2 : Nat) (Option.some Jvm.ClassFile.FieldType.boolean)) ∈ bGood := tg6 51 rfl rfl
theorem m1252 : (Jvm.Cond.constant "LagoonOperaModel" (253 : Nat) (262143 : Int32)) ∈ bGood := tg6 52 rfl rfl
theorem m1253 : (Jvm.Cond.methodLink "LagoonOperaModel" (257 : Nat) ({ cls := "LagoonOperaModel", name := "mayBeFrom", desc := "(III)Z" } : Jvm.MethodName)) ∈ bGood := tg6 53 rfl rfl
theorem m1255 : (Jvm.Cond.instanceMethod ({ cls := "LagoonOperaModel", name := "mayBeFrom", desc := "(III)Z" } : Jvm.MethodName)) ∈ bGood := tg6 55 rfl rfl
theorem m1256 : (Jvm.Cond.code ({ cls := "LagoonOperaModel", name := "mayBeFrom", desc := "(III)Z" } : Jvm.MethodName) prog_12_method_72_code (4 : Nat) (Option.some Jvm.ClassFile.FieldType.boolean)) ∈ bGood := tg6 56 rfl rfl
theorem m1257 : (Jvm.Cond.methodLink "LagoonOperaLaw" (124 : Nat) ({ cls := "LagoonOperaModel", name := "whereFrom", desc := "(III)I" } : Jvm.MethodName)) ∈ bGood := tg6 57 rfl rfl
theorem m1258 : (Jvm.Cond.instanceMethod ({ cls := "LagoonOperaModel", name := "whereFrom", desc := "(III)I" } : Jvm.MethodName)) ∈ bGood := tg6 58 rfl rfl
theorem m1259 : (Jvm.Cond.selects "LagoonOperaModel" ({ cls := "LagoonOperaModel", name := "whereFrom", desc := "(III)I" } : Jvm.MethodName) ({ cls := "LagoonOperaModel", name := "whereFrom", desc := "(III)I" } : Jvm.MethodName)) ∈ bGood := tg6 59 rfl rfl
theorem m1260 : (Jvm.Cond.code ({ cls := "LagoonOperaModel", name := "whereFrom", desc := "(III)I" } : Jvm.MethodName) prog_12_method_74_code (6 : Nat) (Option.some Jvm.ClassFile.FieldType.int)) ∈ bGood := tg6 60 rfl rfl
theorem m1261 : (Jvm.Cond.constant "LagoonOperaModel" (260 : Nat) (-1000000002 : Int32)) ∈ bGood := tg6 61 rfl rfl
theorem m1262 : (Jvm.Cond.methodLink "LagoonOperaLaw" (128 : Nat) ({ cls := "LagoonOperaModel", name := "strokes", desc := "(II)I" } : Jvm.MethodName)) ∈ bGood := tg6 62 rfl rfl
theorem m1263 : (Jvm.Cond.instanceMethod ({ cls := "LagoonOperaModel", name := "strokes", desc := "(II)I" } : Jvm.MethodName)) ∈ bGood := tg6 63 rfl rfl
theorem m1264 : (Jvm.Cond.selects "LagoonOperaModel" ({ cls := "LagoonOperaModel", name := "strokes", desc := "(II)I" } : Jvm.MethodName) ({ cls := "LagoonOperaModel", name := "strokes", desc := "(II)I" } : Jvm.MethodName)) ∈ bGood := tg6 64 rfl rfl
theorem m1265 : (Jvm.Cond.code ({ cls := "LagoonOperaModel", name := "strokes", desc := "(II)I" } : Jvm.MethodName) prog_12_method_75_code (6 : Nat) (Option.some Jvm.ClassFile.FieldType.int)) ∈ bGood := tg6 65 rfl rfl
theorem m1266 : (Jvm.Cond.methodLink "LagoonOperaLaw" (132 : Nat) ({ cls := "LagoonOperaModel", name := "seed", desc := "(I)I" } : Jvm.MethodName)) ∈ bGood := tg6 66 rfl rfl
theorem m1267 : (Jvm.Cond.instanceMethod ({ cls := "LagoonOperaModel", name := "seed", desc := "(I)I" } : Jvm.MethodName)) ∈ bGood := tg6 67 rfl rfl
theorem m1268 : (Jvm.Cond.selects "LagoonOperaModel" ({ cls := "LagoonOperaModel", name := "seed", desc := "(I)I" } : Jvm.MethodName) ({ cls := "LagoonOperaModel", name := "seed", desc := "(I)I" } : Jvm.MethodName)) ∈ bGood := tg6 68 rfl rfl
theorem m1269 : (Jvm.Cond.code ({ cls := "LagoonOperaModel", name := "seed", desc := "(I)I" } : Jvm.MethodName) prog_12_method_76_code (2 : Nat) (Option.some Jvm.ClassFile.FieldType.int)) ∈ bGood := tg6 69 rfl rfl
theorem m1270 : (Jvm.Cond.methodLink "LagoonOperaLaw" (136 : Nat) ({ cls := "LagoonOperaModel", name := "voice", desc := "(III)I" } : Jvm.MethodName)) ∈ bGood := tg6 70 rfl rfl
theorem m1271 : (Jvm.Cond.instanceMethod ({ cls := "LagoonOperaModel", name := "voice", desc := "(III)I" } : Jvm.MethodName)) ∈ bGood := tg6 71 rfl rfl
theorem m1272 : (Jvm.Cond.selects "LagoonOperaModel" ({ cls := "LagoonOperaModel", name := "voice", desc := "(III)I" } : Jvm.MethodName) ({ cls := "LagoonOperaModel", name := "voice", desc := "(III)I" } : Jvm.MethodName)) ∈ bGood := tg6 72 rfl rfl
theorem m1273 : (Jvm.Cond.code ({ cls := "LagoonOperaModel", name := "voice", desc := "(III)I" } : Jvm.MethodName) prog_12_method_82_code (4 : Nat) (Option.some Jvm.ClassFile.FieldType.int)) ∈ bGood := tg6 73 rfl rfl
theorem m1274 : (Jvm.Cond.methodLink "LagoonOperaModel" (279 : Nat) ({ cls := "LagoonOperaModel", name := "voiced", desc := "(II)I" } : Jvm.MethodName)) ∈ bGood := tg6 74 rfl rfl
theorem m1276 : (Jvm.Cond.instanceMethod ({ cls := "LagoonOperaModel", name := "voiced", desc := "(II)I" } : Jvm.MethodName)) ∈ bGood := tg6 76 rfl rfl
theorem m1277 : (Jvm.Cond.code ({ cls := "LagoonOperaModel", name := "voiced", desc := "(II)I" } : Jvm.MethodName) prog_12_method_79_code (3 : Nat) (Option.some Jvm.ClassFile.FieldType.int)) ∈ bGood := tg6 77 rfl rfl
theorem m1278 : (Jvm.Cond.methodLink "LagoonOperaModel" (267 : Nat) ({ cls := "LagoonOperaModel", name := "bodyFrom", desc := "(III)I" } : Jvm.MethodName)) ∈ bGood := tg6 78 rfl rfl
theorem m1280 : (Jvm.Cond.instanceMethod ({ cls := "LagoonOperaModel", name := "bodyFrom", desc := "(III)I" } : Jvm.MethodName)) ∈ bGood := tg6 80 rfl rfl
theorem m1281 : (Jvm.Cond.code ({ cls := "LagoonOperaModel", name := "bodyFrom", desc := "(III)I" } : Jvm.MethodName) prog_12_method_80_code (5 : Nat) (Option.some Jvm.ClassFile.FieldType.int)) ∈ bGood := tg6 81 rfl rfl
theorem m1282 : (Jvm.Cond.methodLink "LagoonOperaModel" (270 : Nat) ({ cls := "LagoonOperaModel", name := "hasOwn", desc := "(II)Z" } : Jvm.MethodName)) ∈ bGood := tg6 82 rfl rfl
theorem m1283 : (Jvm.Cond.static ({ cls := "LagoonOperaModel", name := "hasOwn", desc := "(II)Z" } : Jvm.MethodName)) ∈ bGood := tg6 83 rfl rfl
theorem m1284 : (Jvm.Cond.code ({ cls := "LagoonOperaModel", name := "hasOwn", desc := "(II)Z" } : Jvm.MethodName) prog_12_method_78_code (2 : Nat) (Option.some Jvm.ClassFile.FieldType.boolean)) ∈ bGood := tg6 84 rfl rfl
theorem m1285 : (Jvm.Cond.methodLink "LagoonOperaModel" (273 : Nat) ({ cls := "LagoonOperaModel", name := "body", desc := "(III)I" } : Jvm.MethodName)) ∈ bGood := tg6 85 rfl rfl
theorem m1287 : (Jvm.Cond.instanceMethod ({ cls := "LagoonOperaModel", name := "body", desc := "(III)I" } : Jvm.MethodName)) ∈ bGood := tg6 87 rfl rfl
theorem m1288 : (Jvm.Cond.code ({ cls := "LagoonOperaModel", name := "body", desc := "(III)I" } : Jvm.MethodName) prog_12_method_81_code (7 : Nat) (Option.some Jvm.ClassFile.FieldType.int)) ∈ bGood := tg6 88 rfl rfl
theorem m1289 : (Jvm.Cond.methodLink "LagoonOperaModel" (276 : Nat) ({ cls := "LagoonOperaModel", name := "began", desc := "(I)V" } : Jvm.MethodName)) ∈ bGood := tg6 89 rfl rfl
theorem m1291 : (Jvm.Cond.instanceMethod ({ cls := "LagoonOperaModel", name := "began", desc := "(I)V" } : Jvm.MethodName)) ∈ bGood := tg6 91 rfl rfl
theorem m1292 : (Jvm.Cond.code ({ cls := "LagoonOperaModel", name := "began", desc := "(I)V" } : Jvm.MethodName) prog_12_method_77_code (2 : Nat) (Option.none : Option Jvm.ClassFile.FieldType)) ∈ bGood := tg6 92 rfl rfl
theorem m1293 : (Jvm.Cond.methodLink "LagoonOperaLaw" (140 : Nat) ({ cls := "LagoonOperaModel", name := "trace", desc := "(I)I" } : Jvm.MethodName)) ∈ bGood := tg6 93 rfl rfl
theorem m1294 : (Jvm.Cond.instanceMethod ({ cls := "LagoonOperaModel", name := "trace", desc := "(I)I" } : Jvm.MethodName)) ∈ bGood := tg6 94 rfl rfl
theorem m1295 : (Jvm.Cond.selects "LagoonOperaModel" ({ cls := "LagoonOperaModel", name := "trace", desc := "(I)I" } : Jvm.MethodName) ({ cls := "LagoonOperaModel", name := "trace", desc := "(I)I" } : Jvm.MethodName)) ∈ bGood := tg6 95 rfl rfl
theorem m1296 : (Jvm.Cond.code ({ cls := "LagoonOperaModel", name := "trace", desc := "(I)I" } : Jvm.MethodName) prog_12_method_83_code (2 : Nat) (Option.some Jvm.ClassFile.FieldType.int)) ∈ bGood := tg6 96 rfl rfl
theorem m1297 : (Jvm.Cond.methodLink "LagoonOperaLaw" (144 : Nat) ({ cls := "LagoonOperaModel", name := "sheet", desc := "(III)I" } : Jvm.MethodName)) ∈ bGood := tg6 97 rfl rfl
theorem m1298 : (Jvm.Cond.instanceMethod ({ cls := "LagoonOperaModel", name := "sheet", desc := "(III)I" } : Jvm.MethodName)) ∈ bGood := tg6 98 rfl rfl
theorem m1299 : (Jvm.Cond.selects "LagoonOperaModel" ({ cls := "LagoonOperaModel", name := "sheet", desc := "(III)I" } : Jvm.MethodName) ({ cls := "LagoonOperaModel", name := "sheet", desc := "(III)I" } : Jvm.MethodName)) ∈ bGood := tg6 99 rfl rfl
theorem m1300 : (Jvm.Cond.code ({ cls := "LagoonOperaModel", name := "sheet", desc := "(III)I" } : Jvm.MethodName) prog_12_method_85_code (5 : Nat) (Option.some Jvm.ClassFile.FieldType.int)) ∈ bGood := tg6 100 rfl rfl
theorem m1301 : (Jvm.Cond.methodLink "LagoonOperaModel" (282 : Nat) ({ cls := "LagoonOperaModel", name := "isSheet", desc := "(I)Z" } : Jvm.MethodName)) ∈ bGood := tg6 101 rfl rfl
theorem m1302 : (Jvm.Cond.static ({ cls := "LagoonOperaModel", name := "isSheet", desc := "(I)Z" } : Jvm.MethodName)) ∈ bGood := tg6 102 rfl rfl
theorem m1303 : (Jvm.Cond.code ({ cls := "LagoonOperaModel", name := "isSheet", desc := "(I)Z" } : Jvm.MethodName) prog_12_method_84_code (1 : Nat) (Option.some Jvm.ClassFile.FieldType.boolean)) ∈ bGood := tg6 103 rfl rfl
theorem m1304 : (Jvm.Cond.methodLink "LagoonOperaLaw" (148 : Nat) ({ cls := "LagoonOperaModel", name := "put", desc := "(III)I" } : Jvm.MethodName)) ∈ bGood := tg6 104 rfl rfl
theorem m1305 : (Jvm.Cond.instanceMethod ({ cls := "LagoonOperaModel", name := "put", desc := "(III)I" } : Jvm.MethodName)) ∈ bGood := tg6 105 rfl rfl
theorem m1306 : (Jvm.Cond.selects "LagoonOperaModel" ({ cls := "LagoonOperaModel", name := "put", desc := "(III)I" } : Jvm.MethodName) ({ cls := "LagoonOperaModel", name := "put", desc := "(III)I" } : Jvm.MethodName)) ∈ bGood := tg6 106 rfl rfl
theorem m1307 : (Jvm.Cond.code ({ cls := "LagoonOperaModel", name := "put", desc := "(III)I" } : Jvm.MethodName) prog_12_method_86_code (4 : Nat) (Option.some Jvm.ClassFile.FieldType.int)) ∈ bGood := tg6 107 rfl rfl
theorem m1308 : (Jvm.Cond.methodLink "LagoonOperaLaw" (153 : Nat) ({ cls := "LagoonOperaModel", name := "move", desc := "(IIIII)I" } : Jvm.MethodName)) ∈ bGood := tg6 108 rfl rfl
theorem m1309 : (Jvm.Cond.instanceMethod ({ cls := "LagoonOperaModel", name := "move", desc := "(IIIII)I" } : Jvm.MethodName)) ∈ bGood := tg6 109 rfl rfl
theorem m1310 : (Jvm.Cond.selects "LagoonOperaModel" ({ cls := "LagoonOperaModel", name := "move", desc := "(IIIII)I" } : Jvm.MethodName) ({ cls := "LagoonOperaModel", name := "move", desc := "(IIIII)I" } : Jvm.MethodName)) ∈ bGood := tg6 110 rfl rfl
theorem m1311 : (Jvm.Cond.code ({ cls := "LagoonOperaModel", name := "move", desc := "(IIIII)I" } : Jvm.MethodName) prog_12_method_87_code (7 : Nat) (Option.some Jvm.ClassFile.FieldType.int)) ∈ bGood := tg6 111 rfl rfl
theorem m1312 : (Jvm.Cond.methodLink "LagoonOperaLaw" (157 : Nat) ({ cls := "LagoonOperaModel", name := "part", desc := "(II)I" } : Jvm.MethodName)) ∈ bGood := tg6 112 rfl rfl
theorem m1313 : (Jvm.Cond.instanceMethod ({ cls := "LagoonOperaModel", name := "part", desc := "(II)I" } : Jvm.MethodName)) ∈ bGood := tg6 113 rfl rfl
theorem m1314 : (Jvm.Cond.selects "LagoonOperaModel" ({ cls := "LagoonOperaModel", name := "part", desc := "(II)I" } : Jvm.MethodName) ({ cls := "LagoonOperaModel", name := "part", desc := "(II)I" } : Jvm.MethodName)) ∈ bGood := tg6 114 rfl rfl
theorem m1315 : (Jvm.Cond.code ({ cls := "LagoonOperaModel", name := "part", desc := "(II)I" } : Jvm.MethodName) prog_12_method_89_code (6 : Nat) (Option.some Jvm.ClassFile.FieldType.int)) ∈ bGood := tg6 115 rfl rfl
theorem m1316 : (Jvm.Cond.methodLink "LagoonOperaModel" (285 : Nat) ({ cls := "LagoonOperaModel", name := "refuses", desc := "(II)I" } : Jvm.MethodName)) ∈ bGood := tg6 116 rfl rfl
theorem m1318 : (Jvm.Cond.instanceMethod ({ cls := "LagoonOperaModel", name := "refuses", desc := "(II)I" } : Jvm.MethodName)) ∈ bGood := tg6 118 rfl rfl
theorem m1319 : (Jvm.Cond.code ({ cls := "LagoonOperaModel", name := "refuses", desc := "(II)I" } : Jvm.MethodName) prog_12_method_88_code (3 : Nat) (Option.some Jvm.ClassFile.FieldType.int)) ∈ bGood := tg6 119 rfl rfl
theorem m1320 : (Jvm.Cond.methodLink "LagoonOperaLaw" (161 : Nat) ({ cls := "LagoonOperaModel", name := "judge", desc := "(II)I" } : Jvm.MethodName)) ∈ bGood := tg6 120 rfl rfl
theorem m1321 : (Jvm.Cond.instanceMethod ({ cls := "LagoonOperaModel", name := "judge", desc := "(II)I" } : Jvm.MethodName)) ∈ bGood := tg6 121 rfl rfl
theorem m1322 : (Jvm.Cond.selects "LagoonOperaModel" ({ cls := "LagoonOperaModel", name := "judge", desc := "(II)I" } : Jvm.MethodName) ({ cls := "LagoonOperaModel", name := "judge", desc := "(II)I" } : Jvm.MethodName)) ∈ bGood := tg6 122 rfl rfl
theorem m1323 : (Jvm.Cond.code ({ cls := "LagoonOperaModel", name := "judge", desc := "(II)I" } : Jvm.MethodName) prog_12_method_90_code (5 : Nat) (Option.some Jvm.ClassFile.FieldType.int)) ∈ bGood := tg6 123 rfl rfl
theorem m1324 : (Jvm.Cond.methodLink "LagoonOperaLaw" (166 : Nat) ({ cls := "LagoonOperaModel", name := "image", desc := "()I" } : Jvm.MethodName)) ∈ bGood := tg6 124 rfl rfl
theorem m1325 : (Jvm.Cond.instanceMethod ({ cls := "LagoonOperaModel", name := "image", desc := "()I" } : Jvm.MethodName)) ∈ bGood := tg6 125 rfl rfl
theorem m1326 : (Jvm.Cond.selects "LagoonOperaModel" ({ cls := "LagoonOperaModel", name := "image", desc := "()I" } : Jvm.MethodName) ({ cls := "LagoonOperaModel", name := "image", desc := "()I" } : Jvm.MethodName)) ∈ bGood := tg6 126 rfl rfl
theorem m1327 : (Jvm.Cond.code ({ cls := "LagoonOperaModel", name := "image", desc := "()I" } : Jvm.MethodName) prog_12_method_91_code (1 : Nat) (Option.some Jvm.ClassFile.FieldType.int)) ∈ bGood := tg6 127 rfl rfl
theorem m1328 : (Jvm.Cond.methodLink "LagoonOperaLaw" (170 : Nat) ({ cls := "LagoonOperaModel", name := "restore", desc := "()I" } : Jvm.MethodName)) ∈ bGood := tg6 128 rfl rfl
theorem m1329 : (Jvm.Cond.instanceMethod ({ cls := "LagoonOperaModel", name := "restore", desc := "()I" } : Jvm.MethodName)) ∈ bGood := tg6 129 rfl rfl
theorem m1330 : (Jvm.Cond.selects "LagoonOperaModel" ({ cls := "LagoonOperaModel", name := "restore", desc := "()I" } : Jvm.MethodName) ({ cls := "LagoonOperaModel", name := "restore", desc := "()I" } : Jvm.MethodName)) ∈ bGood := tg6 130 rfl rfl
theorem m1331 : (Jvm.Cond.code ({ cls := "LagoonOperaModel", name := "restore", desc := "()I" } : Jvm.MethodName) prog_12_method_92_code (1 : Nat) (Option.some Jvm.ClassFile.FieldType.int)) ∈ bGood := tg6 131 rfl rfl
theorem m1332 : (Jvm.Cond.methodLink "LagoonOperaLaw" (174 : Nat) ({ cls := "LagoonOperaModel", name := "tell", desc := "(I)I" } : Jvm.MethodName)) ∈ bGood := tg6 132 rfl rfl
theorem m1333 : (Jvm.Cond.instanceMethod ({ cls := "LagoonOperaModel", name := "tell", desc := "(I)I" } : Jvm.MethodName)) ∈ bGood := tg6 133 rfl rfl
theorem m1334 : (Jvm.Cond.selects "LagoonOperaModel" ({ cls := "LagoonOperaModel", name := "tell", desc := "(I)I" } : Jvm.MethodName) ({ cls := "LagoonOperaModel", name := "tell", desc := "(I)I" } : Jvm.MethodName)) ∈ bGood := tg6 134 rfl rfl
theorem m1335 : (Jvm.Cond.code ({ cls := "LagoonOperaModel", name := "tell", desc := "(I)I" } : Jvm.MethodName) prog_12_method_93_code (2 : Nat) (Option.some Jvm.ClassFile.FieldType.int)) ∈ bGood := tg6 135 rfl rfl
theorem m1336 : (Jvm.Cond.methodLink "LagoonOperaLaw" (178 : Nat) ({ cls := "LagoonOperaModel", name := "check", desc := "(I)I" } : Jvm.MethodName)) ∈ bGood := tg6 136 rfl rfl
theorem m1337 : (Jvm.Cond.instanceMethod ({ cls := "LagoonOperaModel", name := "check", desc := "(I)I" } : Jvm.MethodName)) ∈ bGood := tg6 137 rfl rfl
theorem m1338 : (Jvm.Cond.selects "LagoonOperaModel" ({ cls := "LagoonOperaModel", name := "check", desc := "(I)I" } : Jvm.MethodName) ({ cls := "LagoonOperaModel", name := "check", desc := "(I)I" } : Jvm.MethodName)) ∈ bGood := tg6 138 rfl rfl
theorem m1339 : (Jvm.Cond.code ({ cls := "LagoonOperaModel", name := "check", desc := "(I)I" } : Jvm.MethodName) prog_12_method_94_code (5 : Nat) (Option.some Jvm.ClassFile.FieldType.int)) ∈ bGood := tg6 139 rfl rfl
theorem m1340 : (Jvm.Cond.methodLink "LagoonOperaLaw" (182 : Nat) ({ cls := "LagoonOperaModel", name := "count", desc := "(I)I" } : Jvm.MethodName)) ∈ bGood := tg6 140 rfl rfl
theorem m1341 : (Jvm.Cond.instanceMethod ({ cls := "LagoonOperaModel", name := "count", desc := "(I)I" } : Jvm.MethodName)) ∈ bGood := tg6 141 rfl rfl
theorem m1342 : (Jvm.Cond.selects "LagoonOperaModel" ({ cls := "LagoonOperaModel", name := "count", desc := "(I)I" } : Jvm.MethodName) ({ cls := "LagoonOperaModel", name := "count", desc := "(I)I" } : Jvm.MethodName)) ∈ bGood := tg6 142 rfl rfl
theorem m1343 : (Jvm.Cond.code ({ cls := "LagoonOperaModel", name := "count", desc := "(I)I" } : Jvm.MethodName) prog_12_method_95_code (4 : Nat) (Option.some Jvm.ClassFile.FieldType.int)) ∈ bGood := tg6 143 rfl rfl
theorem m1344 : (Jvm.Cond.methodLink "LagoonOperaLaw" (186 : Nat) ({ cls := "LagoonOperaModel", name := "told", desc := "(I)I" } : Jvm.MethodName)) ∈ bGood := tg6 144 rfl rfl
theorem m1345 : (Jvm.Cond.instanceMethod ({ cls := "LagoonOperaModel", name := "told", desc := "(I)I" } : Jvm.MethodName)) ∈ bGood := tg6 145 rfl rfl
theorem m1346 : (Jvm.Cond.selects "LagoonOperaModel" ({ cls := "LagoonOperaModel", name := "told", desc := "(I)I" } : Jvm.MethodName) ({ cls := "LagoonOperaModel", name := "told", desc := "(I)I" } : Jvm.MethodName)) ∈ bGood := tg6 146 rfl rfl
theorem m1347 : (Jvm.Cond.code ({ cls := "LagoonOperaModel", name := "told", desc := "(I)I" } : Jvm.MethodName) prog_12_method_96_code (2 : Nat) (Option.some Jvm.ClassFile.FieldType.int)) ∈ bGood := tg6 147 rfl rfl
theorem m1348 : (Jvm.Cond.constantLong "LagoonOperaLaw" (60 : Nat) (4294967295 : Int64)) ∈ bGood := tg6 148 rfl rfl
theorem m1349 : (Jvm.Cond.fieldLink "java/lang/String" (9 : Nat) "java/lang/String" "value" "[B") ∈ bGood := tg6 149 rfl rfl
theorem m1350 : (Jvm.Cond.fieldLink "java/lang/String" (15 : Nat) "java/lang/String" "coder" "B") ∈ bGood := tg6 150 rfl rfl
theorem m1351 : (Jvm.Cond.arrayClass Jvm.ClassFile.FieldType.char) ∈ bGood := tg6 151 rfl rfl
theorem s0 : Cond.selects "LagoonOpera" (⟨"LagoonOpera", "refuse", "(I)I"⟩ : MethodName) (⟨"LagoonOpera", "refuse", "(I)I"⟩ : MethodName) ∈ bGood := List.mem_filter.mpr ⟨List.mem_of_getElem? (i := 0) (by decide +kernel), rfl⟩
theorem s1 : Cond.selects "LagoonOpera$Reader" (⟨"LagoonOpera$Reader", "readT", "(I)Z"⟩ : MethodName) (⟨"LagoonOpera$Reader", "readT", "(I)Z"⟩ : MethodName) ∈ bGood := List.mem_filter.mpr ⟨List.mem_of_getElem? (i := 1) (by decide +kernel), rfl⟩
theorem s2 : Cond.selects "LagoonOpera$Reader" (⟨"LagoonOpera$Reader", "readA", "(I)Z"⟩ : MethodName) (⟨"LagoonOpera$Reader", "readA", "(I)Z"⟩ : MethodName) ∈ bGood := List.mem_filter.mpr ⟨List.mem_of_getElem? (i := 2) (by decide +kernel), rfl⟩
theorem s3 : Cond.selects "LagoonOpera$Reader" (⟨"LagoonOpera$Reader", "readB", "(I)Z"⟩ : MethodName) (⟨"LagoonOpera$Reader", "readB", "(I)Z"⟩ : MethodName) ∈ bGood := List.mem_filter.mpr ⟨List.mem_of_getElem? (i := 3) (by decide +kernel), rfl⟩
theorem s4 : Cond.selects "LagoonOpera$Reader" (⟨"LagoonOpera$Reader", "readS", "(I)Z"⟩ : MethodName) (⟨"LagoonOpera$Reader", "readS", "(I)Z"⟩ : MethodName) ∈ bGood := List.mem_filter.mpr ⟨List.mem_of_getElem? (i := 4) (by decide +kernel), rfl⟩
theorem s5 : Cond.selects "LagoonOpera$Reader" (⟨"LagoonOpera$Reader", "readP", "(I)Z"⟩ : MethodName) (⟨"LagoonOpera$Reader", "readP", "(I)Z"⟩ : MethodName) ∈ bGood := List.mem_filter.mpr ⟨List.mem_of_getElem? (i := 5) (by decide +kernel), rfl⟩
theorem s6 : Cond.selects "LagoonOpera$Reader" (⟨"LagoonOpera$Reader", "readQ", "(I)Z"⟩ : MethodName) (⟨"LagoonOpera$Reader", "readQ", "(I)Z"⟩ : MethodName) ∈ bGood := List.mem_filter.mpr ⟨List.mem_of_getElem? (i := 6) (by decide +kernel), rfl⟩
theorem s7 : Cond.selects "LagoonOpera$Reader" (⟨"LagoonOpera$Reader", "sign", "()I"⟩ : MethodName) (⟨"LagoonOpera$Reader", "sign", "()I"⟩ : MethodName) ∈ bGood := List.mem_filter.mpr ⟨List.mem_of_getElem? (i := 7) (by decide +kernel), rfl⟩
theorem s8 : Cond.selects "LagoonOpera$Reader" (⟨"LagoonOpera$Reader", "readNumber", "()V"⟩ : MethodName) (⟨"LagoonOpera$Reader", "readNumber", "()V"⟩ : MethodName) ∈ bGood := List.mem_filter.mpr ⟨List.mem_of_getElem? (i := 8) (by decide +kernel), rfl⟩
theorem s9 : Cond.selects "LagoonOpera$Reader" (⟨"LagoonOpera$Reader", "readName", "()Z"⟩ : MethodName) (⟨"LagoonOpera$Reader", "readName", "()Z"⟩ : MethodName) ∈ bGood := List.mem_filter.mpr ⟨List.mem_of_getElem? (i := 9) (by decide +kernel), rfl⟩
theorem s10 : Cond.selects "LagoonOpera$Reader" (⟨"LagoonOpera$Reader", "takes", "(I)Z"⟩ : MethodName) (⟨"LagoonOpera$Reader", "takes", "(I)Z"⟩ : MethodName) ∈ bGood := List.mem_filter.mpr ⟨List.mem_of_getElem? (i := 10) (by decide +kernel), rfl⟩
theorem s11 : Cond.selects "LagoonOpera" (⟨"LagoonOpera", "goOn", "(IZ)I"⟩ : MethodName) (⟨"LagoonOpera", "goOn", "(IZ)I"⟩ : MethodName) ∈ bGood := List.mem_filter.mpr ⟨List.mem_of_getElem? (i := 11) (by decide +kernel), rfl⟩
theorem s12 : Cond.selects "LagoonOpera$Scene" (⟨"LagoonOpera$Scene", "leftByFog", "(I)I"⟩ : MethodName) (⟨"LagoonOpera$Scene", "leftByFog", "(I)I"⟩ : MethodName) ∈ bGood := List.mem_filter.mpr ⟨List.mem_of_getElem? (i := 12) (by decide +kernel), rfl⟩
theorem s13 : Cond.selects "LagoonOpera$Boats" (⟨"LagoonOpera$Boats", "pulled", "(IIII)I"⟩ : MethodName) (⟨"LagoonOpera$Boats", "pulled", "(IIII)I"⟩ : MethodName) ∈ bGood := List.mem_filter.mpr ⟨List.mem_of_getElem? (i := 13) (by decide +kernel), rfl⟩
theorem s14 : Cond.selects "LagoonOpera" (⟨"LagoonOpera", "watchAll", "(I)V"⟩ : MethodName) (⟨"LagoonOpera", "watchAll", "(I)V"⟩ : MethodName) ∈ bGood := List.mem_filter.mpr ⟨List.mem_of_getElem? (i := 14) (by decide +kernel), rfl⟩
theorem s15 : Cond.selects "LagoonOpera" (⟨"LagoonOpera", "scoreAll", "(I)V"⟩ : MethodName) (⟨"LagoonOpera", "scoreAll", "(I)V"⟩ : MethodName) ∈ bGood := List.mem_filter.mpr ⟨List.mem_of_getElem? (i := 15) (by decide +kernel), rfl⟩
theorem s16 : Cond.selects "LagoonOpera" (⟨"LagoonOpera", "origins", "(II)J"⟩ : MethodName) (⟨"LagoonOpera", "origins", "(II)J"⟩ : MethodName) ∈ bGood := List.mem_filter.mpr ⟨List.mem_of_getElem? (i := 16) (by decide +kernel), rfl⟩
theorem s17 : Cond.selects "LagoonOpera" (⟨"LagoonOpera", "isHeardBehind", "(III)Z"⟩ : MethodName) (⟨"LagoonOpera", "isHeardBehind", "(III)Z"⟩ : MethodName) ∈ bGood := List.mem_filter.mpr ⟨List.mem_of_getElem? (i := 17) (by decide +kernel), rfl⟩
theorem s18 : Cond.selects "LagoonOpera$Voices" (⟨"LagoonOpera$Voices", "own", "(III)I"⟩ : MethodName) (⟨"LagoonOpera$Voices", "own", "(III)I"⟩ : MethodName) ∈ bGood := List.mem_filter.mpr ⟨List.mem_of_getElem? (i := 18) (by decide +kernel), rfl⟩
theorem s19 : Cond.selects "LagoonOpera$Voices" (⟨"LagoonOpera$Voices", "from", "(IIII)I"⟩ : MethodName) (⟨"LagoonOpera$Voices", "from", "(IIII)I"⟩ : MethodName) ∈ bGood := List.mem_filter.mpr ⟨List.mem_of_getElem? (i := 19) (by decide +kernel), rfl⟩
theorem s20 : Cond.selects "LagoonOpera$Voices" (⟨"LagoonOpera$Voices", "begin", "(I)V"⟩ : MethodName) (⟨"LagoonOpera$Voices", "begin", "(I)V"⟩ : MethodName) ∈ bGood := List.mem_filter.mpr ⟨List.mem_of_getElem? (i := 20) (by decide +kernel), rfl⟩
theorem s21 : Cond.selects "LagoonOpera" (⟨"LagoonOpera", "sheetOf", "(I)LLagoonOpera$Sheet;"⟩ : MethodName) (⟨"LagoonOpera", "sheetOf", "(I)LLagoonOpera$Sheet;"⟩ : MethodName) ∈ bGood := List.mem_filter.mpr ⟨List.mem_of_getElem? (i := 21) (by decide +kernel), rfl⟩
theorem s22 : Cond.selects "LagoonOperaModel" (⟨"LagoonOperaModel", "putIn", "(II)I"⟩ : MethodName) (⟨"LagoonOperaModel", "putIn", "(II)I"⟩ : MethodName) ∈ bGood := List.mem_filter.mpr ⟨List.mem_of_getElem? (i := 22) (by decide +kernel), rfl⟩
theorem s23 : Cond.selects "LagoonOperaModel" (⟨"LagoonOperaModel", "finding", "(I)I"⟩ : MethodName) (⟨"LagoonOperaModel", "finding", "(I)I"⟩ : MethodName) ∈ bGood := List.mem_filter.mpr ⟨List.mem_of_getElem? (i := 23) (by decide +kernel), rfl⟩
theorem s24 : Cond.selects "LagoonOperaModel" (⟨"LagoonOperaModel", "is", "(II)Z"⟩ : MethodName) (⟨"LagoonOperaModel", "is", "(II)Z"⟩ : MethodName) ∈ bGood := List.mem_filter.mpr ⟨List.mem_of_getElem? (i := 24) (by decide +kernel), rfl⟩
theorem s25 : Cond.selects "LagoonOperaModel" (⟨"LagoonOperaModel", "sings", "(I)Z"⟩ : MethodName) (⟨"LagoonOperaModel", "sings", "(I)Z"⟩ : MethodName) ∈ bGood := List.mem_filter.mpr ⟨List.mem_of_getElem? (i := 25) (by decide +kernel), rfl⟩
theorem s26 : Cond.selects "LagoonOperaModel" (⟨"LagoonOperaModel", "boatIs", "(II)I"⟩ : MethodName) (⟨"LagoonOperaModel", "boatIs", "(II)I"⟩ : MethodName) ∈ bGood := List.mem_filter.mpr ⟨List.mem_of_getElem? (i := 26) (by decide +kernel), rfl⟩
theorem s27 : Cond.selects "LagoonOperaModel" (⟨"LagoonOperaModel", "beat", "()I"⟩ : MethodName) (⟨"LagoonOperaModel", "beat", "()I"⟩ : MethodName) ∈ bGood := List.mem_filter.mpr ⟨List.mem_of_getElem? (i := 27) (by decide +kernel), rfl⟩
theorem s28 : Cond.selects "LagoonOperaModel" (⟨"LagoonOperaModel", "comes", "(II)I"⟩ : MethodName) (⟨"LagoonOperaModel", "comes", "(II)I"⟩ : MethodName) ∈ bGood := List.mem_filter.mpr ⟨List.mem_of_getElem? (i := 28) (by decide +kernel), rfl⟩
theorem s29 : Cond.selects "LagoonOperaModel" (⟨"LagoonOperaModel", "lags", "(II)I"⟩ : MethodName) (⟨"LagoonOperaModel", "lags", "(II)I"⟩ : MethodName) ∈ bGood := List.mem_filter.mpr ⟨List.mem_of_getElem? (i := 29) (by decide +kernel), rfl⟩
theorem s30 : Cond.selects "LagoonOperaModel" (⟨"LagoonOperaModel", "given", "(IIII)I"⟩ : MethodName) (⟨"LagoonOperaModel", "given", "(IIII)I"⟩ : MethodName) ∈ bGood := List.mem_filter.mpr ⟨List.mem_of_getElem? (i := 30) (by decide +kernel), rfl⟩
theorem s31 : Cond.selects "LagoonOperaModel" (⟨"LagoonOperaModel", "hasText", "(I)Z"⟩ : MethodName) (⟨"LagoonOperaModel", "hasText", "(I)Z"⟩ : MethodName) ∈ bGood := List.mem_filter.mpr ⟨List.mem_of_getElem? (i := 31) (by decide +kernel), rfl⟩
theorem s32 : Cond.selects "LagoonOperaModel" (⟨"LagoonOperaModel", "worked", "(I)I"⟩ : MethodName) (⟨"LagoonOperaModel", "worked", "(I)I"⟩ : MethodName) ∈ bGood := List.mem_filter.mpr ⟨List.mem_of_getElem? (i := 32) (by decide +kernel), rfl⟩
theorem s33 : Cond.selects "LagoonOperaModel" (⟨"LagoonOperaModel", "ofOne", "(II)I"⟩ : MethodName) (⟨"LagoonOperaModel", "ofOne", "(II)I"⟩ : MethodName) ∈ bGood := List.mem_filter.mpr ⟨List.mem_of_getElem? (i := 33) (by decide +kernel), rfl⟩
theorem s34 : Cond.selects "LagoonOperaModel" (⟨"LagoonOperaModel", "listenerIs", "(II)I"⟩ : MethodName) (⟨"LagoonOperaModel", "listenerIs", "(II)I"⟩ : MethodName) ∈ bGood := List.mem_filter.mpr ⟨List.mem_of_getElem? (i := 34) (by decide +kernel), rfl⟩
theorem s35 : Cond.selects "LagoonOperaModel" (⟨"LagoonOperaModel", "singers", "()I"⟩ : MethodName) (⟨"LagoonOperaModel", "singers", "()I"⟩ : MethodName) ∈ bGood := List.mem_filter.mpr ⟨List.mem_of_getElem? (i := 35) (by decide +kernel), rfl⟩
theorem s36 : Cond.selects "LagoonOperaModel" (⟨"LagoonOperaModel", "isTogether", "(II)Z"⟩ : MethodName) (⟨"LagoonOperaModel", "isTogether", "(II)Z"⟩ : MethodName) ∈ bGood := List.mem_filter.mpr ⟨List.mem_of_getElem? (i := 36) (by decide +kernel), rfl⟩
theorem s37 : Cond.selects "LagoonOperaModel" (⟨"LagoonOperaModel", "either", "()V"⟩ : MethodName) (⟨"LagoonOperaModel", "either", "()V"⟩ : MethodName) ∈ bGood := List.mem_filter.mpr ⟨List.mem_of_getElem? (i := 37) (by decide +kernel), rfl⟩
theorem s38 : Cond.selects "LagoonOperaModel" (⟨"LagoonOperaModel", "both", "()V"⟩ : MethodName) (⟨"LagoonOperaModel", "both", "()V"⟩ : MethodName) ∈ bGood := List.mem_filter.mpr ⟨List.mem_of_getElem? (i := 38) (by decide +kernel), rfl⟩
theorem s39 : Cond.selects "LagoonOperaModel" (⟨"LagoonOperaModel", "compared", "()V"⟩ : MethodName) (⟨"LagoonOperaModel", "compared", "()V"⟩ : MethodName) ∈ bGood := List.mem_filter.mpr ⟨List.mem_of_getElem? (i := 39) (by decide +kernel), rfl⟩
theorem s40 : Cond.selects "LagoonOperaModel" (⟨"LagoonOperaModel", "sum", "()V"⟩ : MethodName) (⟨"LagoonOperaModel", "sum", "()V"⟩ : MethodName) ∈ bGood := List.mem_filter.mpr ⟨List.mem_of_getElem? (i := 40) (by decide +kernel), rfl⟩
theorem s41 : Cond.selects "LagoonOperaModel" (⟨"LagoonOperaModel", "product", "()V"⟩ : MethodName) (⟨"LagoonOperaModel", "product", "()V"⟩ : MethodName) ∈ bGood := List.mem_filter.mpr ⟨List.mem_of_getElem? (i := 41) (by decide +kernel), rfl⟩
theorem s42 : Cond.selects "LagoonOperaModel" (⟨"LagoonOperaModel", "one", "()V"⟩ : MethodName) (⟨"LagoonOperaModel", "one", "()V"⟩ : MethodName) ∈ bGood := List.mem_filter.mpr ⟨List.mem_of_getElem? (i := 42) (by decide +kernel), rfl⟩
theorem s43 : Cond.selects "LagoonOperaModel" (⟨"LagoonOperaModel", "here", "()I"⟩ : MethodName) (⟨"LagoonOperaModel", "here", "()I"⟩ : MethodName) ∈ bGood := List.mem_filter.mpr ⟨List.mem_of_getElem? (i := 43) (by decide +kernel), rfl⟩
theorem s44 : Cond.selects "LagoonOperaModel" (⟨"LagoonOperaModel", "codes", "(I)V"⟩ : MethodName) (⟨"LagoonOperaModel", "codes", "(I)V"⟩ : MethodName) ∈ bGood := List.mem_filter.mpr ⟨List.mem_of_getElem? (i := 44) (by decide +kernel), rfl⟩
theorem s45 : Cond.selects "LagoonOperaModel" (⟨"LagoonOperaModel", "takes", "(I)Z"⟩ : MethodName) (⟨"LagoonOperaModel", "takes", "(I)Z"⟩ : MethodName) ∈ bGood := List.mem_filter.mpr ⟨List.mem_of_getElem? (i := 45) (by decide +kernel), rfl⟩
theorem s46 : Cond.selects "LagoonOperaModel" (⟨"LagoonOperaModel", "nameOf", "(I)I"⟩ : MethodName) (⟨"LagoonOperaModel", "nameOf", "(I)I"⟩ : MethodName) ∈ bGood := List.mem_filter.mpr ⟨List.mem_of_getElem? (i := 46) (by decide +kernel), rfl⟩
theorem s47 : Cond.selects "LagoonOperaModel" (⟨"LagoonOperaModel", "forgetLags", "()V"⟩ : MethodName) (⟨"LagoonOperaModel", "forgetLags", "()V"⟩ : MethodName) ∈ bGood := List.mem_filter.mpr ⟨List.mem_of_getElem? (i := 47) (by decide +kernel), rfl⟩
theorem s48 : Cond.selects "LagoonOperaModel" (⟨"LagoonOperaModel", "go", "(IZ)I"⟩ : MethodName) (⟨"LagoonOperaModel", "go", "(IZ)I"⟩ : MethodName) ∈ bGood := List.mem_filter.mpr ⟨List.mem_of_getElem? (i := 48) (by decide +kernel), rfl⟩
theorem s49 : Cond.selects "LagoonOperaModel" (⟨"LagoonOperaModel", "beatsGo", "(IZ)V"⟩ : MethodName) (⟨"LagoonOperaModel", "beatsGo", "(IZ)V"⟩ : MethodName) ∈ bGood := List.mem_filter.mpr ⟨List.mem_of_getElem? (i := 49) (by decide +kernel), rfl⟩
theorem s50 : Cond.selects "LagoonOperaModel" (⟨"LagoonOperaModel", "drawn", "(I)I"⟩ : MethodName) (⟨"LagoonOperaModel", "drawn", "(I)I"⟩ : MethodName) ∈ bGood := List.mem_filter.mpr ⟨List.mem_of_getElem? (i := 50) (by decide +kernel), rfl⟩
theorem s51 : Cond.selects "LagoonOperaModel" (⟨"LagoonOperaModel", "listen", "(I)V"⟩ : MethodName) (⟨"LagoonOperaModel", "listen", "(I)V"⟩ : MethodName) ∈ bGood := List.mem_filter.mpr ⟨List.mem_of_getElem? (i := 51) (by decide +kernel), rfl⟩
theorem s52 : Cond.selects "LagoonOperaModel" (⟨"LagoonOperaModel", "moveAll", "()V"⟩ : MethodName) (⟨"LagoonOperaModel", "moveAll", "()V"⟩ : MethodName) ∈ bGood := List.mem_filter.mpr ⟨List.mem_of_getElem? (i := 52) (by decide +kernel), rfl⟩
theorem s53 : Cond.selects "LagoonOperaModel" (⟨"LagoonOperaModel", "movesTo", "(I)I"⟩ : MethodName) (⟨"LagoonOperaModel", "movesTo", "(I)I"⟩ : MethodName) ∈ bGood := List.mem_filter.mpr ⟨List.mem_of_getElem? (i := 53) (by decide +kernel), rfl⟩
theorem s54 : Cond.selects "LagoonOperaModel" (⟨"LagoonOperaModel", "putBack", "(I)I"⟩ : MethodName) (⟨"LagoonOperaModel", "putBack", "(I)I"⟩ : MethodName) ∈ bGood := List.mem_filter.mpr ⟨List.mem_of_getElem? (i := 54) (by decide +kernel), rfl⟩
theorem s55 : Cond.selects "LagoonOperaModel" (⟨"LagoonOperaModel", "scoreBy", "(II)I"⟩ : MethodName) (⟨"LagoonOperaModel", "scoreBy", "(II)I"⟩ : MethodName) ∈ bGood := List.mem_filter.mpr ⟨List.mem_of_getElem? (i := 55) (by decide +kernel), rfl⟩
theorem s56 : Cond.selects "LagoonOperaModel" (⟨"LagoonOperaModel", "findScores", "(I)I"⟩ : MethodName) (⟨"LagoonOperaModel", "findScores", "(I)I"⟩ : MethodName) ∈ bGood := List.mem_filter.mpr ⟨List.mem_of_getElem? (i := 56) (by decide +kernel), rfl⟩
theorem s57 : Cond.selects "LagoonOperaModel" (⟨"LagoonOperaModel", "mayBeFrom", "(III)Z"⟩ : MethodName) (⟨"LagoonOperaModel", "mayBeFrom", "(III)Z"⟩ : MethodName) ∈ bGood := List.mem_filter.mpr ⟨List.mem_of_getElem? (i := 57) (by decide +kernel), rfl⟩
theorem s58 : Cond.selects "LagoonOperaModel" (⟨"LagoonOperaModel", "voiced", "(II)I"⟩ : MethodName) (⟨"LagoonOperaModel", "voiced", "(II)I"⟩ : MethodName) ∈ bGood := List.mem_filter.mpr ⟨List.mem_of_getElem? (i := 58) (by decide +kernel), rfl⟩
theorem s59 : Cond.selects "LagoonOperaModel" (⟨"LagoonOperaModel", "bodyFrom", "(III)I"⟩ : MethodName) (⟨"LagoonOperaModel", "bodyFrom", "(III)I"⟩ : MethodName) ∈ bGood := List.mem_filter.mpr ⟨List.mem_of_getElem? (i := 59) (by decide +kernel), rfl⟩
theorem s60 : Cond.selects "LagoonOperaModel" (⟨"LagoonOperaModel", "body", "(III)I"⟩ : MethodName) (⟨"LagoonOperaModel", "body", "(III)I"⟩ : MethodName) ∈ bGood := List.mem_filter.mpr ⟨List.mem_of_getElem? (i := 60) (by decide +kernel), rfl⟩
theorem s61 : Cond.selects "LagoonOperaModel" (⟨"LagoonOperaModel", "began", "(I)V"⟩ : MethodName) (⟨"LagoonOperaModel", "began", "(I)V"⟩ : MethodName) ∈ bGood := List.mem_filter.mpr ⟨List.mem_of_getElem? (i := 61) (by decide +kernel), rfl⟩
theorem s62 : Cond.selects "LagoonOperaModel" (⟨"LagoonOperaModel", "refuses", "(II)I"⟩ : MethodName) (⟨"LagoonOperaModel", "refuses", "(II)I"⟩ : MethodName) ∈ bGood := List.mem_filter.mpr ⟨List.mem_of_getElem? (i := 62) (by decide +kernel), rfl⟩
theorem inG0 : ∀ q ∈ u_ws RX0 TX0 5, q ∈ bGood := by decide +kernel
theorem cls0 : b_cls 0 RX0 TX0 5 tyX0 := ⟨inG0, rfl, tyX0_ok, nmX0⟩
theorem inG1 : ∀ q ∈ u_ws RX1 TX1 4, q ∈ bGood := by decide +kernel
theorem cls1 : b_cls 1 RX1 TX1 4 tyX1 := ⟨inG1, rfl, tyX1_ok, nmX1⟩
theorem inG2 : ∀ q ∈ u_ws RX2 TX2 3, q ∈ bGood := by decide +kernel
theorem cls2 : b_cls 2 RX2 TX2 3 tyX2 := ⟨inG2, rfl, tyX2_ok, nmX2⟩
theorem inG3 : ∀ q ∈ u_ws RX3 TX3 5, q ∈ bGood := by decide +kernel
theorem cls3 : b_cls 3 RX3 TX3 5 tyX3 := ⟨inG3, rfl, tyX3_ok, nmX3⟩
theorem inG4 : ∀ q ∈ u_ws RX4 TX4 5, q ∈ bGood := by decide +kernel
theorem cls4 : b_cls 4 RX4 TX4 5 tyX4 := ⟨inG4, rfl, tyX4_ok, nmX4⟩
theorem inG5 : ∀ q ∈ u_ws RX5 TX5 5, q ∈ bGood := by decide +kernel
theorem cls5 : b_cls 5 RX5 TX5 5 tyX5 := ⟨inG5, rfl, tyX5_ok, nmX5⟩
theorem inG6 : ∀ q ∈ u_ws RX6 TX6 8, q ∈ bGood := by decide +kernel
theorem cls6 : b_cls 6 RX6 TX6 8 tyX6 := ⟨inG6, rfl, tyX6_ok, nmX6⟩
theorem inG7 : ∀ q ∈ u_ws RX7 TX7 3, q ∈ bGood := by decide +kernel
theorem cls7 : b_cls 7 RX7 TX7 3 tyX7 := ⟨inG7, rfl, tyX7_ok, nmX7⟩
theorem inG8 : ∀ q ∈ u_ws RX8 TX8 5, q ∈ bGood := by decide +kernel
theorem cls8 : b_cls 8 RX8 TX8 5 tyX8 := ⟨inG8, rfl, tyX8_ok, nmX8⟩
theorem inG9 : ∀ q ∈ u_ws RX9 TX9 14, q ∈ bGood := by decide +kernel
theorem cls9 : b_cls 9 RX9 TX9 14 tyX9 := ⟨inG9, rfl, tyX9_ok, nmX9⟩
theorem inG10 : ∀ q ∈ u_ws RX10 TX10 23, q ∈ bGood := by decide +kernel
theorem cls10 : b_cls 10 RX10 TX10 23 tyX10 := ⟨inG10, rfl, tyX10_ok, nmX10⟩
theorem cal_X0_init : b_Cal yX0_init cX0_init 1 none 0 := ⟨m85, m6, by decide +kernel⟩
theorem cal_X0_copy : b_Cal yX0_copy cX0_copy 2 none 1 := ⟨m603, m6, by decide +kernel⟩
theorem calV_X0_copy : b_CalV yX0_copy := ⟨m601, m602⟩
theorem cal_X0_hold : b_Cal yX0_hold cX0_hold 2 (some .boolean) 1 := ⟨m345, m6, by decide +kernel⟩
theorem calV_X0_hold : b_CalV yX0_hold := ⟨m343, m344⟩
theorem cal_X0_launch : b_Cal yX0_launch cX0_launch 4 (some .int) 2 := ⟨m337, m6, by decide +kernel⟩
theorem calV_X0_launch : b_CalV yX0_launch := ⟨m335, m336⟩
theorem cal_X0_sings : b_Cal yX0_sings cX0_sings 3 (some .boolean) 2 := ⟨m353, m6, by decide +kernel⟩
theorem calV_X0_sings : b_CalV yX0_sings := ⟨m351, m352⟩
theorem cal_X0_singers : b_Cal yX0_singers cX0_singers 4 (some .int) 1 := ⟨m443, m6, by decide +kernel⟩
theorem calV_X0_singers : b_CalV yX0_singers := ⟨m441, m442⟩
theorem cal_X0_later : b_Cal yX0_later cX0_later 2 (some .int) 1 := ⟨m417, m6, by decide +kernel⟩
theorem calV_X0_later : b_CalV yX0_later := ⟨m415, m416⟩
theorem cal_X0_behind : b_Cal yX0_behind cX0_behind 5 (some .int) 4 := ⟨m574, m6, by decide +kernel⟩
theorem calV_X0_behind : b_CalV yX0_behind := ⟨m572, m573⟩
theorem cal_X0_rocked : b_Cal yX0_rocked cX0_rocked 3 (some .int) 3 := ⟨m577, m6, by decide +kernel⟩
theorem cal_X0_pulled : b_Cal yX0_pulled cX0_pulled 6 (some .int) 4 := ⟨m584, m6, by decide +kernel⟩
theorem calV_X0_pulled : b_CalV yX0_pulled := ⟨m583, s13⟩
theorem cal_X0_together : b_Cal yX0_together cX0_together 10 (some .boolean) 6 := ⟨m448, m6, by decide +kernel⟩
theorem calV_X0_together : b_CalV yX0_together := ⟨m446, m447⟩
theorem cal_X1_init : b_Cal yX1_init cX1_init 1 none 0 := ⟨m149, m7, by decide +kernel⟩
theorem cal_X1_copy : b_Cal yX1_copy cX1_copy 2 none 1 := ⟨m808, m7, by decide +kernel⟩
theorem calV_X1_copy : b_CalV yX1_copy := ⟨m806, m807⟩
theorem cal_X1_take : b_Cal yX1_take cX1_take 5 none 2 := ⟨m469, m7, by decide +kernel⟩
theorem calV_X1_take : b_CalV yX1_take := ⟨m467, m468⟩
theorem cal_X1_add : b_Cal yX1_add cX1_add 2 (some .int) 1 := ⟨m821, m7, by decide +kernel⟩
theorem calV_X1_add : b_CalV yX1_add := ⟨m819, m820⟩
theorem cal_X2_init : b_Cal yX2_init cX2_init 1 none 0 := ⟨m39, m3, by decide +kernel⟩
theorem cal_X2_isThere : b_Cal yX2_isThere cX2_isThere 1 (some .boolean) 0 := ⟨m399, m3, by decide +kernel⟩
theorem calV_X2_isThere : b_CalV yX2_isThere := ⟨m397, m398⟩
theorem cal_X2_copy : b_Cal yX2_copy cX2_copy 2 none 1 := ⟨m539, m3, by decide +kernel⟩
theorem calV_X2_copy : b_CalV yX2_copy := ⟨m537, m538⟩
theorem cal_X2_add : b_Cal yX2_add cX2_add 2 none 1 := ⟨m521, m3, by decide +kernel⟩
theorem calV_X2_add : b_CalV yX2_add := ⟨m519, m520⟩
theorem cal_X2_worth : b_Cal yX2_worth cX2_worth 7 (some .int) 3 := ⟨m403, m3, by decide +kernel⟩
theorem calV_X2_worth : b_CalV yX2_worth := ⟨m401, m402⟩
theorem cal_X2_joined : b_Cal yX2_joined cX2_joined 3 (some .int) 3 := ⟨m406, m3, by decide +kernel⟩
theorem cal_X3_init : b_Cal yX3_init cX3_init 1 none 0 := ⟨m33, m2, by decide +kernel⟩
theorem cal_X3_copy : b_Cal yX3_copy cX3_copy 2 none 1 := ⟨m803, m2, by decide +kernel⟩
theorem calV_X3_copy : b_CalV yX3_copy := ⟨m801, m802⟩
theorem cal_X3_adopt : b_Cal yX3_adopt cX3_adopt 3 none 2 := ⟨m535, m2, by decide +kernel⟩
theorem calV_X3_adopt : b_CalV yX3_adopt := ⟨m533, m534⟩
theorem cal_X3_tideIn : b_Cal yX3_tideIn cX3_tideIn 2 (some .int) 1 := ⟨m570, m2, by decide +kernel⟩
theorem calV_X3_tideIn : b_CalV yX3_tideIn := ⟨m568, m569⟩
theorem cal_X3_lagBy : b_Cal yX3_lagBy cX3_lagBy 5 (some .int) 3 := ⟨m391, m2, by decide +kernel⟩
theorem calV_X3_lagBy : b_CalV yX3_lagBy := ⟨m389, m390⟩
theorem cal_X3_gives : b_Cal yX3_gives cX3_gives 7 (some .int) 4 := ⟨m395, m2, by decide +kernel⟩
theorem calV_X3_gives : b_CalV yX3_gives := ⟨m393, m394⟩
theorem cal_X3_withoutText : b_Cal yX3_withoutText cX3_withoutText 3 (some .int) 3 := ⟨m409, m2, by decide +kernel⟩
theorem cal_X4_init : b_Cal yX4_init cX4_init 1 none 0 := ⟨m242, m11, by decide +kernel⟩
theorem cal_X4_watch : b_Cal yX4_watch cX4_watch 3 none 2 := ⟨m599, m11, by decide +kernel⟩
theorem calV_X4_watch : b_CalV yX4_watch := ⟨m597, m598⟩
theorem cal_X4_sail : b_Cal yX4_sail cX4_sail 7 none 2 := ⟨m611, m11, by decide +kernel⟩
theorem calV_X4_sail : b_CalV yX4_sail := ⟨m609, m610⟩
theorem cal_X4_cellBehind : b_Cal yX4_cellBehind cX4_cellBehind 3 (some .int) 2 := ⟨m619, m11, by decide +kernel⟩
theorem calV_X4_cellBehind : b_CalV yX4_cellBehind := ⟨m617, m618⟩
theorem cal_X4_inTime : b_Cal yX4_inTime cX4_inTime 6 (some .int) 3 := ⟨m641, m11, by decide +kernel⟩
theorem calV_X4_inTime : b_CalV yX4_inTime := ⟨m639, m640⟩
theorem cal_X5_init : b_Cal yX5_init cX5_init 1 none 0 := ⟨m216, m10, by decide +kernel⟩
theorem cal_X5_reads : b_Cal yX5_reads cX5_reads 4 (some .boolean) 3 := ⟨m477, m10, by decide +kernel⟩
theorem calV_X5_reads : b_CalV yX5_reads := ⟨m475, m476⟩
theorem cal_X5_sign : b_Cal yX5_sign cX5_sign 1 (some .int) 0 := ⟨m510, m10, by decide +kernel⟩
theorem calV_X5_sign : b_CalV yX5_sign := ⟨m509, s7⟩
theorem cal_X5_takes : b_Cal yX5_takes cX5_takes 2 (some .boolean) 1 := ⟨m531, m10, by decide +kernel⟩
theorem calV_X5_takes : b_CalV yX5_takes := ⟨m530, s10⟩
theorem cal_X5_readT : b_Cal yX5_readT cX5_readT 3 (some .boolean) 1 := ⟨m486, m10, by decide +kernel⟩
theorem calV_X5_readT : b_CalV yX5_readT := ⟨m485, s1⟩
theorem cal_X5_readA : b_Cal yX5_readA cX5_readA 3 (some .boolean) 1 := ⟨m490, m10, by decide +kernel⟩
theorem calV_X5_readA : b_CalV yX5_readA := ⟨m489, s2⟩
theorem cal_X5_readB : b_Cal yX5_readB cX5_readB 3 (some .boolean) 1 := ⟨m494, m10, by decide +kernel⟩
theorem calV_X5_readB : b_CalV yX5_readB := ⟨m493, s3⟩
theorem cal_X5_readS : b_Cal yX5_readS cX5_readS 4 (some .boolean) 1 := ⟨m498, m10, by decide +kernel⟩
theorem calV_X5_readS : b_CalV yX5_readS := ⟨m497, s4⟩
theorem cal_X5_readP : b_Cal yX5_readP cX5_readP 4 (some .boolean) 1 := ⟨m502, m10, by decide +kernel⟩
theorem calV_X5_readP : b_CalV yX5_readP := ⟨m501, s5⟩
theorem cal_X5_readQ : b_Cal yX5_readQ cX5_readQ 2 (some .boolean) 1 := ⟨m506, m10, by decide +kernel⟩
theorem calV_X5_readQ : b_CalV yX5_readQ := ⟨m505, s6⟩
theorem cal_X5_readNumber : b_Cal yX5_readNumber cX5_readNumber 3 none 0 := ⟨m517, m10, by decide +kernel⟩
theorem calV_X5_readNumber : b_CalV yX5_readNumber := ⟨m516, s8⟩
theorem cal_X5_readName : b_Cal yX5_readName cX5_readName 3 (some .boolean) 0 := ⟨m525, m10, by decide +kernel⟩
theorem calV_X5_readName : b_CalV yX5_readName := ⟨m524, s9⟩
theorem cal_X5_isDigit : b_Cal yX5_isDigit cX5_isDigit 1 (some .boolean) 1 := ⟨m513, m10, by decide +kernel⟩
theorem cal_X6_init : b_Cal yX6_init cX6_init 1 none 0 := ⟨m79, m5, by decide +kernel⟩
theorem cal_X6_copy : b_Cal yX6_copy cX6_copy 2 none 1 := ⟨m627, m5, by decide +kernel⟩
theorem calV_X6_copy : b_CalV yX6_copy := ⟨m625, m626⟩
theorem cal_X6_pieceBeat : b_Cal yX6_pieceBeat cX6_pieceBeat 1 (some .int) 0 := ⟨m349, m5, by decide +kernel⟩
theorem calV_X6_pieceBeat : b_CalV yX6_pieceBeat := ⟨m347, m348⟩
theorem cal_X6_seats : b_Cal yX6_seats cX6_seats 2 (some .boolean) 1 := ⟨m433, m5, by decide +kernel⟩
theorem calV_X6_seats : b_CalV yX6_seats := ⟨m431, m432⟩
theorem cal_X6_seat : b_Cal yX6_seat cX6_seat 3 (some .int) 1 := ⟨m425, m5, by decide +kernel⟩
theorem calV_X6_seat : b_CalV yX6_seat := ⟨m423, m424⟩
theorem cal_X6_allCoins : b_Cal yX6_allCoins cX6_allCoins 3 (some .int) 0 := ⟨m834, m5, by decide +kernel⟩
theorem calV_X6_allCoins : b_CalV yX6_allCoins := ⟨m832, m833⟩
theorem cal_X6_tellOf : b_Cal yX6_tellOf cX6_tellOf 5 (some .int) 3 := ⟨m437, m5, by decide +kernel⟩
theorem calV_X6_tellOf : b_CalV yX6_tellOf := ⟨m435, m436⟩
theorem cal_X6_goBy : b_Cal yX6_goBy cX6_goBy 9 none 2 := ⟨m557, m5, by decide +kernel⟩
theorem calV_X6_goBy : b_CalV yX6_goBy := ⟨m555, m556⟩
theorem cal_X6_leftByFog : b_Cal yX6_leftByFog cX6_leftByFog 4 (some .int) 1 := ⟨m561, m5, by decide +kernel⟩
theorem calV_X6_leftByFog : b_CalV yX6_leftByFog := ⟨m560, s12⟩
theorem cal_X7_init : b_Cal yX7_init cX7_init 1 none 0 := ⟨m173, m8, by decide +kernel⟩
theorem cal_X7_isMissing : b_Cal yX7_isMissing cX7_isMissing 1 (some .boolean) 0 := ⟨m762, m8, by decide +kernel⟩
theorem calV_X7_isMissing : b_CalV yX7_isMissing := ⟨m760, m761⟩
theorem cal_X7_holds : b_Cal yX7_holds cX7_holds 2 (some .boolean) 1 := ⟨m766, m8, by decide +kernel⟩
theorem calV_X7_holds : b_CalV yX7_holds := ⟨m764, m765⟩
theorem cal_X7_holdsFrom : b_Cal yX7_holdsFrom cX7_holdsFrom 3 (some .boolean) 2 := ⟨m780, m8, by decide +kernel⟩
theorem calV_X7_holdsFrom : b_CalV yX7_holdsFrom := ⟨m778, m779⟩
theorem cal_X7_lay : b_Cal yX7_lay cX7_lay 3 none 2 := ⟨m753, m8, by decide +kernel⟩
theorem calV_X7_lay : b_CalV yX7_lay := ⟨m751, m752⟩
theorem cal_X7_write : b_Cal yX7_write cX7_write 3 none 2 := ⟨m770, m8, by decide +kernel⟩
theorem calV_X7_write : b_CalV yX7_write := ⟨m768, m769⟩
theorem cal_X7_readPart : b_Cal yX7_readPart cX7_readPart 3 (some .int) 0 := ⟨m789, m8, by decide +kernel⟩
theorem calV_X7_readPart : b_CalV yX7_readPart := ⟨m787, m788⟩
theorem cal_X8_init : b_Cal yX8_init cX8_init 1 none 0 := ⟨m192, m9, by decide +kernel⟩
theorem cal_X8_raise : b_Cal yX8_raise cX8_raise 6 (some .int) 5 := ⟨m718, m9, by decide +kernel⟩
theorem calV_X8_raise : b_CalV yX8_raise := ⟨m716, m717⟩
theorem cal_X8_own : b_Cal yX8_own cX8_own 4 (some .int) 3 := ⟨m722, m9, by decide +kernel⟩
theorem calV_X8_own : b_CalV yX8_own := ⟨m721, s18⟩
theorem cal_X8_from : b_Cal yX8_from cX8_from 8 (some .int) 4 := ⟨m726, m9, by decide +kernel⟩
theorem calV_X8_from : b_CalV yX8_from := ⟨m725, s19⟩
theorem cal_X8_bodyFrom : b_Cal yX8_bodyFrom cX8_bodyFrom 5 (some .int) 2 := ⟨m729, m9, by decide +kernel⟩
theorem cal_X8_begin : b_Cal yX8_begin cX8_begin 2 none 1 := ⟨m737, m9, by decide +kernel⟩
theorem calV_X8_begin : b_CalV yX8_begin := ⟨m736, s20⟩
theorem cal_X9_init : b_Cal yX9_init cX9_init 1 none 0 := ⟨m25, m1, by decide +kernel⟩
theorem cal_X9_tide : b_Cal yX9_tide cX9_tide 4 (some .int) 2 := ⟨m311, m1, by decide +kernel⟩
theorem calV_X9_tide : b_CalV yX9_tide := ⟨m309, m310⟩
theorem cal_X9_speed : b_Cal yX9_speed cX9_speed 3 (some .int) 1 := ⟨m323, m1, by decide +kernel⟩
theorem calV_X9_speed : b_CalV yX9_speed := ⟨m321, m322⟩
theorem cal_X9_boat : b_Cal yX9_boat cX9_boat 3 (some .int) 2 := ⟨m327, m1, by decide +kernel⟩
theorem calV_X9_boat : b_CalV yX9_boat := ⟨m325, m326⟩
theorem cal_X9_ofBoat : b_Cal yX9_ofBoat cX9_ofBoat 4 (some .int) 2 := ⟨m341, m1, by decide +kernel⟩
theorem calV_X9_ofBoat : b_CalV yX9_ofBoat := ⟨m339, m340⟩
theorem cal_X9_change : b_Cal yX9_change cX9_change 6 (some .int) 3 := ⟨m358, m1, by decide +kernel⟩
theorem calV_X9_change : b_CalV yX9_change := ⟨m356, m357⟩
theorem cal_X9_become : b_Cal yX9_become cX9_become 5 (some .int) 2 := ⟨m362, m1, by decide +kernel⟩
theorem calV_X9_become : b_CalV yX9_become := ⟨m360, m361⟩
theorem cal_X9_as : b_Cal yX9_as cX9_as 4 (some .int) 2 := ⟨m366, m1, by decide +kernel⟩
theorem calV_X9_as : b_CalV yX9_as := ⟨m364, m365⟩
theorem cal_X9_lag : b_Cal yX9_lag cX9_lag 5 (some .int) 2 := ⟨m378, m1, by decide +kernel⟩
theorem calV_X9_lag : b_CalV yX9_lag := ⟨m376, m377⟩
theorem cal_X9_listener : b_Cal yX9_listener cX9_listener 2 (some .int) 1 := ⟨m421, m1, by decide +kernel⟩
theorem calV_X9_listener : b_CalV yX9_listener := ⟨m419, m420⟩
theorem cal_X9_ofListener : b_Cal yX9_ofListener cX9_ofListener 3 (some .int) 2 := ⟨m429, m1, by decide +kernel⟩
theorem calV_X9_ofListener : b_CalV yX9_ofListener := ⟨m427, m428⟩
theorem cal_X9_row : b_Cal yX9_row cX9_row 4 (some .int) 2 := ⟨m461, m1, by decide +kernel⟩
theorem calV_X9_row : b_CalV yX9_row := ⟨m459, m460⟩
theorem cal_X9_feed : b_Cal yX9_feed cX9_feed 4 (some .int) 2 := ⟨m465, m1, by decide +kernel⟩
theorem calV_X9_feed : b_CalV yX9_feed := ⟨m463, m464⟩
theorem cal_X9_text : b_Cal yX9_text cX9_text 3 (some .int) 1 := ⟨m473, m1, by decide +kernel⟩
theorem calV_X9_text : b_CalV yX9_text := ⟨m471, m472⟩
theorem cal_X9_law : b_Cal yX9_law cX9_law 5 (some .int) 4 := ⟨m544, m1, by decide +kernel⟩
theorem calV_X9_law : b_CalV yX9_law := ⟨m542, m543⟩
theorem cal_X9_beats : b_Cal yX9_beats cX9_beats 2 (some .int) 1 := ⟨m549, m1, by decide +kernel⟩
theorem calV_X9_beats : b_CalV yX9_beats := ⟨m547, m548⟩
theorem cal_X9_loose : b_Cal yX9_loose cX9_loose 2 (some .int) 1 := ⟨m588, m1, by decide +kernel⟩
theorem calV_X9_loose : b_CalV yX9_loose := ⟨m586, m587⟩
theorem cal_X9_then : b_Cal yX9_then cX9_then 3 (some .int) 2 := ⟨m592, m1, by decide +kernel⟩
theorem calV_X9_then : b_CalV yX9_then := ⟨m590, m591⟩
theorem cal_X9_thenListener : b_Cal yX9_thenListener cX9_thenListener 5 (some .int) 3 := ⟨m623, m1, by decide +kernel⟩
theorem calV_X9_thenListener : b_CalV yX9_thenListener := ⟨m621, m622⟩
theorem cal_X9_score : b_Cal yX9_score cX9_score 3 (some .int) 2 := ⟨m633, m1, by decide +kernel⟩
theorem calV_X9_score : b_CalV yX9_score := ⟨m631, m632⟩
theorem cal_X9_place : b_Cal yX9_place cX9_place 2 (some .int) 1 := ⟨m646, m1, by decide +kernel⟩
theorem calV_X9_place : b_CalV yX9_place := ⟨m644, m645⟩
theorem cal_X9_fromHere : b_Cal yX9_fromHere cX9_fromHere 6 (some .long) 1 := ⟨m657, m1, by decide +kernel⟩
theorem calV_X9_fromHere : b_CalV yX9_fromHere := ⟨m655, m656⟩
theorem cal_X9_mooring : b_Cal yX9_mooring cX9_mooring 5 (some .int) 3 := ⟨m661, m1, by decide +kernel⟩
theorem calV_X9_mooring : b_CalV yX9_mooring := ⟨m659, m660⟩
theorem cal_X9_sooner : b_Cal yX9_sooner cX9_sooner 5 (some .int) 3 := ⟨m665, m1, by decide +kernel⟩
theorem calV_X9_sooner : b_CalV yX9_sooner := ⟨m663, m664⟩
theorem cal_X9_fitSpeed : b_Cal yX9_fitSpeed cX9_fitSpeed 4 (some .int) 2 := ⟨m672, m1, by decide +kernel⟩
theorem calV_X9_fitSpeed : b_CalV yX9_fitSpeed := ⟨m670, m671⟩
theorem cal_X9_fromWhere : b_Cal yX9_fromWhere cX9_fromWhere 3 (some .int) 2 := ⟨m676, m1, by decide +kernel⟩
theorem calV_X9_fromWhere : b_CalV yX9_fromWhere := ⟨m674, m675⟩
theorem cal_X9_whereFrom : b_Cal yX9_whereFrom cX9_whereFrom 8 (some .int) 3 := ⟨m702, m1, by decide +kernel⟩
theorem calV_X9_whereFrom : b_CalV yX9_whereFrom := ⟨m700, m701⟩
theorem cal_X9_strokes : b_Cal yX9_strokes cX9_strokes 5 (some .int) 2 := ⟨m706, m1, by decide +kernel⟩
theorem calV_X9_strokes : b_CalV yX9_strokes := ⟨m704, m705⟩
theorem cal_X9_seed : b_Cal yX9_seed cX9_seed 3 (some .int) 1 := ⟨m710, m1, by decide +kernel⟩
theorem calV_X9_seed : b_CalV yX9_seed := ⟨m708, m709⟩
theorem cal_X9_voice : b_Cal yX9_voice cX9_voice 5 (some .int) 3 := ⟨m714, m1, by decide +kernel⟩
theorem calV_X9_voice : b_CalV yX9_voice := ⟨m712, m713⟩
theorem cal_X9_trace : b_Cal yX9_trace cX9_trace 2 (some .int) 1 := ⟨m741, m1, by decide +kernel⟩
theorem calV_X9_trace : b_CalV yX9_trace := ⟨m739, m740⟩
theorem cal_X9_sheet : b_Cal yX9_sheet cX9_sheet 5 (some .int) 3 := ⟨m745, m1, by decide +kernel⟩
theorem calV_X9_sheet : b_CalV yX9_sheet := ⟨m743, m744⟩
theorem cal_X9_put : b_Cal yX9_put cX9_put 5 (some .int) 3 := ⟨m758, m1, by decide +kernel⟩
theorem calV_X9_put : b_CalV yX9_put := ⟨m756, m757⟩
theorem cal_X9_move : b_Cal yX9_move cX9_move 8 (some .int) 5 := ⟨m776, m1, by decide +kernel⟩
theorem calV_X9_move : b_CalV yX9_move := ⟨m774, m775⟩
theorem cal_X9_part : b_Cal yX9_part cX9_part 5 (some .int) 2 := ⟨m785, m1, by decide +kernel⟩
theorem calV_X9_part : b_CalV yX9_part := ⟨m783, m784⟩
theorem cal_X9_judge : b_Cal yX9_judge cX9_judge 5 (some .int) 2 := ⟨m795, m1, by decide +kernel⟩
theorem calV_X9_judge : b_CalV yX9_judge := ⟨m793, m794⟩
theorem cal_X9_image : b_Cal yX9_image cX9_image 1 (some .int) 0 := ⟨m799, m1, by decide +kernel⟩
theorem calV_X9_image : b_CalV yX9_image := ⟨m797, m798⟩
theorem cal_X9_restore : b_Cal yX9_restore cX9_restore 1 (some .int) 0 := ⟨m813, m1, by decide +kernel⟩
theorem calV_X9_restore : b_CalV yX9_restore := ⟨m811, m812⟩
theorem cal_X9_tell : b_Cal yX9_tell cX9_tell 2 (some .int) 1 := ⟨m817, m1, by decide +kernel⟩
theorem calV_X9_tell : b_CalV yX9_tell := ⟨m815, m816⟩
theorem cal_X9_check : b_Cal yX9_check cX9_check 4 (some .int) 1 := ⟨m825, m1, by decide +kernel⟩
theorem calV_X9_check : b_CalV yX9_check := ⟨m823, m824⟩
theorem cal_X9_count : b_Cal yX9_count cX9_count 2 (some .int) 1 := ⟨m829, m1, by decide +kernel⟩
theorem calV_X9_count : b_CalV yX9_count := ⟨m827, m828⟩
theorem cal_X9_told : b_Cal yX9_told cX9_told 2 (some .int) 1 := ⟨m838, m1, by decide +kernel⟩
theorem calV_X9_told : b_CalV yX9_told := ⟨m836, m837⟩
theorem cal_X9_refuse : b_Cal yX9_refuse cX9_refuse 2 (some .int) 1 := ⟨m318, m1, by decide +kernel⟩
theorem calV_X9_refuse : b_CalV yX9_refuse := ⟨m317, s0⟩
theorem cal_X9_goOn : b_Cal yX9_goOn cX9_goOn 4 (some .int) 2 := ⟨m553, m1, by decide +kernel⟩
theorem calV_X9_goOn : b_CalV yX9_goOn := ⟨m552, s11⟩
theorem cal_X9_watchAll : b_Cal yX9_watchAll cX9_watchAll 3 none 1 := ⟨m637, m1, by decide +kernel⟩
theorem calV_X9_watchAll : b_CalV yX9_watchAll := ⟨m636, s14⟩
theorem cal_X9_scoreAll : b_Cal yX9_scoreAll cX9_scoreAll 3 none 1 := ⟨m650, m1, by decide +kernel⟩
theorem calV_X9_scoreAll : b_CalV yX9_scoreAll := ⟨m649, s15⟩
theorem cal_X9_origins : b_Cal yX9_origins cX9_origins 9 (some .long) 2 := ⟨m688, m1, by decide +kernel⟩
theorem calV_X9_origins : b_CalV yX9_origins := ⟨m687, s16⟩
theorem cal_X9_isHeardBehind : b_Cal yX9_isHeardBehind cX9_isHeardBehind 4 (some .boolean) 3 := ⟨m692, m1, by decide +kernel⟩
theorem calV_X9_isHeardBehind : b_CalV yX9_isHeardBehind := ⟨m691, s17⟩
theorem cal_X9_sheetOf : b_Cal yX9_sheetOf cX9_sheetOf 2 (some (Jvm.ClassFile.FieldType.object "LagoonOpera$Sheet")) 1 := ⟨m749, m1, by decide +kernel⟩
theorem calV_X9_sheetOf : b_CalV yX9_sheetOf := ⟨m748, s21⟩
theorem cal_X9_within : b_Cal yX9_within cX9_within 3 (some .boolean) 3 := ⟨m314, m1, by decide +kernel⟩
theorem cal_X9_isCell : b_Cal yX9_isCell cX9_isCell 1 (some .boolean) 1 := ⟨m333, m1, by decide +kernel⟩
theorem cal_X9_isAhead : b_Cal yX9_isAhead cX9_isAhead 1 (some .boolean) 1 := ⟨m595, m1, by decide +kernel⟩
theorem cal_X9_isKindAndNumber : b_Cal yX9_isKindAndNumber cX9_isKindAndNumber 1 (some .boolean) 1 := ⟨m330, m1, by decide +kernel⟩
theorem cal_X9_areThreeCells : b_Cal yX9_areThreeCells cX9_areThreeCells 1 (some .boolean) 1 := ⟨m679, m1, by decide +kernel⟩
theorem cal_X9_areThreeLags : b_Cal yX9_areThreeLags cX9_areThreeLags 1 (some .boolean) 1 := ⟨m683, m1, by decide +kernel⟩
theorem cal_X9_above : b_Cal yX9_above cX9_above 1 (some .int) 1 := ⟨m374, m1, by decide +kernel⟩
theorem cal_X9_isUnder : b_Cal yX9_isUnder cX9_isUnder 4 (some .boolean) 2 := ⟨m369, m1, by decide +kernel⟩
theorem cal_X9_far : b_Cal yX9_far cX9_far 4 (some .int) 2 := ⟨m381, m1, by decide +kernel⟩
theorem cal_X9_nextCell : b_Cal yX9_nextCell cX9_nextCell 2 (some .int) 2 := ⟨m580, m1, by decide +kernel⟩
theorem cal_X9_firstOfMost : b_Cal yX9_firstOfMost cX9_firstOfMost 4 (some .int) 2 := ⟨m653, m1, by decide +kernel⟩
theorem cal_X10_init : b_Cal yX10_init cX10_init 1 none 0 := ⟨m843, m12, by decide +kernel⟩
theorem cal_X10_finding : b_Cal yX10_finding cX10_finding 2 (some .int) 1 := ⟨m935, m12, by decide +kernel⟩
theorem calV_X10_finding : b_CalV yX10_finding := ⟨m934, s23⟩
theorem cal_X10_within : b_Cal yX10_within cX10_within 3 (some .boolean) 3 := ⟨m926, m12, by decide +kernel⟩
theorem cal_X10_held : b_Cal yX10_held cX10_held 3 (some .int) 3 := ⟨m1019, m12, by decide +kernel⟩
theorem cal_X10_is : b_Cal yX10_is cX10_is 3 (some .boolean) 2 := ⟨m956, m12, by decide +kernel⟩
theorem calV_X10_is : b_CalV yX10_is := ⟨m955, s24⟩
theorem cal_X10_copy : b_Cal yX10_copy cX10_copy 3 none 2 := ⟨m1204, m12, by decide +kernel⟩
theorem cal_X10_putIn : b_Cal yX10_putIn cX10_putIn 4 (some .int) 2 := ⟨m930, m12, by decide +kernel⟩
theorem calV_X10_putIn : b_CalV yX10_putIn := ⟨m929, s22⟩
theorem cal_X10_putBack : b_Cal yX10_putBack cX10_putBack 2 (some .int) 1 := ⟨m1208, m12, by decide +kernel⟩
theorem calV_X10_putBack : b_CalV yX10_putBack := ⟨m1207, s54⟩
theorem cal_X10_isCell : b_Cal yX10_isCell cX10_isCell 1 (some .boolean) 1 := ⟨m947, m12, by decide +kernel⟩
theorem cal_X10_tide : b_Cal yX10_tide cX10_tide 3 (some .int) 2 := ⟨m923, m12, by decide +kernel⟩
theorem calV_X10_tide : b_CalV yX10_tide := ⟨m921, m922⟩
theorem cal_X10_speed : b_Cal yX10_speed cX10_speed 2 (some .int) 1 := ⟨m940, m12, by decide +kernel⟩
theorem calV_X10_speed : b_CalV yX10_speed := ⟨m938, m939⟩
theorem cal_X10_boatIs : b_Cal yX10_boatIs cX10_boatIs 3 (some .int) 2 := ⟨m964, m12, by decide +kernel⟩
theorem calV_X10_boatIs : b_CalV yX10_boatIs := ⟨m963, s26⟩
theorem cal_X10_listenerIs : b_Cal yX10_listenerIs cX10_listenerIs 3 (some .int) 2 := ⟨m1036, m12, by decide +kernel⟩
theorem calV_X10_listenerIs : b_CalV yX10_listenerIs := ⟨m1035, s34⟩
theorem cal_X10_boat : b_Cal yX10_boat cX10_boat 4 (some .int) 2 := ⟨m944, m12, by decide +kernel⟩
theorem calV_X10_boat : b_CalV yX10_boat := ⟨m942, m943⟩
theorem cal_X10_beat : b_Cal yX10_beat cX10_beat 1 (some .int) 0 := ⟨m968, m12, by decide +kernel⟩
theorem calV_X10_beat : b_CalV yX10_beat := ⟨m967, s27⟩
theorem cal_X10_sings : b_Cal yX10_sings cX10_sings 2 (some .boolean) 1 := ⟨m960, m12, by decide +kernel⟩
theorem calV_X10_sings : b_CalV yX10_sings := ⟨m959, s25⟩
theorem cal_X10_ofBoat : b_Cal yX10_ofBoat cX10_ofBoat 3 (some .int) 2 := ⟨m952, m12, by decide +kernel⟩
theorem calV_X10_ofBoat : b_CalV yX10_ofBoat := ⟨m950, m951⟩
theorem cal_X10_change : b_Cal yX10_change cX10_change 5 (some .int) 3 := ⟨m972, m12, by decide +kernel⟩
theorem calV_X10_change : b_CalV yX10_change := ⟨m970, m971⟩
theorem cal_X10_become : b_Cal yX10_become cX10_become 3 (some .int) 2 := ⟨m976, m12, by decide +kernel⟩
theorem calV_X10_become : b_CalV yX10_become := ⟨m974, m975⟩
theorem cal_X10_above : b_Cal yX10_above cX10_above 1 (some .int) 1 := ⟨m983, m12, by decide +kernel⟩
theorem cal_X10_as : b_Cal yX10_as cX10_as 4 (some .int) 2 := ⟨m980, m12, by decide +kernel⟩
theorem calV_X10_as : b_CalV yX10_as := ⟨m978, m979⟩
theorem cal_X10_far : b_Cal yX10_far cX10_far 2 (some .int) 2 := ⟨m999, m12, by decide +kernel⟩
theorem cal_X10_forgetLags : b_Cal yX10_forgetLags cX10_forgetLags 2 none 0 := ⟨m1152, m12, by decide +kernel⟩
theorem calV_X10_forgetLags : b_CalV yX10_forgetLags := ⟨m1151, s47⟩
theorem cal_X10_lags : b_Cal yX10_lags cX10_lags 5 (some .int) 2 := ⟨m996, m12, by decide +kernel⟩
theorem calV_X10_lags : b_CalV yX10_lags := ⟨m995, s29⟩
theorem cal_X10_comes : b_Cal yX10_comes cX10_comes 4 (some .int) 2 := ⟨m992, m12, by decide +kernel⟩
theorem calV_X10_comes : b_CalV yX10_comes := ⟨m991, s28⟩
theorem cal_X10_lag : b_Cal yX10_lag cX10_lag 3 (some .int) 2 := ⟨m988, m12, by decide +kernel⟩
theorem calV_X10_lag : b_CalV yX10_lag := ⟨m986, m987⟩
theorem cal_X10_listener : b_Cal yX10_listener cX10_listener 3 (some .int) 1 := ⟨m1024, m12, by decide +kernel⟩
theorem calV_X10_listener : b_CalV yX10_listener := ⟨m1022, m1023⟩
theorem cal_X10_singers : b_Cal yX10_singers cX10_singers 3 (some .int) 0 := ⟨m1040, m12, by decide +kernel⟩
theorem calV_X10_singers : b_CalV yX10_singers := ⟨m1039, s35⟩
theorem cal_X10_bits : b_Cal yX10_bits cX10_bits 3 (some .int) 1 := ⟨m1047, m12, by decide +kernel⟩
theorem cal_X10_isTogether : b_Cal yX10_isTogether cX10_isTogether 7 (some .boolean) 2 := ⟨m1044, m12, by decide +kernel⟩
theorem calV_X10_isTogether : b_CalV yX10_isTogether := ⟨m1043, s36⟩
theorem cal_X10_ofOne : b_Cal yX10_ofOne cX10_ofOne 3 (some .int) 2 := ⟨m1032, m12, by decide +kernel⟩
theorem calV_X10_ofOne : b_CalV yX10_ofOne := ⟨m1031, s33⟩
theorem cal_X10_ofListener : b_Cal yX10_ofListener cX10_ofListener 3 (some .int) 2 := ⟨m1028, m12, by decide +kernel⟩
theorem calV_X10_ofListener : b_CalV yX10_ofListener := ⟨m1026, m1027⟩
theorem cal_X10_row : b_Cal yX10_row cX10_row 3 (some .int) 2 := ⟨m1051, m12, by decide +kernel⟩
theorem calV_X10_row : b_CalV yX10_row := ⟨m1049, m1050⟩
theorem cal_X10_feed : b_Cal yX10_feed cX10_feed 5 (some .int) 2 := ⟨m1055, m12, by decide +kernel⟩
theorem calV_X10_feed : b_CalV yX10_feed := ⟨m1053, m1054⟩
theorem cal_X10_here : b_Cal yX10_here cX10_here 1 (some .int) 0 := ⟨m1088, m12, by decide +kernel⟩
theorem calV_X10_here : b_CalV yX10_here := ⟨m1087, s43⟩
theorem cal_X10_takes : b_Cal yX10_takes cX10_takes 3 (some .boolean) 1 := ⟨m1096, m12, by decide +kernel⟩
theorem calV_X10_takes : b_CalV yX10_takes := ⟨m1095, s45⟩
theorem cal_X10_codes : b_Cal yX10_codes cX10_codes 2 none 1 := ⟨m1092, m12, by decide +kernel⟩
theorem calV_X10_codes : b_CalV yX10_codes := ⟨m1091, s44⟩
theorem cal_X10_either : b_Cal yX10_either cX10_either 1 none 0 := ⟨m1064, m12, by decide +kernel⟩
theorem calV_X10_either : b_CalV yX10_either := ⟨m1063, s37⟩
theorem cal_X10_both : b_Cal yX10_both cX10_both 1 none 0 := ⟨m1068, m12, by decide +kernel⟩
theorem calV_X10_both : b_CalV yX10_both := ⟨m1067, s38⟩
theorem cal_X10_compared : b_Cal yX10_compared cX10_compared 2 none 0 := ⟨m1072, m12, by decide +kernel⟩
theorem calV_X10_compared : b_CalV yX10_compared := ⟨m1071, s39⟩
theorem cal_X10_sum : b_Cal yX10_sum cX10_sum 2 none 0 := ⟨m1076, m12, by decide +kernel⟩
theorem calV_X10_sum : b_CalV yX10_sum := ⟨m1075, s40⟩
theorem cal_X10_product : b_Cal yX10_product cX10_product 2 none 0 := ⟨m1080, m12, by decide +kernel⟩
theorem calV_X10_product : b_CalV yX10_product := ⟨m1079, s41⟩
theorem cal_X10_nameOf : b_Cal yX10_nameOf cX10_nameOf 4 (some .int) 1 := ⟨m1100, m12, by decide +kernel⟩
theorem calV_X10_nameOf : b_CalV yX10_nameOf := ⟨m1099, s46⟩
theorem cal_X10_one : b_Cal yX10_one cX10_one 4 none 0 := ⟨m1084, m12, by decide +kernel⟩
theorem calV_X10_one : b_CalV yX10_one := ⟨m1083, s42⟩
theorem cal_X10_text : b_Cal yX10_text cX10_text 3 (some .int) 1 := ⟨m1060, m12, by decide +kernel⟩
theorem calV_X10_text : b_CalV yX10_text := ⟨m1058, m1059⟩
theorem cal_X10_done : b_Cal yX10_done cX10_done 3 (some .int) 3 := ⟨m1016, m12, by decide +kernel⟩
theorem cal_X10_worked : b_Cal yX10_worked cX10_worked 5 (some .int) 1 := ⟨m1013, m12, by decide +kernel⟩
theorem calV_X10_worked : b_CalV yX10_worked := ⟨m1012, s32⟩
theorem cal_X10_hasText : b_Cal yX10_hasText cX10_hasText 2 (some .boolean) 1 := ⟨m1009, m12, by decide +kernel⟩
theorem calV_X10_hasText : b_CalV yX10_hasText := ⟨m1008, s31⟩
theorem cal_X10_given : b_Cal yX10_given cX10_given 6 (some .int) 4 := ⟨m1005, m12, by decide +kernel⟩
theorem calV_X10_given : b_CalV yX10_given := ⟨m1004, s30⟩
theorem cal_X10_law : b_Cal yX10_law cX10_law 5 (some .int) 4 := ⟨m1156, m12, by decide +kernel⟩
theorem calV_X10_law : b_CalV yX10_law := ⟨m1154, m1155⟩
theorem cal_X10_drawn : b_Cal yX10_drawn cX10_drawn 2 (some .int) 1 := ⟨m1173, m12, by decide +kernel⟩
theorem calV_X10_drawn : b_CalV yX10_drawn := ⟨m1172, s50⟩
theorem cal_X10_next : b_Cal yX10_next cX10_next 4 (some .int) 2 := ⟨m1190, m12, by decide +kernel⟩
theorem cal_X10_movesTo : b_Cal yX10_movesTo cX10_movesTo 8 (some .int) 1 := ⟨m1187, m12, by decide +kernel⟩
theorem calV_X10_movesTo : b_CalV yX10_movesTo := ⟨m1186, s53⟩
theorem cal_X10_listen : b_Cal yX10_listen cX10_listen 6 none 1 := ⟨m1178, m12, by decide +kernel⟩
theorem calV_X10_listen : b_CalV yX10_listen := ⟨m1177, s51⟩
theorem cal_X10_moveAll : b_Cal yX10_moveAll cX10_moveAll 2 none 0 := ⟨m1183, m12, by decide +kernel⟩
theorem calV_X10_moveAll : b_CalV yX10_moveAll := ⟨m1182, s52⟩
theorem cal_X10_beatsGo : b_Cal yX10_beatsGo cX10_beatsGo 6 none 2 := ⟨m1169, m12, by decide +kernel⟩
theorem calV_X10_beatsGo : b_CalV yX10_beatsGo := ⟨m1168, s49⟩
theorem cal_X10_go : b_Cal yX10_go cX10_go 3 (some .int) 2 := ⟨m1164, m12, by decide +kernel⟩
theorem calV_X10_go : b_CalV yX10_go := ⟨m1163, s48⟩
theorem cal_X10_beats : b_Cal yX10_beats cX10_beats 2 (some .int) 1 := ⟨m1160, m12, by decide +kernel⟩
theorem calV_X10_beats : b_CalV yX10_beats := ⟨m1158, m1159⟩
theorem cal_X10_loose : b_Cal yX10_loose cX10_loose 2 (some .int) 1 := ⟨m1194, m12, by decide +kernel⟩
theorem calV_X10_loose : b_CalV yX10_loose := ⟨m1192, m1193⟩
theorem cal_X10_isAhead : b_Cal yX10_isAhead cX10_isAhead 1 (some .boolean) 1 := ⟨m1201, m12, by decide +kernel⟩
theorem cal_X10_then : b_Cal yX10_then cX10_then 3 (some .int) 2 := ⟨m1198, m12, by decide +kernel⟩
theorem calV_X10_then : b_CalV yX10_then := ⟨m1196, m1197⟩
theorem cal_X10_thenListener : b_Cal yX10_thenListener cX10_thenListener 4 (some .int) 3 := ⟨m1212, m12, by decide +kernel⟩
theorem calV_X10_thenListener : b_CalV yX10_thenListener := ⟨m1210, m1211⟩
theorem cal_X10_scoreBy : b_Cal yX10_scoreBy cX10_scoreBy 5 (some .int) 2 := ⟨m1220, m12, by decide +kernel⟩
theorem calV_X10_scoreBy : b_CalV yX10_scoreBy := ⟨m1219, s55⟩
theorem cal_X10_score : b_Cal yX10_score cX10_score 3 (some .int) 2 := ⟨m1216, m12, by decide +kernel⟩
theorem calV_X10_score : b_CalV yX10_score := ⟨m1214, m1215⟩
theorem cal_X10_findScores : b_Cal yX10_findScores cX10_findScores 4 (some .int) 1 := ⟨m1228, m12, by decide +kernel⟩
theorem calV_X10_findScores : b_CalV yX10_findScores := ⟨m1227, s56⟩
theorem cal_X10_place : b_Cal yX10_place cX10_place 4 (some .int) 1 := ⟨m1224, m12, by decide +kernel⟩
theorem calV_X10_place : b_CalV yX10_place := ⟨m1222, m1223⟩
theorem cal_X10_fromHere : b_Cal yX10_fromHere cX10_fromHere 6 (some .long) 1 := ⟨m1232, m12, by decide +kernel⟩
theorem calV_X10_fromHere : b_CalV yX10_fromHere := ⟨m1230, m1231⟩
theorem cal_X10_mooring : b_Cal yX10_mooring cX10_mooring 8 (some .int) 3 := ⟨m1236, m12, by decide +kernel⟩
theorem calV_X10_mooring : b_CalV yX10_mooring := ⟨m1234, m1235⟩
theorem cal_X10_sooner : b_Cal yX10_sooner cX10_sooner 9 (some .int) 3 := ⟨m1240, m12, by decide +kernel⟩
theorem calV_X10_sooner : b_CalV yX10_sooner := ⟨m1238, m1239⟩
theorem cal_X10_fitSpeed : b_Cal yX10_fitSpeed cX10_fitSpeed 7 (some .int) 2 := ⟨m1244, m12, by decide +kernel⟩
theorem calV_X10_fitSpeed : b_CalV yX10_fitSpeed := ⟨m1242, m1243⟩
theorem cal_X10_areTold : b_Cal yX10_areTold cX10_areTold 2 (some .boolean) 2 := ⟨m1251, m12, by decide +kernel⟩
theorem cal_X10_mayBeFrom : b_Cal yX10_mayBeFrom cX10_mayBeFrom 4 (some .boolean) 3 := ⟨m1256, m12, by decide +kernel⟩
theorem calV_X10_mayBeFrom : b_CalV yX10_mayBeFrom := ⟨m1255, s57⟩
theorem cal_X10_fromWhere : b_Cal yX10_fromWhere cX10_fromWhere 5 (some .int) 2 := ⟨m1248, m12, by decide +kernel⟩
theorem calV_X10_fromWhere : b_CalV yX10_fromWhere := ⟨m1246, m1247⟩
theorem cal_X10_whereFrom : b_Cal yX10_whereFrom cX10_whereFrom 6 (some .int) 3 := ⟨m1260, m12, by decide +kernel⟩
theorem calV_X10_whereFrom : b_CalV yX10_whereFrom := ⟨m1258, m1259⟩
theorem cal_X10_strokes : b_Cal yX10_strokes cX10_strokes 6 (some .int) 2 := ⟨m1265, m12, by decide +kernel⟩
theorem calV_X10_strokes : b_CalV yX10_strokes := ⟨m1263, m1264⟩
theorem cal_X10_seed : b_Cal yX10_seed cX10_seed 2 (some .int) 1 := ⟨m1269, m12, by decide +kernel⟩
theorem calV_X10_seed : b_CalV yX10_seed := ⟨m1267, m1268⟩
theorem cal_X10_began : b_Cal yX10_began cX10_began 2 none 1 := ⟨m1292, m12, by decide +kernel⟩
theorem calV_X10_began : b_CalV yX10_began := ⟨m1291, s61⟩
theorem cal_X10_hasOwn : b_Cal yX10_hasOwn cX10_hasOwn 2 (some .boolean) 2 := ⟨m1284, m12, by decide +kernel⟩
theorem cal_X10_voiced : b_Cal yX10_voiced cX10_voiced 3 (some .int) 2 := ⟨m1277, m12, by decide +kernel⟩
theorem calV_X10_voiced : b_CalV yX10_voiced := ⟨m1276, s58⟩
theorem cal_X10_bodyFrom : b_Cal yX10_bodyFrom cX10_bodyFrom 5 (some .int) 3 := ⟨m1281, m12, by decide +kernel⟩
theorem calV_X10_bodyFrom : b_CalV yX10_bodyFrom := ⟨m1280, s59⟩
theorem cal_X10_body : b_Cal yX10_body cX10_body 7 (some .int) 3 := ⟨m1288, m12, by decide +kernel⟩
theorem calV_X10_body : b_CalV yX10_body := ⟨m1287, s60⟩
theorem cal_X10_voice : b_Cal yX10_voice cX10_voice 4 (some .int) 3 := ⟨m1273, m12, by decide +kernel⟩
theorem calV_X10_voice : b_CalV yX10_voice := ⟨m1271, m1272⟩
theorem cal_X10_trace : b_Cal yX10_trace cX10_trace 2 (some .int) 1 := ⟨m1296, m12, by decide +kernel⟩
theorem calV_X10_trace : b_CalV yX10_trace := ⟨m1294, m1295⟩
theorem cal_X10_isSheet : b_Cal yX10_isSheet cX10_isSheet 1 (some .boolean) 1 := ⟨m1303, m12, by decide +kernel⟩
theorem cal_X10_sheet : b_Cal yX10_sheet cX10_sheet 5 (some .int) 3 := ⟨m1300, m12, by decide +kernel⟩
theorem calV_X10_sheet : b_CalV yX10_sheet := ⟨m1298, m1299⟩
theorem cal_X10_put : b_Cal yX10_put cX10_put 4 (some .int) 3 := ⟨m1307, m12, by decide +kernel⟩
theorem calV_X10_put : b_CalV yX10_put := ⟨m1305, m1306⟩
theorem cal_X10_move : b_Cal yX10_move cX10_move 7 (some .int) 5 := ⟨m1311, m12, by decide +kernel⟩
theorem calV_X10_move : b_CalV yX10_move := ⟨m1309, m1310⟩
theorem cal_X10_refuses : b_Cal yX10_refuses cX10_refuses 3 (some .int) 2 := ⟨m1319, m12, by decide +kernel⟩
theorem calV_X10_refuses : b_CalV yX10_refuses := ⟨m1318, s62⟩
theorem cal_X10_part : b_Cal yX10_part cX10_part 6 (some .int) 2 := ⟨m1315, m12, by decide +kernel⟩
theorem calV_X10_part : b_CalV yX10_part := ⟨m1313, m1314⟩
theorem cal_X10_judge : b_Cal yX10_judge cX10_judge 5 (some .int) 2 := ⟨m1323, m12, by decide +kernel⟩
theorem calV_X10_judge : b_CalV yX10_judge := ⟨m1321, m1322⟩
theorem cal_X10_image : b_Cal yX10_image cX10_image 1 (some .int) 0 := ⟨m1327, m12, by decide +kernel⟩
theorem calV_X10_image : b_CalV yX10_image := ⟨m1325, m1326⟩
theorem cal_X10_restore : b_Cal yX10_restore cX10_restore 1 (some .int) 0 := ⟨m1331, m12, by decide +kernel⟩
theorem calV_X10_restore : b_CalV yX10_restore := ⟨m1329, m1330⟩
theorem cal_X10_tell : b_Cal yX10_tell cX10_tell 2 (some .int) 1 := ⟨m1335, m12, by decide +kernel⟩
theorem calV_X10_tell : b_CalV yX10_tell := ⟨m1333, m1334⟩
theorem cal_X10_check : b_Cal yX10_check cX10_check 5 (some .int) 1 := ⟨m1339, m12, by decide +kernel⟩
theorem calV_X10_check : b_CalV yX10_check := ⟨m1337, m1338⟩
theorem cal_X10_count : b_Cal yX10_count cX10_count 4 (some .int) 1 := ⟨m1343, m12, by decide +kernel⟩
theorem calV_X10_count : b_CalV yX10_count := ⟨m1341, m1342⟩
theorem cal_X10_told : b_Cal yX10_told cX10_told 2 (some .int) 1 := ⟨m1347, m12, by decide +kernel⟩
theorem calV_X10_told : b_CalV yX10_told := ⟨m1345, m1346⟩
theorem cal_J6_bitCount_0f7a4 : b_Cal yJ6_bitCount_0f7a4 cJ6_bitCount_0f7a4 1 (some .int) 1 := ⟨m451, m14, by decide +kernel⟩
theorem cal_J6_rotateRight_7cf53 : b_Cal yJ6_rotateRight_7cf53 cJ6_rotateRight_7cf53 2 (some .int) 2 := ⟨m668, m14, by decide +kernel⟩
theorem cal_J13_bitCount_95d88 : b_Cal yJ13_bitCount_95d88 cJ13_bitCount_95d88 2 (some .int) 1 := ⟨m695, m20, by decide +kernel⟩
theorem cal_J9_abs_0f7a4 : b_Cal yJ9_abs_0f7a4 cJ9_abs_0f7a4 1 (some .int) 1 := ⟨m384, m13, by decide +kernel⟩
theorem cal_J9_max_7cf53 : b_Cal yJ9_max_7cf53 cJ9_max_7cf53 2 (some .int) 2 := ⟨m387, m13, by decide +kernel⟩
theorem cal_J9_min_7cf53 : b_Cal yJ9_min_7cf53 cJ9_min_7cf53 2 (some .int) 2 := ⟨m412, m13, by decide +kernel⟩
theorem cal_J0_length_8abf5 : b_Cal yJ0_length_8abf5 cJ0_length_8abf5 1 (some .int) 0 := ⟨m1104, m16, by decide +kernel⟩
theorem calV_J0_length_8abf5 : b_CalV yJ0_length_8abf5 := ⟨m1102, m1103⟩
theorem cal_J0_charAt_5068e : b_Cal yJ0_charAt_5068e cJ0_charAt_5068e 2 (some Jvm.ClassFile.FieldType.char) 1 := ⟨m1114, m16, by decide +kernel⟩
theorem calV_J0_charAt_5068e : b_CalV yJ0_charAt_5068e := ⟨m1112, m1113⟩
theorem cal_J0_coder_7d493 : b_Cal yJ0_coder_7d493 cJ0_coder_7d493 1 (some Jvm.ClassFile.FieldType.byte) 0 := ⟨m1108, m16, by decide +kernel⟩
theorem calV_J0_coder_7d493 : b_CalV yJ0_coder_7d493 := ⟨m1106, m1107⟩
theorem cal_J0_isLatin1_aae02 : b_Cal yJ0_isLatin1_aae02 cJ0_isLatin1_aae02 1 (some .boolean) 0 := ⟨m1118, m16, by decide +kernel⟩
theorem calV_J0_isLatin1_aae02 : b_CalV yJ0_isLatin1_aae02 := ⟨m1116, m1117⟩
theorem cal_J0_checkIndex_df160 : b_Cal yJ0_checkIndex_df160 cJ0_checkIndex_df160 2 none 2 := ⟨m1124, m16, by decide +kernel⟩
theorem cal_J1_charAt_3b067 : b_Cal yJ1_charAt_3b067 cJ1_charAt_3b067 2 (some Jvm.ClassFile.FieldType.char) 2 := ⟨m1121, m17, by decide +kernel⟩
theorem cal_J2_getChar_3b067 : b_Cal yJ2_getChar_3b067 cJ2_getChar_3b067 2 (some Jvm.ClassFile.FieldType.char) 2 := ⟨m1142, m19, by decide +kernel⟩
theorem cal_J2_length_9d52b : b_Cal yJ2_length_9d52b cJ2_length_9d52b 1 (some .int) 1 := ⟨m1138, m19, by decide +kernel⟩
theorem cal_J2_charAt_3b067 : b_Cal yJ2_charAt_3b067 cJ2_charAt_3b067 2 (some Jvm.ClassFile.FieldType.char) 2 := ⟨m1132, m19, by decide +kernel⟩
theorem cal_J2_checkIndex_2214a : b_Cal yJ2_checkIndex_2214a cJ2_checkIndex_2214a 2 none 2 := ⟨m1135, m19, by decide +kernel⟩
theorem cal_J7_fill_53178 : b_Cal yJ7_fill_53178 cJ7_fill_53178 4 none 2 := ⟨m55, m4, by decide +kernel⟩
theorem cal_J3_checkIndex_8e157 : b_Cal yJ3_checkIndex_8e157 cJ3_checkIndex_8e157 3 (some .int) 3 := ⟨m1129, m18, by decide +kernel⟩
