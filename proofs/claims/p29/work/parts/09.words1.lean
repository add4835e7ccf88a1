set_option maxRecDepth 100000 in
theorem tw_0 : (Jvm.Cond.selects "PancakePort$Reading" ({ cls := "PancakePort$Reading", name := "takes", desc := "(I)Z" } : Jvm.MethodName) ({ cls := "PancakePort$Reading", name := "takes", desc := "(I)Z" } : Jvm.MethodName)) ∈ mWS := List.mem_filter.mpr ⟨List.mem_of_getElem? (i := 0) (by rfl), by rfl⟩
set_option maxRecDepth 100000 in
theorem tw_1 : (Jvm.Cond.selects "PancakePort$Reading" ({ cls := "PancakePort$Reading", name := "takesRow", desc := "(I)Z" } : Jvm.MethodName) ({ cls := "PancakePort$Reading", name := "takesRow", desc := "(I)Z" } : Jvm.MethodName)) ∈ mWS := List.mem_filter.mpr ⟨List.mem_of_getElem? (i := 1) (by rfl), by rfl⟩
set_option maxRecDepth 100000 in
theorem tw_2 : (Jvm.Cond.selects "PancakePort$Reading" ({ cls := "PancakePort$Reading", name := "takesColumn", desc := "(I)Z" } : Jvm.MethodName) ({ cls := "PancakePort$Reading", name := "takesColumn", desc := "(I)Z" } : Jvm.MethodName)) ∈ mWS := List.mem_filter.mpr ⟨List.mem_of_getElem? (i := 2) (by rfl), by rfl⟩
set_option maxRecDepth 100000 in
theorem tw_3 : (Jvm.Cond.selects "PancakePort$Reading" ({ cls := "PancakePort$Reading", name := "takesAfterSleeper", desc := "(I)Z" } : Jvm.MethodName) ({ cls := "PancakePort$Reading", name := "takesAfterSleeper", desc := "(I)Z" } : Jvm.MethodName)) ∈ mWS := List.mem_filter.mpr ⟨List.mem_of_getElem? (i := 3) (by rfl), by rfl⟩
set_option maxRecDepth 100000 in
theorem tw_4 : (Jvm.Cond.selects "PancakePort$Reading" ({ cls := "PancakePort$Reading", name := "takesKind", desc := "(I)Z" } : Jvm.MethodName) ({ cls := "PancakePort$Reading", name := "takesKind", desc := "(I)Z" } : Jvm.MethodName)) ∈ mWS := List.mem_filter.mpr ⟨List.mem_of_getElem? (i := 4) (by rfl), by rfl⟩
set_option maxRecDepth 100000 in
theorem tw_5 : (Jvm.Cond.selects "PancakePort$Reading" ({ cls := "PancakePort$Reading", name := "takesSouth", desc := "(I)Z" } : Jvm.MethodName) ({ cls := "PancakePort$Reading", name := "takesSouth", desc := "(I)Z" } : Jvm.MethodName)) ∈ mWS := List.mem_filter.mpr ⟨List.mem_of_getElem? (i := 5) (by rfl), by rfl⟩
set_option maxRecDepth 100000 in
theorem tw_6 : (Jvm.Cond.selects "PancakePort$Reading" ({ cls := "PancakePort$Reading", name := "takesEast", desc := "(I)Z" } : Jvm.MethodName) ({ cls := "PancakePort$Reading", name := "takesEast", desc := "(I)Z" } : Jvm.MethodName)) ∈ mWS := List.mem_filter.mpr ⟨List.mem_of_getElem? (i := 6) (by rfl), by rfl⟩
set_option maxRecDepth 100000 in
theorem tw_7 : (Jvm.Cond.selects "PancakePort$Reading" ({ cls := "PancakePort$Reading", name := "takesAfterTosser", desc := "(I)Z" } : Jvm.MethodName) ({ cls := "PancakePort$Reading", name := "takesAfterTosser", desc := "(I)Z" } : Jvm.MethodName)) ∈ mWS := List.mem_filter.mpr ⟨List.mem_of_getElem? (i := 7) (by rfl), by rfl⟩
set_option maxRecDepth 100000 in
theorem tw_8 : (Jvm.Cond.selects "PancakePort" ({ cls := "PancakePort", name := "settle", desc := "()V" } : Jvm.MethodName) ({ cls := "PancakePort", name := "settle", desc := "()V" } : Jvm.MethodName)) ∈ mWS := List.mem_filter.mpr ⟨List.mem_of_getElem? (i := 8) (by rfl), by rfl⟩
set_option maxRecDepth 100000 in
theorem tw_9 : (Jvm.Cond.selects "PancakePort" ({ cls := "PancakePort", name := "isSleeper", desc := "(I)Z" } : Jvm.MethodName) ({ cls := "PancakePort", name := "isSleeper", desc := "(I)Z" } : Jvm.MethodName)) ∈ mWS := List.mem_filter.mpr ⟨List.mem_of_getElem? (i := 9) (by rfl), by rfl⟩
set_option maxRecDepth 100000 in
theorem tw_10 : (Jvm.Cond.selects "PancakePort" ({ cls := "PancakePort", name := "bestPlaceFor", desc := "(I)I" } : Jvm.MethodName) ({ cls := "PancakePort", name := "bestPlaceFor", desc := "(I)I" } : Jvm.MethodName)) ∈ mWS := List.mem_filter.mpr ⟨List.mem_of_getElem? (i := 10) (by rfl), by rfl⟩
set_option maxRecDepth 100000 in
theorem tw_11 : (Jvm.Cond.selects "PancakePort" ({ cls := "PancakePort", name := "countChances", desc := "()V" } : Jvm.MethodName) ({ cls := "PancakePort", name := "countChances", desc := "()V" } : Jvm.MethodName)) ∈ mWS := List.mem_filter.mpr ⟨List.mem_of_getElem? (i := 11) (by rfl), by rfl⟩
set_option maxRecDepth 100000 in
theorem tw_12 : (Jvm.Cond.selects "PancakePort" ({ cls := "PancakePort", name := "tosserAt", desc := "(I)LPancakePort$Tosser;" } : Jvm.MethodName) ({ cls := "PancakePort", name := "tosserAt", desc := "(I)LPancakePort$Tosser;" } : Jvm.MethodName)) ∈ mWS := List.mem_filter.mpr ⟨List.mem_of_getElem? (i := 12) (by rfl), by rfl⟩
set_option maxRecDepth 100000 in
theorem tw_13 : (Jvm.Cond.selects "PancakePort" ({ cls := "PancakePort", name := "landing", desc := "(III)I" } : Jvm.MethodName) ({ cls := "PancakePort", name := "landing", desc := "(III)I" } : Jvm.MethodName)) ∈ mWS := List.mem_filter.mpr ⟨List.mem_of_getElem? (i := 13) (by rfl), by rfl⟩
set_option maxRecDepth 100000 in
theorem tw_14 : (Jvm.Cond.selects "PancakePort" ({ cls := "PancakePort", name := "addChances", desc := "(LPancakePort$Tosser;I)V" } : Jvm.MethodName) ({ cls := "PancakePort", name := "addChances", desc := "(LPancakePort$Tosser;I)V" } : Jvm.MethodName)) ∈ mWS := List.mem_filter.mpr ⟨List.mem_of_getElem? (i := 14) (by rfl), by rfl⟩
set_option maxRecDepth 100000 in
theorem tw_15 : (Jvm.Cond.selects "PancakePort" ({ cls := "PancakePort", name := "isTakenByAnother", desc := "(II)Z" } : Jvm.MethodName) ({ cls := "PancakePort", name := "isTakenByAnother", desc := "(II)Z" } : Jvm.MethodName)) ∈ mWS := List.mem_filter.mpr ⟨List.mem_of_getElem? (i := 15) (by rfl), by rfl⟩
set_option maxRecDepth 100000 in
theorem tw_16 : (Jvm.Cond.selects "PancakePort" ({ cls := "PancakePort", name := "bestAimOf", desc := "(I)I" } : Jvm.MethodName) ({ cls := "PancakePort", name := "bestAimOf", desc := "(I)I" } : Jvm.MethodName)) ∈ mWS := List.mem_filter.mpr ⟨List.mem_of_getElem? (i := 16) (by rfl), by rfl⟩
set_option maxRecDepth 100000 in
theorem tw_17 : (Jvm.Cond.selects "PancakePort" ({ cls := "PancakePort", name := "freshOf", desc := "(II)I" } : Jvm.MethodName) ({ cls := "PancakePort", name := "freshOf", desc := "(II)I" } : Jvm.MethodName)) ∈ mWS := List.mem_filter.mpr ⟨List.mem_of_getElem? (i := 17) (by rfl), by rfl⟩
set_option maxRecDepth 100000 in
theorem tw_18 : (Jvm.Cond.selects "PancakePort" ({ cls := "PancakePort", name := "crowdUnder", desc := "(III)I" } : Jvm.MethodName) ({ cls := "PancakePort", name := "crowdUnder", desc := "(III)I" } : Jvm.MethodName)) ∈ mWS := List.mem_filter.mpr ⟨List.mem_of_getElem? (i := 18) (by rfl), by rfl⟩
set_option maxRecDepth 100000 in
theorem tw_19 : (Jvm.Cond.selects "PancakePort$Seen" ({ cls := "PancakePort$Seen", name := "allows", desc := "(II)Z" } : Jvm.MethodName) ({ cls := "PancakePort$Seen", name := "allows", desc := "(II)Z" } : Jvm.MethodName)) ∈ mWS := List.mem_filter.mpr ⟨List.mem_of_getElem? (i := 19) (by rfl), by rfl⟩
set_option maxRecDepth 100000 in
theorem tw_20 : (Jvm.Cond.selects "PancakePort" ({ cls := "PancakePort", name := "isToss", desc := "(II)Z" } : Jvm.MethodName) ({ cls := "PancakePort", name := "isToss", desc := "(II)Z" } : Jvm.MethodName)) ∈ mWS := List.mem_filter.mpr ⟨List.mem_of_getElem? (i := 20) (by rfl), by rfl⟩
set_option maxRecDepth 100000 in
theorem tw_21 : (Jvm.Cond.selects "PancakePort" ({ cls := "PancakePort", name := "isCell", desc := "(I)Z" } : Jvm.MethodName) ({ cls := "PancakePort", name := "isCell", desc := "(I)Z" } : Jvm.MethodName)) ∈ mWS := List.mem_filter.mpr ⟨List.mem_of_getElem? (i := 21) (by rfl), by rfl⟩
set_option maxRecDepth 100000 in
theorem tw_22 : (Jvm.Cond.selects "PancakePort" ({ cls := "PancakePort", name := "hasPort", desc := "()Z" } : Jvm.MethodName) ({ cls := "PancakePort", name := "hasPort", desc := "()Z" } : Jvm.MethodName)) ∈ mWS := List.mem_filter.mpr ⟨List.mem_of_getElem? (i := 22) (by rfl), by rfl⟩
set_option maxRecDepth 100000 in
theorem tw_23 : (Jvm.Cond.selects "PancakePort" ({ cls := "PancakePort", name := "canLandAt", desc := "(II)Z" } : Jvm.MethodName) ({ cls := "PancakePort", name := "canLandAt", desc := "(II)Z" } : Jvm.MethodName)) ∈ mWS := List.mem_filter.mpr ⟨List.mem_of_getElem? (i := 23) (by rfl), by rfl⟩
set_option maxRecDepth 100000 in
theorem tw_24 : (Jvm.Cond.initialized "PancakePortLaw") ∈ mWS := List.mem_filter.mpr ⟨List.mem_of_getElem? (i := 24) (by rfl), by rfl⟩
set_option maxRecDepth 100000 in
theorem tw_25 : (Jvm.Cond.initialized "PancakePort") ∈ mWS := List.mem_filter.mpr ⟨List.mem_of_getElem? (i := 25) (by rfl), by rfl⟩
set_option maxRecDepth 100000 in
theorem tw_26 : (Jvm.Cond.initialized "PancakePort$Page") ∈ mWS := List.mem_filter.mpr ⟨List.mem_of_getElem? (i := 26) (by rfl), by rfl⟩
set_option maxRecDepth 100000 in
theorem tw_27 : (Jvm.Cond.initialized "PancakePort$Reading") ∈ mWS := List.mem_filter.mpr ⟨List.mem_of_getElem? (i := 27) (by rfl), by rfl⟩
set_option maxRecDepth 100000 in
theorem tw_28 : (Jvm.Cond.initialized "PancakePort$Night") ∈ mWS := List.mem_filter.mpr ⟨List.mem_of_getElem? (i := 28) (by rfl), by rfl⟩
set_option maxRecDepth 100000 in
theorem tw_29 : (Jvm.Cond.initialized "PancakePort$Seen") ∈ mWS := List.mem_filter.mpr ⟨List.mem_of_getElem? (i := 29) (by rfl), by rfl⟩
set_option maxRecDepth 100000 in
theorem tw_30 : (Jvm.Cond.initialized "PancakePort$Plan") ∈ mWS := List.mem_filter.mpr ⟨List.mem_of_getElem? (i := 30) (by rfl), by rfl⟩
set_option maxRecDepth 100000 in
theorem tw_31 : (Jvm.Cond.initialized "java/lang/String") ∈ mWS := List.mem_filter.mpr ⟨List.mem_of_getElem? (i := 31) (by rfl), by rfl⟩
set_option maxRecDepth 100000 in
theorem tw_32 : (Jvm.Cond.initialized "java/lang/StringLatin1") ∈ mWS := List.mem_filter.mpr ⟨List.mem_of_getElem? (i := 32) (by rfl), by rfl⟩
set_option maxRecDepth 100000 in
theorem tw_33 : (Jvm.Cond.initialized "java/lang/Math") ∈ mWS := List.mem_filter.mpr ⟨List.mem_of_getElem? (i := 33) (by rfl), by rfl⟩
set_option maxRecDepth 100000 in
theorem tw_34 : (Jvm.Cond.initialized "java/lang/StringUTF16") ∈ mWS := List.mem_filter.mpr ⟨List.mem_of_getElem? (i := 34) (by rfl), by rfl⟩
set_option maxRecDepth 100000 in
theorem tw_35 : (Jvm.Cond.initialized "jdk/internal/util/Preconditions") ∈ mWS := List.mem_filter.mpr ⟨List.mem_of_getElem? (i := 35) (by rfl), by rfl⟩
set_option maxRecDepth 100000 in
theorem tw_36 : (Jvm.Cond.initialized "java/lang/Character") ∈ mWS := List.mem_filter.mpr ⟨List.mem_of_getElem? (i := 36) (by rfl), by rfl⟩
set_option maxRecDepth 100000 in
theorem tw_37 : (Jvm.Cond.initialized "PancakePort$Tosser") ∈ mWS := List.mem_filter.mpr ⟨List.mem_of_getElem? (i := 37) (by rfl), by rfl⟩
set_option maxRecDepth 100000 in
theorem tw_38 : (Jvm.Cond.initialized "PancakePort$Lacy") ∈ mWS := List.mem_filter.mpr ⟨List.mem_of_getElem? (i := 38) (by rfl), by rfl⟩
set_option maxRecDepth 100000 in
theorem tw_39 : (Jvm.Cond.initialized "PancakePort$Wide") ∈ mWS := List.mem_filter.mpr ⟨List.mem_of_getElem? (i := 39) (by rfl), by rfl⟩
set_option maxRecDepth 100000 in
theorem tw_40 : (Jvm.Cond.initialized "PancakePort$Thrifty") ∈ mWS := List.mem_filter.mpr ⟨List.mem_of_getElem? (i := 40) (by rfl), by rfl⟩
set_option maxRecDepth 100000 in
theorem tw_41 : (Jvm.Cond.initialized "PancakePort$Mayor") ∈ mWS := List.mem_filter.mpr ⟨List.mem_of_getElem? (i := 41) (by rfl), by rfl⟩
set_option maxRecDepth 100000 in
theorem tw_42 : (Jvm.Cond.initialized "java/lang/Integer") ∈ mWS := List.mem_filter.mpr ⟨List.mem_of_getElem? (i := 42) (by rfl), by rfl⟩
set_option maxRecDepth 100000 in
theorem tw_43 : (Jvm.Cond.classLink "PancakePortLaw" (19 : Nat) "PancakePort") ∈ mWS := List.mem_filter.mpr ⟨List.mem_of_getElem? (i := 43) (by rfl), by rfl⟩
set_option maxRecDepth 100000 in
theorem tw_44 : (Jvm.Cond.instantiable "PancakePort" (11 : Nat)) ∈ mWS := List.mem_filter.mpr ⟨List.mem_of_getElem? (i := 44) (by rfl), by rfl⟩
set_option maxRecDepth 100000 in
theorem tw_45 : (Jvm.Cond.methodLink "PancakePortLaw" (79 : Nat) ({ cls := "PancakePort", name := "<init>", desc := "()V" } : Jvm.MethodName)) ∈ mWS := List.mem_filter.mpr ⟨List.mem_of_getElem? (i := 45) (by rfl), by rfl⟩
set_option maxRecDepth 100000 in
theorem tw_46 : (Jvm.Cond.instanceMethod ({ cls := "PancakePort", name := "<init>", desc := "()V" } : Jvm.MethodName)) ∈ mWS := List.mem_filter.mpr ⟨List.mem_of_getElem? (i := 46) (by rfl), by rfl⟩
set_option maxRecDepth 100000 in
theorem tw_47 : (Jvm.Cond.code ({ cls := "PancakePort", name := "<init>", desc := "()V" } : Jvm.MethodName) prog_1_method_1_code (1 : Nat) (Option.none : Option Jvm.ClassFile.FieldType)) ∈ mWS := List.mem_filter.mpr ⟨List.mem_of_getElem? (i := 47) (by rfl), by rfl⟩
set_option maxRecDepth 100000 in
theorem tw_48 : (Jvm.Cond.methodLink "PancakePort" (1 : Nat) ({ cls := "java/lang/Object", name := "<init>", desc := "()V" } : Jvm.MethodName)) ∈ mWS := List.mem_filter.mpr ⟨List.mem_of_getElem? (i := 48) (by rfl), by rfl⟩
set_option maxRecDepth 100000 in
theorem tw_49 : (Jvm.Cond.instanceMethod ({ cls := "java/lang/Object", name := "<init>", desc := "()V" } : Jvm.MethodName)) ∈ mWS := List.mem_filter.mpr ⟨List.mem_of_getElem? (i := 49) (by rfl), by rfl⟩
set_option maxRecDepth 100000 in
theorem tw_50 : (Jvm.Cond.code ({ cls := "java/lang/Object", name := "<init>", desc := "()V" } : Jvm.MethodName) object_method_1_code (1 : Nat) (Option.none : Option Jvm.ClassFile.FieldType)) ∈ mWS := List.mem_filter.mpr ⟨List.mem_of_getElem? (i := 50) (by rfl), by rfl⟩
set_option maxRecDepth 100000 in
theorem tw_51 : (Jvm.Cond.classLink "PancakePort" (7 : Nat) "PancakePort$Page") ∈ mWS := List.mem_filter.mpr ⟨List.mem_of_getElem? (i := 51) (by rfl), by rfl⟩
set_option maxRecDepth 100000 in
theorem tw_52 : (Jvm.Cond.instantiable "PancakePort$Page" (2 : Nat)) ∈ mWS := List.mem_filter.mpr ⟨List.mem_of_getElem? (i := 52) (by rfl), by rfl⟩
set_option maxRecDepth 100000 in
theorem tw_53 : (Jvm.Cond.methodLinkNest "PancakePort" (9 : Nat) ({ cls := "PancakePort$Page", name := "<init>", desc := "()V" } : Jvm.MethodName) "PancakePort") ∈ mNw := List.mem_filter.mpr ⟨List.mem_of_getElem? (i := 53) (by rfl), by rfl⟩
set_option maxRecDepth 100000 in
theorem tw_54 : (Jvm.Cond.instanceMethod ({ cls := "PancakePort$Page", name := "<init>", desc := "()V" } : Jvm.MethodName)) ∈ mWS := List.mem_filter.mpr ⟨List.mem_of_getElem? (i := 54) (by rfl), by rfl⟩
set_option maxRecDepth 100000 in
theorem tw_55 : (Jvm.Cond.code ({ cls := "PancakePort$Page", name := "<init>", desc := "()V" } : Jvm.MethodName) prog_5_method_1_code (1 : Nat) (Option.none : Option Jvm.ClassFile.FieldType)) ∈ mWS := List.mem_filter.mpr ⟨List.mem_of_getElem? (i := 55) (by rfl), by rfl⟩
set_option maxRecDepth 100000 in
theorem tw_56 : (Jvm.Cond.methodLink "PancakePort$Page" (3 : Nat) ({ cls := "java/lang/Object", name := "<init>", desc := "()V" } : Jvm.MethodName)) ∈ mWS := List.mem_filter.mpr ⟨List.mem_of_getElem? (i := 56) (by rfl), by rfl⟩
set_option maxRecDepth 100000 in
theorem tw_57 : (Jvm.Cond.fieldLink "PancakePort$Page" (9 : Nat) "PancakePort$Page" "codes" "[I") ∈ mWS := List.mem_filter.mpr ⟨List.mem_of_getElem? (i := 57) (by rfl), by rfl⟩
set_option maxRecDepth 100000 in
theorem tw_58 : (Jvm.Cond.fieldLink "PancakePort$Reading" (39 : Nat) "PancakePort$Page" "codes" "[I") ∈ mWS := List.mem_filter.mpr ⟨List.mem_of_getElem? (i := 58) (by rfl), by rfl⟩
set_option maxRecDepth 100000 in
theorem tw_59 : (Jvm.Cond.fieldLink "PancakePort$Page" (15 : Nat) "PancakePort$Page" "length" "I") ∈ mWS := List.mem_filter.mpr ⟨List.mem_of_getElem? (i := 59) (by rfl), by rfl⟩
set_option maxRecDepth 100000 in
theorem tw_60 : (Jvm.Cond.fieldLink "PancakePort" (50 : Nat) "PancakePort$Page" "length" "I") ∈ mWS := List.mem_filter.mpr ⟨List.mem_of_getElem? (i := 60) (by rfl), by rfl⟩
set_option maxRecDepth 100000 in
theorem tw_61 : (Jvm.Cond.fieldLink "PancakePort$Reading" (34 : Nat) "PancakePort$Page" "length" "I") ∈ mWS := List.mem_filter.mpr ⟨List.mem_of_getElem? (i := 61) (by rfl), by rfl⟩
set_option maxRecDepth 100000 in
theorem tw_62 : (Jvm.Cond.laysFinal "PancakePort$Page" "PancakePort$Page" "codes" "[I") ∈ mWS := List.mem_filter.mpr ⟨List.mem_of_getElem? (i := 62) (by rfl), by rfl⟩
set_option maxRecDepth 100000 in
theorem tw_64 : (Jvm.Cond.lays "PancakePort$Page" "PancakePort$Page" "length" "I") ∈ mWS := List.mem_filter.mpr ⟨List.mem_of_getElem? (i := 64) (by rfl), by rfl⟩
set_option maxRecDepth 100000 in
theorem tw_66 : (Jvm.Cond.superclass "PancakePort$Page" "java/lang/Object") ∈ mWS := List.mem_filter.mpr ⟨List.mem_of_getElem? (i := 66) (by rfl), by rfl⟩
set_option maxRecDepth 100000 in
theorem tw_67 : (Jvm.Cond.arrayClass Jvm.ClassFile.FieldType.int) ∈ mWS := List.mem_filter.mpr ⟨List.mem_of_getElem? (i := 67) (by rfl), by rfl⟩
set_option maxRecDepth 100000 in
theorem tw_68 : (Jvm.Cond.classLink "PancakePort" (16 : Nat) "PancakePort$Reading") ∈ mWS := List.mem_filter.mpr ⟨List.mem_of_getElem? (i := 68) (by rfl), by rfl⟩
set_option maxRecDepth 100000 in
theorem tw_69 : (Jvm.Cond.instantiable "PancakePort$Reading" (8 : Nat)) ∈ mWS := List.mem_filter.mpr ⟨List.mem_of_getElem? (i := 69) (by rfl), by rfl⟩
set_option maxRecDepth 100000 in
theorem tw_70 : (Jvm.Cond.methodLinkNest "PancakePort" (18 : Nat) ({ cls := "PancakePort$Reading", name := "<init>", desc := "()V" } : Jvm.MethodName) "PancakePort") ∈ mNw := List.mem_filter.mpr ⟨List.mem_of_getElem? (i := 70) (by rfl), by rfl⟩
set_option maxRecDepth 100000 in
theorem tw_71 : (Jvm.Cond.instanceMethod ({ cls := "PancakePort$Reading", name := "<init>", desc := "()V" } : Jvm.MethodName)) ∈ mWS := List.mem_filter.mpr ⟨List.mem_of_getElem? (i := 71) (by rfl), by rfl⟩
set_option maxRecDepth 100000 in
theorem tw_72 : (Jvm.Cond.code ({ cls := "PancakePort$Reading", name := "<init>", desc := "()V" } : Jvm.MethodName) prog_7_method_1_code (1 : Nat) (Option.none : Option Jvm.ClassFile.FieldType)) ∈ mWS := List.mem_filter.mpr ⟨List.mem_of_getElem? (i := 72) (by rfl), by rfl⟩
set_option maxRecDepth 100000 in
theorem tw_73 : (Jvm.Cond.methodLink "PancakePort$Reading" (3 : Nat) ({ cls := "java/lang/Object", name := "<init>", desc := "()V" } : Jvm.MethodName)) ∈ mWS := List.mem_filter.mpr ⟨List.mem_of_getElem? (i := 73) (by rfl), by rfl⟩
set_option maxRecDepth 100000 in
theorem tw_74 : (Jvm.Cond.fieldLink "PancakePort$Reading" (9 : Nat) "PancakePort$Reading" "cells" "[I") ∈ mWS := List.mem_filter.mpr ⟨List.mem_of_getElem? (i := 74) (by rfl), by rfl⟩
set_option maxRecDepth 100000 in
theorem tw_75 : (Jvm.Cond.fieldLink "PancakePort$Night" (37 : Nat) "PancakePort$Reading" "cells" "[I") ∈ mWS := List.mem_filter.mpr ⟨List.mem_of_getElem? (i := 75) (by rfl), by rfl⟩
set_option maxRecDepth 100000 in
theorem tw_76 : (Jvm.Cond.fieldLink "PancakePort$Reading" (15 : Nat) "PancakePort$Reading" "kinds" "[I") ∈ mWS := List.mem_filter.mpr ⟨List.mem_of_getElem? (i := 76) (by rfl), by rfl⟩
set_option maxRecDepth 100000 in
theorem tw_77 : (Jvm.Cond.fieldLink "PancakePort" (271 : Nat) "PancakePort$Reading" "kinds" "[I") ∈ mWS := List.mem_filter.mpr ⟨List.mem_of_getElem? (i := 77) (by rfl), by rfl⟩
set_option maxRecDepth 100000 in
theorem tw_78 : (Jvm.Cond.fieldLink "PancakePort$Reading" (18 : Nat) "PancakePort$Reading" "souths" "[I") ∈ mWS := List.mem_filter.mpr ⟨List.mem_of_getElem? (i := 78) (by rfl), by rfl⟩
set_option maxRecDepth 100000 in
theorem tw_79 : (Jvm.Cond.fieldLink "PancakePort$Night" (44 : Nat) "PancakePort$Reading" "souths" "[I") ∈ mWS := List.mem_filter.mpr ⟨List.mem_of_getElem? (i := 79) (by rfl), by rfl⟩
set_option maxRecDepth 100000 in
theorem tw_80 : (Jvm.Cond.fieldLink "PancakePort$Reading" (21 : Nat) "PancakePort$Reading" "easts" "[I") ∈ mWS := List.mem_filter.mpr ⟨List.mem_of_getElem? (i := 80) (by rfl), by rfl⟩
set_option maxRecDepth 100000 in
theorem tw_81 : (Jvm.Cond.fieldLink "PancakePort$Night" (45 : Nat) "PancakePort$Reading" "easts" "[I") ∈ mWS := List.mem_filter.mpr ⟨List.mem_of_getElem? (i := 81) (by rfl), by rfl⟩
set_option maxRecDepth 100000 in
theorem tw_82 : (Jvm.Cond.fieldLink "PancakePort$Reading" (24 : Nat) "PancakePort$Reading" "sleepers" "I") ∈ mWS := List.mem_filter.mpr ⟨List.mem_of_getElem? (i := 82) (by rfl), by rfl⟩
set_option maxRecDepth 100000 in
theorem tw_83 : (Jvm.Cond.fieldLink "PancakePort" (262 : Nat) "PancakePort$Reading" "sleepers" "I") ∈ mWS := List.mem_filter.mpr ⟨List.mem_of_getElem? (i := 83) (by rfl), by rfl⟩
set_option maxRecDepth 100000 in
theorem tw_84 : (Jvm.Cond.fieldLink "PancakePort$Reading" (28 : Nat) "PancakePort$Reading" "tossers" "I") ∈ mWS := List.mem_filter.mpr ⟨List.mem_of_getElem? (i := 84) (by rfl), by rfl⟩
set_option maxRecDepth 100000 in
theorem tw_85 : (Jvm.Cond.fieldLink "PancakePort" (265 : Nat) "PancakePort$Reading" "tossers" "I") ∈ mWS := List.mem_filter.mpr ⟨List.mem_of_getElem? (i := 85) (by rfl), by rfl⟩
set_option maxRecDepth 100000 in
theorem tw_86 : (Jvm.Cond.fieldLink "PancakePort$Reading" (71 : Nat) "PancakePort$Reading" "row" "I") ∈ mWS := List.mem_filter.mpr ⟨List.mem_of_getElem? (i := 86) (by rfl), by rfl⟩
set_option maxRecDepth 100000 in
theorem tw_87 : (Jvm.Cond.fieldLink "PancakePort$Reading" (31 : Nat) "PancakePort$Reading" "due" "I") ∈ mWS := List.mem_filter.mpr ⟨List.mem_of_getElem? (i := 87) (by rfl), by rfl⟩
set_option maxRecDepth 100000 in
theorem tw_88 : (Jvm.Cond.laysFinal "PancakePort$Reading" "PancakePort$Reading" "cells" "[I") ∈ mWS := List.mem_filter.mpr ⟨List.mem_of_getElem? (i := 88) (by rfl), by rfl⟩
set_option maxRecDepth 100000 in
theorem tw_90 : (Jvm.Cond.laysFinal "PancakePort$Reading" "PancakePort$Reading" "kinds" "[I") ∈ mWS := List.mem_filter.mpr ⟨List.mem_of_getElem? (i := 90) (by rfl), by rfl⟩
set_option maxRecDepth 100000 in
theorem tw_92 : (Jvm.Cond.laysFinal "PancakePort$Reading" "PancakePort$Reading" "souths" "[I") ∈ mWS := List.mem_filter.mpr ⟨List.mem_of_getElem? (i := 92) (by rfl), by rfl⟩
set_option maxRecDepth 100000 in
theorem tw_94 : (Jvm.Cond.laysFinal "PancakePort$Reading" "PancakePort$Reading" "easts" "[I") ∈ mWS := List.mem_filter.mpr ⟨List.mem_of_getElem? (i := 94) (by rfl), by rfl⟩
set_option maxRecDepth 100000 in
theorem tw_96 : (Jvm.Cond.lays "PancakePort$Reading" "PancakePort$Reading" "sleepers" "I") ∈ mWS := List.mem_filter.mpr ⟨List.mem_of_getElem? (i := 96) (by rfl), by rfl⟩
set_option maxRecDepth 100000 in
theorem tw_98 : (Jvm.Cond.lays "PancakePort$Reading" "PancakePort$Reading" "tossers" "I") ∈ mWS := List.mem_filter.mpr ⟨List.mem_of_getElem? (i := 98) (by rfl), by rfl⟩
set_option maxRecDepth 100000 in
theorem tw_100 : (Jvm.Cond.lays "PancakePort$Reading" "PancakePort$Reading" "row" "I") ∈ mWS := List.mem_filter.mpr ⟨List.mem_of_getElem? (i := 100) (by rfl), by rfl⟩
set_option maxRecDepth 100000 in
theorem tw_102 : (Jvm.Cond.lays "PancakePort$Reading" "PancakePort$Reading" "due" "I") ∈ mWS := List.mem_filter.mpr ⟨List.mem_of_getElem? (i := 102) (by rfl), by rfl⟩
set_option maxRecDepth 100000 in
theorem tw_104 : (Jvm.Cond.superclass "PancakePort$Reading" "java/lang/Object") ∈ mWS := List.mem_filter.mpr ⟨List.mem_of_getElem? (i := 104) (by rfl), by rfl⟩
set_option maxRecDepth 100000 in
theorem tw_105 : (Jvm.Cond.classLink "PancakePort" (23 : Nat) "PancakePort$Tosser") ∈ mWS := List.mem_filter.mpr ⟨List.mem_of_getElem? (i := 105) (by rfl), by rfl⟩
set_option maxRecDepth 100000 in
theorem tw_107 : (Jvm.Cond.classLink "PancakePort" (29 : Nat) "PancakePort$Night") ∈ mWS := List.mem_filter.mpr ⟨List.mem_of_getElem? (i := 107) (by rfl), by rfl⟩
set_option maxRecDepth 100000 in
theorem tw_108 : (Jvm.Cond.instantiable "PancakePort$Night" (12 : Nat)) ∈ mWS := List.mem_filter.mpr ⟨List.mem_of_getElem? (i := 108) (by rfl), by rfl⟩
set_option maxRecDepth 100000 in
theorem tw_109 : (Jvm.Cond.methodLinkNest "PancakePort" (31 : Nat) ({ cls := "PancakePort$Night", name := "<init>", desc := "()V" } : Jvm.MethodName) "PancakePort") ∈ mNw := List.mem_filter.mpr ⟨List.mem_of_getElem? (i := 109) (by rfl), by rfl⟩
set_option maxRecDepth 100000 in
theorem tw_110 : (Jvm.Cond.instanceMethod ({ cls := "PancakePort$Night", name := "<init>", desc := "()V" } : Jvm.MethodName)) ∈ mWS := List.mem_filter.mpr ⟨List.mem_of_getElem? (i := 110) (by rfl), by rfl⟩
set_option maxRecDepth 100000 in
theorem tw_111 : (Jvm.Cond.code ({ cls := "PancakePort$Night", name := "<init>", desc := "()V" } : Jvm.MethodName) prog_4_method_1_code (1 : Nat) (Option.none : Option Jvm.ClassFile.FieldType)) ∈ mWS := List.mem_filter.mpr ⟨List.mem_of_getElem? (i := 111) (by rfl), by rfl⟩
set_option maxRecDepth 100000 in
theorem tw_112 : (Jvm.Cond.methodLink "PancakePort$Night" (3 : Nat) ({ cls := "java/lang/Object", name := "<init>", desc := "()V" } : Jvm.MethodName)) ∈ mWS := List.mem_filter.mpr ⟨List.mem_of_getElem? (i := 112) (by rfl), by rfl⟩
set_option maxRecDepth 100000 in
theorem tw_113 : (Jvm.Cond.classLink "PancakePort$Night" (30 : Nat) "PancakePort$Seen") ∈ mWS := List.mem_filter.mpr ⟨List.mem_of_getElem? (i := 113) (by rfl), by rfl⟩
set_option maxRecDepth 100000 in
theorem tw_114 : (Jvm.Cond.instantiable "PancakePort$Seen" (4 : Nat)) ∈ mWS := List.mem_filter.mpr ⟨List.mem_of_getElem? (i := 114) (by rfl), by rfl⟩
set_option maxRecDepth 100000 in
theorem tw_115 : (Jvm.Cond.methodLinkNest "PancakePort$Night" (32 : Nat) ({ cls := "PancakePort$Seen", name := "<init>", desc := "()V" } : Jvm.MethodName) "PancakePort") ∈ mNw := List.mem_filter.mpr ⟨List.mem_of_getElem? (i := 115) (by rfl), by rfl⟩
set_option maxRecDepth 100000 in
theorem tw_116 : (Jvm.Cond.instanceMethod ({ cls := "PancakePort$Seen", name := "<init>", desc := "()V" } : Jvm.MethodName)) ∈ mWS := List.mem_filter.mpr ⟨List.mem_of_getElem? (i := 116) (by rfl), by rfl⟩
set_option maxRecDepth 100000 in
theorem tw_117 : (Jvm.Cond.code ({ cls := "PancakePort$Seen", name := "<init>", desc := "()V" } : Jvm.MethodName) prog_8_method_1_code (1 : Nat) (Option.none : Option Jvm.ClassFile.FieldType)) ∈ mWS := List.mem_filter.mpr ⟨List.mem_of_getElem? (i := 117) (by rfl), by rfl⟩
set_option maxRecDepth 100000 in
theorem tw_118 : (Jvm.Cond.methodLink "PancakePort$Seen" (3 : Nat) ({ cls := "java/lang/Object", name := "<init>", desc := "()V" } : Jvm.MethodName)) ∈ mWS := List.mem_filter.mpr ⟨List.mem_of_getElem? (i := 118) (by rfl), by rfl⟩
set_option maxRecDepth 100000 in
theorem tw_119 : (Jvm.Cond.fieldLink "PancakePort$Seen" (9 : Nat) "PancakePort$Seen" "throwers" "[I") ∈ mWS := List.mem_filter.mpr ⟨List.mem_of_getElem? (i := 119) (by rfl), by rfl⟩
set_option maxRecDepth 100000 in
theorem tw_120 : (Jvm.Cond.fieldLink "PancakePort$Seen" (15 : Nat) "PancakePort$Seen" "aims" "[I") ∈ mWS := List.mem_filter.mpr ⟨List.mem_of_getElem? (i := 120) (by rfl), by rfl⟩
set_option maxRecDepth 100000 in
theorem tw_121 : (Jvm.Cond.fieldLink "PancakePort$Seen" (18 : Nat) "PancakePort$Seen" "columns" "[I") ∈ mWS := List.mem_filter.mpr ⟨List.mem_of_getElem? (i := 121) (by rfl), by rfl⟩
set_option maxRecDepth 100000 in
theorem tw_122 : (Jvm.Cond.fieldLink "PancakePort$Night" (50 : Nat) "PancakePort$Seen" "count" "I") ∈ mWS := List.mem_filter.mpr ⟨List.mem_of_getElem? (i := 122) (by rfl), by rfl⟩
set_option maxRecDepth 100000 in
theorem tw_123 : (Jvm.Cond.fieldLink "PancakePort$Seen" (21 : Nat) "PancakePort$Seen" "count" "I") ∈ mWS := List.mem_filter.mpr ⟨List.mem_of_getElem? (i := 123) (by rfl), by rfl⟩
set_option maxRecDepth 100000 in
theorem tw_124 : (Jvm.Cond.fieldLink "PancakePort" (206 : Nat) "PancakePort$Seen" "count" "I") ∈ mWS := List.mem_filter.mpr ⟨List.mem_of_getElem? (i := 124) (by rfl), by rfl⟩
set_option maxRecDepth 100000 in
theorem tw_125 : (Jvm.Cond.laysFinal "PancakePort$Seen" "PancakePort$Seen" "throwers" "[I") ∈ mWS := List.mem_filter.mpr ⟨List.mem_of_getElem? (i := 125) (by rfl), by rfl⟩
set_option maxRecDepth 100000 in
theorem tw_127 : (Jvm.Cond.laysFinal "PancakePort$Seen" "PancakePort$Seen" "aims" "[I") ∈ mWS := List.mem_filter.mpr ⟨List.mem_of_getElem? (i := 127) (by rfl), by rfl⟩
set_option maxRecDepth 100000 in
theorem tw_129 : (Jvm.Cond.laysFinal "PancakePort$Seen" "PancakePort$Seen" "columns" "[I") ∈ mWS := List.mem_filter.mpr ⟨List.mem_of_getElem? (i := 129) (by rfl), by rfl⟩
set_option maxRecDepth 100000 in
theorem tw_131 : (Jvm.Cond.lays "PancakePort$Seen" "PancakePort$Seen" "count" "I") ∈ mWS := List.mem_filter.mpr ⟨List.mem_of_getElem? (i := 131) (by rfl), by rfl⟩
set_option maxRecDepth 100000 in
theorem tw_133 : (Jvm.Cond.superclass "PancakePort$Seen" "java/lang/Object") ∈ mWS := List.mem_filter.mpr ⟨List.mem_of_getElem? (i := 133) (by rfl), by rfl⟩
set_option maxRecDepth 100000 in
theorem tw_134 : (Jvm.Cond.fieldLink "PancakePort$Night" (9 : Nat) "PancakePort$Night" "cells" "[I") ∈ mWS := List.mem_filter.mpr ⟨List.mem_of_getElem? (i := 134) (by rfl), by rfl⟩
set_option maxRecDepth 100000 in
theorem tw_135 : (Jvm.Cond.fieldLink "PancakePort" (79 : Nat) "PancakePort$Night" "cells" "[I") ∈ mWS := List.mem_filter.mpr ⟨List.mem_of_getElem? (i := 135) (by rfl), by rfl⟩
set_option maxRecDepth 100000 in
theorem tw_136 : (Jvm.Cond.fieldLink "PancakePort$Night" (15 : Nat) "PancakePort$Night" "breakfasts" "[I") ∈ mWS := List.mem_filter.mpr ⟨List.mem_of_getElem? (i := 136) (by rfl), by rfl⟩
set_option maxRecDepth 100000 in
theorem tw_137 : (Jvm.Cond.fieldLink "PancakePort" (89 : Nat) "PancakePort$Night" "breakfasts" "[I") ∈ mWS := List.mem_filter.mpr ⟨List.mem_of_getElem? (i := 137) (by rfl), by rfl⟩
set_option maxRecDepth 100000 in
theorem tw_138 : (Jvm.Cond.fieldLink "PancakePort$Night" (18 : Nat) "PancakePort$Night" "colds" "[I") ∈ mWS := List.mem_filter.mpr ⟨List.mem_of_getElem? (i := 138) (by rfl), by rfl⟩
set_option maxRecDepth 100000 in
theorem tw_139 : (Jvm.Cond.fieldLink "PancakePort" (92 : Nat) "PancakePort$Night" "colds" "[I") ∈ mWS := List.mem_filter.mpr ⟨List.mem_of_getElem? (i := 139) (by rfl), by rfl⟩
set_option maxRecDepth 100000 in
theorem tw_140 : (Jvm.Cond.fieldLink "PancakePort$Night" (21 : Nat) "PancakePort$Night" "souths" "[I") ∈ mWS := List.mem_filter.mpr ⟨List.mem_of_getElem? (i := 140) (by rfl), by rfl⟩
set_option maxRecDepth 100000 in
theorem tw_141 : (Jvm.Cond.fieldLink "PancakePort" (107 : Nat) "PancakePort$Night" "souths" "[I") ∈ mWS := List.mem_filter.mpr ⟨List.mem_of_getElem? (i := 141) (by rfl), by rfl⟩
set_option maxRecDepth 100000 in
theorem tw_142 : (Jvm.Cond.fieldLink "PancakePort$Night" (24 : Nat) "PancakePort$Night" "easts" "[I") ∈ mWS := List.mem_filter.mpr ⟨List.mem_of_getElem? (i := 142) (by rfl), by rfl⟩
set_option maxRecDepth 100000 in
theorem tw_143 : (Jvm.Cond.fieldLink "PancakePort" (110 : Nat) "PancakePort$Night" "easts" "[I") ∈ mWS := List.mem_filter.mpr ⟨List.mem_of_getElem? (i := 143) (by rfl), by rfl⟩
set_option maxRecDepth 100000 in
theorem tw_144 : (Jvm.Cond.fieldLink "PancakePort$Night" (27 : Nat) "PancakePort$Night" "thrown" "[I") ∈ mWS := List.mem_filter.mpr ⟨List.mem_of_getElem? (i := 144) (by rfl), by rfl⟩
set_option maxRecDepth 100000 in
theorem tw_145 : (Jvm.Cond.fieldLink "PancakePort" (135 : Nat) "PancakePort$Night" "thrown" "[I") ∈ mWS := List.mem_filter.mpr ⟨List.mem_of_getElem? (i := 145) (by rfl), by rfl⟩
set_option maxRecDepth 100000 in
theorem tw_146 : (Jvm.Cond.fieldLink "PancakePort$Night" (33 : Nat) "PancakePort$Night" "seen" "LPancakePort$Seen;") ∈ mWS := List.mem_filter.mpr ⟨List.mem_of_getElem? (i := 146) (by rfl), by rfl⟩
set_option maxRecDepth 100000 in
theorem tw_147 : (Jvm.Cond.fieldLink "PancakePort" (123 : Nat) "PancakePort$Night" "seen" "LPancakePort$Seen;") ∈ mWS := List.mem_filter.mpr ⟨List.mem_of_getElem? (i := 147) (by rfl), by rfl⟩
set_option maxRecDepth 100000 in
theorem tw_148 : (Jvm.Cond.fieldLink "PancakePort$Night" (54 : Nat) "PancakePort$Night" "covered" "I") ∈ mWS := List.mem_filter.mpr ⟨List.mem_of_getElem? (i := 148) (by rfl), by rfl⟩
set_option maxRecDepth 100000 in
theorem tw_149 : (Jvm.Cond.fieldLink "PancakePort" (86 : Nat) "PancakePort$Night" "covered" "I") ∈ mWS := List.mem_filter.mpr ⟨List.mem_of_getElem? (i := 149) (by rfl), by rfl⟩
set_option maxRecDepth 100000 in
theorem tw_150 : (Jvm.Cond.fieldLink "PancakePort$Night" (57 : Nat) "PancakePort$Night" "wind" "I") ∈ mWS := List.mem_filter.mpr ⟨List.mem_of_getElem? (i := 150) (by rfl), by rfl⟩
set_option maxRecDepth 100000 in
theorem tw_151 : (Jvm.Cond.fieldLink "PancakePort" (146 : Nat) "PancakePort$Night" "wind" "I") ∈ mWS := List.mem_filter.mpr ⟨List.mem_of_getElem? (i := 151) (by rfl), by rfl⟩
set_option maxRecDepth 100000 in
theorem tw_152 : (Jvm.Cond.fieldLink "PancakePort$Night" (60 : Nat) "PancakePort$Night" "batter" "I") ∈ mWS := List.mem_filter.mpr ⟨List.mem_of_getElem? (i := 152) (by rfl), by rfl⟩
set_option maxRecDepth 100000 in
theorem tw_153 : (Jvm.Cond.fieldLink "PancakePort" (159 : Nat) "PancakePort$Night" "batter" "I") ∈ mWS := List.mem_filter.mpr ⟨List.mem_of_getElem? (i := 153) (by rfl), by rfl⟩
set_option maxRecDepth 100000 in
theorem tw_154 : (Jvm.Cond.fieldLink "PancakePort$Night" (63 : Nat) "PancakePort$Night" "mornings" "I") ∈ mWS := List.mem_filter.mpr ⟨List.mem_of_getElem? (i := 154) (by rfl), by rfl⟩
set_option maxRecDepth 100000 in
theorem tw_155 : (Jvm.Cond.fieldLink "PancakePort" (176 : Nat) "PancakePort$Night" "mornings" "I") ∈ mWS := List.mem_filter.mpr ⟨List.mem_of_getElem? (i := 155) (by rfl), by rfl⟩
set_option maxRecDepth 100000 in
theorem tw_156 : (Jvm.Cond.fieldLink "PancakePort$Night" (66 : Nat) "PancakePort$Night" "tosses" "I") ∈ mWS := List.mem_filter.mpr ⟨List.mem_of_getElem? (i := 156) (by rfl), by rfl⟩
set_option maxRecDepth 100000 in
theorem tw_157 : (Jvm.Cond.fieldLink "PancakePort" (161 : Nat) "PancakePort$Night" "tosses" "I") ∈ mWS := List.mem_filter.mpr ⟨List.mem_of_getElem? (i := 157) (by rfl), by rfl⟩
set_option maxRecDepth 100000 in
theorem tw_158 : (Jvm.Cond.laysFinal "PancakePort$Night" "PancakePort$Night" "cells" "[I") ∈ mWS := List.mem_filter.mpr ⟨List.mem_of_getElem? (i := 158) (by rfl), by rfl⟩
set_option maxRecDepth 100000 in
theorem tw_160 : (Jvm.Cond.laysFinal "PancakePort$Night" "PancakePort$Night" "breakfasts" "[I") ∈ mWS := List.mem_filter.mpr ⟨List.mem_of_getElem? (i := 160) (by rfl), by rfl⟩
set_option maxRecDepth 100000 in
theorem tw_162 : (Jvm.Cond.laysFinal "PancakePort$Night" "PancakePort$Night" "colds" "[I") ∈ mWS := List.mem_filter.mpr ⟨List.mem_of_getElem? (i := 162) (by rfl), by rfl⟩
set_option maxRecDepth 100000 in
theorem tw_164 : (Jvm.Cond.laysFinal "PancakePort$Night" "PancakePort$Night" "souths" "[I") ∈ mWS := List.mem_filter.mpr ⟨List.mem_of_getElem? (i := 164) (by rfl), by rfl⟩
set_option maxRecDepth 100000 in
theorem tw_166 : (Jvm.Cond.laysFinal "PancakePort$Night" "PancakePort$Night" "easts" "[I") ∈ mWS := List.mem_filter.mpr ⟨List.mem_of_getElem? (i := 166) (by rfl), by rfl⟩
set_option maxRecDepth 100000 in
theorem tw_168 : (Jvm.Cond.laysFinal "PancakePort$Night" "PancakePort$Night" "thrown" "[I") ∈ mWS := List.mem_filter.mpr ⟨List.mem_of_getElem? (i := 168) (by rfl), by rfl⟩
set_option maxRecDepth 100000 in
theorem tw_170 : (Jvm.Cond.laysFinal "PancakePort$Night" "PancakePort$Night" "seen" "LPancakePort$Seen;") ∈ mWS := List.mem_filter.mpr ⟨List.mem_of_getElem? (i := 170) (by rfl), by rfl⟩
set_option maxRecDepth 100000 in
theorem tw_172 : (Jvm.Cond.lays "PancakePort$Night" "PancakePort$Night" "covered" "I") ∈ mWS := List.mem_filter.mpr ⟨List.mem_of_getElem? (i := 172) (by rfl), by rfl⟩
set_option maxRecDepth 100000 in
theorem tw_174 : (Jvm.Cond.lays "PancakePort$Night" "PancakePort$Night" "wind" "I") ∈ mWS := List.mem_filter.mpr ⟨List.mem_of_getElem? (i := 174) (by rfl), by rfl⟩
set_option maxRecDepth 100000 in
theorem tw_176 : (Jvm.Cond.lays "PancakePort$Night" "PancakePort$Night" "batter" "I") ∈ mWS := List.mem_filter.mpr ⟨List.mem_of_getElem? (i := 176) (by rfl), by rfl⟩
set_option maxRecDepth 100000 in
theorem tw_178 : (Jvm.Cond.lays "PancakePort$Night" "PancakePort$Night" "mornings" "I") ∈ mWS := List.mem_filter.mpr ⟨List.mem_of_getElem? (i := 178) (by rfl), by rfl⟩
set_option maxRecDepth 100000 in
theorem tw_180 : (Jvm.Cond.lays "PancakePort$Night" "PancakePort$Night" "tosses" "I") ∈ mWS := List.mem_filter.mpr ⟨List.mem_of_getElem? (i := 180) (by rfl), by rfl⟩
set_option maxRecDepth 100000 in
theorem tw_182 : (Jvm.Cond.superclass "PancakePort$Night" "java/lang/Object") ∈ mWS := List.mem_filter.mpr ⟨List.mem_of_getElem? (i := 182) (by rfl), by rfl⟩
set_option maxRecDepth 100000 in
theorem tw_183 : (Jvm.Cond.classLink "PancakePort" (39 : Nat) "PancakePort$Plan") ∈ mWS := List.mem_filter.mpr ⟨List.mem_of_getElem? (i := 183) (by rfl), by rfl⟩
set_option maxRecDepth 100000 in
theorem tw_184 : (Jvm.Cond.instantiable "PancakePort$Plan" (7 : Nat)) ∈ mWS := List.mem_filter.mpr ⟨List.mem_of_getElem? (i := 184) (by rfl), by rfl⟩
set_option maxRecDepth 100000 in
theorem tw_185 : (Jvm.Cond.methodLinkNest "PancakePort" (41 : Nat) ({ cls := "PancakePort$Plan", name := "<init>", desc := "()V" } : Jvm.MethodName) "PancakePort") ∈ mNw := List.mem_filter.mpr ⟨List.mem_of_getElem? (i := 185) (by rfl), by rfl⟩
set_option maxRecDepth 100000 in
theorem tw_186 : (Jvm.Cond.instanceMethod ({ cls := "PancakePort$Plan", name := "<init>", desc := "()V" } : Jvm.MethodName)) ∈ mWS := List.mem_filter.mpr ⟨List.mem_of_getElem? (i := 186) (by rfl), by rfl⟩
set_option maxRecDepth 100000 in
theorem tw_187 : (Jvm.Cond.code ({ cls := "PancakePort$Plan", name := "<init>", desc := "()V" } : Jvm.MethodName) prog_6_method_1_code (1 : Nat) (Option.none : Option Jvm.ClassFile.FieldType)) ∈ mWS := List.mem_filter.mpr ⟨List.mem_of_getElem? (i := 187) (by rfl), by rfl⟩
set_option maxRecDepth 100000 in
theorem tw_188 : (Jvm.Cond.methodLink "PancakePort$Plan" (3 : Nat) ({ cls := "java/lang/Object", name := "<init>", desc := "()V" } : Jvm.MethodName)) ∈ mWS := List.mem_filter.mpr ⟨List.mem_of_getElem? (i := 188) (by rfl), by rfl⟩
set_option maxRecDepth 100000 in
theorem tw_189 : (Jvm.Cond.fieldLink "PancakePort$Plan" (9 : Nat) "PancakePort$Plan" "crowds" "[I") ∈ mWS := List.mem_filter.mpr ⟨List.mem_of_getElem? (i := 189) (by rfl), by rfl⟩
set_option maxRecDepth 100000 in
theorem tw_190 : (Jvm.Cond.fieldLink "PancakePort$Plan" (15 : Nat) "PancakePort$Plan" "prices" "[I") ∈ mWS := List.mem_filter.mpr ⟨List.mem_of_getElem? (i := 190) (by rfl), by rfl⟩
set_option maxRecDepth 100000 in
theorem tw_191 : (Jvm.Cond.fieldLink "PancakePort$Plan" (18 : Nat) "PancakePort$Plan" "cheapest" "[I") ∈ mWS := List.mem_filter.mpr ⟨List.mem_of_getElem? (i := 191) (by rfl), by rfl⟩
set_option maxRecDepth 100000 in
theorem tw_192 : (Jvm.Cond.fieldLink "PancakePort$Plan" (21 : Nat) "PancakePort$Plan" "least" "[I") ∈ mWS := List.mem_filter.mpr ⟨List.mem_of_getElem? (i := 192) (by rfl), by rfl⟩
set_option maxRecDepth 100000 in
theorem tw_193 : (Jvm.Cond.fieldLink "PancakePort$Plan" (24 : Nat) "PancakePort$Plan" "chosen" "[I") ∈ mWS := List.mem_filter.mpr ⟨List.mem_of_getElem? (i := 193) (by rfl), by rfl⟩
set_option maxRecDepth 100000 in
theorem tw_194 : (Jvm.Cond.laysFinal "PancakePort$Plan" "PancakePort$Plan" "crowds" "[I") ∈ mWS := List.mem_filter.mpr ⟨List.mem_of_getElem? (i := 194) (by rfl), by rfl⟩
set_option maxRecDepth 100000 in
theorem tw_196 : (Jvm.Cond.laysFinal "PancakePort$Plan" "PancakePort$Plan" "prices" "[I") ∈ mWS := List.mem_filter.mpr ⟨List.mem_of_getElem? (i := 196) (by rfl), by rfl⟩
set_option maxRecDepth 100000 in
theorem tw_198 : (Jvm.Cond.laysFinal "PancakePort$Plan" "PancakePort$Plan" "cheapest" "[I") ∈ mWS := List.mem_filter.mpr ⟨List.mem_of_getElem? (i := 198) (by rfl), by rfl⟩
set_option maxRecDepth 100000 in
theorem tw_200 : (Jvm.Cond.laysFinal "PancakePort$Plan" "PancakePort$Plan" "least" "[I") ∈ mWS := List.mem_filter.mpr ⟨List.mem_of_getElem? (i := 200) (by rfl), by rfl⟩
set_option maxRecDepth 100000 in
theorem tw_202 : (Jvm.Cond.laysFinal "PancakePort$Plan" "PancakePort$Plan" "chosen" "[I") ∈ mWS := List.mem_filter.mpr ⟨List.mem_of_getElem? (i := 202) (by rfl), by rfl⟩
set_option maxRecDepth 100000 in
theorem tw_204 : (Jvm.Cond.lays "PancakePort$Plan" "PancakePort$Plan" "chosenCount" "I") ∈ mWS := List.mem_filter.mpr ⟨List.mem_of_getElem? (i := 204) (by rfl), by rfl⟩
set_option maxRecDepth 100000 in
theorem tw_206 : (Jvm.Cond.lays "PancakePort$Plan" "PancakePort$Plan" "price" "I") ∈ mWS := List.mem_filter.mpr ⟨List.mem_of_getElem? (i := 206) (by rfl), by rfl⟩
set_option maxRecDepth 100000 in
theorem tw_208 : (Jvm.Cond.superclass "PancakePort$Plan" "java/lang/Object") ∈ mWS := List.mem_filter.mpr ⟨List.mem_of_getElem? (i := 208) (by rfl), by rfl⟩
set_option maxRecDepth 100000 in
theorem tw_209 : (Jvm.Cond.fieldLink "PancakePort" (10 : Nat) "PancakePort" "page" "LPancakePort$Page;") ∈ mWS := List.mem_filter.mpr ⟨List.mem_of_getElem? (i := 209) (by rfl), by rfl⟩
set_option maxRecDepth 100000 in
theorem tw_210 : (Jvm.Cond.fieldLink "PancakePort" (19 : Nat) "PancakePort" "reading" "LPancakePort$Reading;") ∈ mWS := List.mem_filter.mpr ⟨List.mem_of_getElem? (i := 210) (by rfl), by rfl⟩
set_option maxRecDepth 100000 in
theorem tw_211 : (Jvm.Cond.fieldLink "PancakePort" (25 : Nat) "PancakePort" "tossers" "[LPancakePort$Tosser;") ∈ mWS := List.mem_filter.mpr ⟨List.mem_of_getElem? (i := 211) (by rfl), by rfl⟩
set_option maxRecDepth 100000 in
theorem tw_212 : (Jvm.Cond.fieldLink "PancakePort" (32 : Nat) "PancakePort" "now" "LPancakePort$Night;") ∈ mWS := List.mem_filter.mpr ⟨List.mem_of_getElem? (i := 212) (by rfl), by rfl⟩
set_option maxRecDepth 100000 in
theorem tw_213 : (Jvm.Cond.fieldLink "PancakePort" (36 : Nat) "PancakePort" "kept" "LPancakePort$Night;") ∈ mWS := List.mem_filter.mpr ⟨List.mem_of_getElem? (i := 213) (by rfl), by rfl⟩
set_option maxRecDepth 100000 in
theorem tw_214 : (Jvm.Cond.fieldLink "PancakePort" (42 : Nat) "PancakePort" "plan" "LPancakePort$Plan;") ∈ mWS := List.mem_filter.mpr ⟨List.mem_of_getElem? (i := 214) (by rfl), by rfl⟩
set_option maxRecDepth 100000 in
theorem tw_215 : (Jvm.Cond.fieldLink "PancakePort" (46 : Nat) "PancakePort" "chances" "[I") ∈ mWS := List.mem_filter.mpr ⟨List.mem_of_getElem? (i := 215) (by rfl), by rfl⟩
set_option maxRecDepth 100000 in
theorem tw_216 : (Jvm.Cond.fieldLink "PancakePort" (72 : Nat) "PancakePort" "sleeperCount" "I") ∈ mWS := List.mem_filter.mpr ⟨List.mem_of_getElem? (i := 216) (by rfl), by rfl⟩
set_option maxRecDepth 100000 in
theorem tw_217 : (Jvm.Cond.fieldLink "PancakePort" (197 : Nat) "PancakePort" "tosserCount" "I") ∈ mWS := List.mem_filter.mpr ⟨List.mem_of_getElem? (i := 217) (by rfl), by rfl⟩
set_option maxRecDepth 100000 in
theorem tw_218 : (Jvm.Cond.fieldLink "PancakePort" (69 : Nat) "PancakePort" "portsRead" "I") ∈ mWS := List.mem_filter.mpr ⟨List.mem_of_getElem? (i := 218) (by rfl), by rfl⟩
set_option maxRecDepth 100000 in
theorem tw_219 : (Jvm.Cond.fieldLink "PancakePort" (223 : Nat) "PancakePort" "imageKept" "Z") ∈ mWS := List.mem_filter.mpr ⟨List.mem_of_getElem? (i := 219) (by rfl), by rfl⟩
set_option maxRecDepth 100000 in
theorem tw_220 : (Jvm.Cond.laysFinal "PancakePort" "PancakePort" "page" "LPancakePort$Page;") ∈ mWS := List.mem_filter.mpr ⟨List.mem_of_getElem? (i := 220) (by rfl), by rfl⟩
set_option maxRecDepth 100000 in
theorem tw_222 : (Jvm.Cond.laysFinal "PancakePort" "PancakePort" "reading" "LPancakePort$Reading;") ∈ mWS := List.mem_filter.mpr ⟨List.mem_of_getElem? (i := 222) (by rfl), by rfl⟩
set_option maxRecDepth 100000 in
theorem tw_224 : (Jvm.Cond.laysFinal "PancakePort" "PancakePort" "tossers" "[LPancakePort$Tosser;") ∈ mWS := List.mem_filter.mpr ⟨List.mem_of_getElem? (i := 224) (by rfl), by rfl⟩
set_option maxRecDepth 100000 in
theorem tw_226 : (Jvm.Cond.laysFinal "PancakePort" "PancakePort" "now" "LPancakePort$Night;") ∈ mWS := List.mem_filter.mpr ⟨List.mem_of_getElem? (i := 226) (by rfl), by rfl⟩
set_option maxRecDepth 100000 in
theorem tw_228 : (Jvm.Cond.laysFinal "PancakePort" "PancakePort" "kept" "LPancakePort$Night;") ∈ mWS := List.mem_filter.mpr ⟨List.mem_of_getElem? (i := 228) (by rfl), by rfl⟩
set_option maxRecDepth 100000 in
theorem tw_230 : (Jvm.Cond.laysFinal "PancakePort" "PancakePort" "plan" "LPancakePort$Plan;") ∈ mWS := List.mem_filter.mpr ⟨List.mem_of_getElem? (i := 230) (by rfl), by rfl⟩
set_option maxRecDepth 100000 in
theorem tw_232 : (Jvm.Cond.laysFinal "PancakePort" "PancakePort" "chances" "[I") ∈ mWS := List.mem_filter.mpr ⟨List.mem_of_getElem? (i := 232) (by rfl), by rfl⟩
set_option maxRecDepth 100000 in
theorem tw_234 : (Jvm.Cond.lays "PancakePort" "PancakePort" "sleeperCount" "I") ∈ mWS := List.mem_filter.mpr ⟨List.mem_of_getElem? (i := 234) (by rfl), by rfl⟩
set_option maxRecDepth 100000 in
theorem tw_236 : (Jvm.Cond.lays "PancakePort" "PancakePort" "tosserCount" "I") ∈ mWS := List.mem_filter.mpr ⟨List.mem_of_getElem? (i := 236) (by rfl), by rfl⟩
set_option maxRecDepth 100000 in
theorem tw_238 : (Jvm.Cond.lays "PancakePort" "PancakePort" "portsRead" "I") ∈ mWS := List.mem_filter.mpr ⟨List.mem_of_getElem? (i := 238) (by rfl), by rfl⟩
set_option maxRecDepth 100000 in
theorem tw_240 : (Jvm.Cond.lays "PancakePort" "PancakePort" "imageKept" "Z") ∈ mWS := List.mem_filter.mpr ⟨List.mem_of_getElem? (i := 240) (by rfl), by rfl⟩
set_option maxRecDepth 100000 in
theorem tw_242 : (Jvm.Cond.superclass "PancakePort" "java/lang/Object") ∈ mWS := List.mem_filter.mpr ⟨List.mem_of_getElem? (i := 242) (by rfl), by rfl⟩
set_option maxRecDepth 100000 in
theorem tw_243 : (Jvm.Cond.methodLink "PancakePortLaw" (88 : Nat) ({ cls := "PancakePort", name := "fault", desc := "()I" } : Jvm.MethodName)) ∈ mWS := List.mem_filter.mpr ⟨List.mem_of_getElem? (i := 243) (by rfl), by rfl⟩
set_option maxRecDepth 100000 in
theorem tw_244 : (Jvm.Cond.instanceMethod ({ cls := "PancakePort", name := "fault", desc := "()I" } : Jvm.MethodName)) ∈ mWS := List.mem_filter.mpr ⟨List.mem_of_getElem? (i := 244) (by rfl), by rfl⟩
set_option maxRecDepth 100000 in
theorem tw_245 : (Jvm.Cond.selects "PancakePort" ({ cls := "PancakePort", name := "fault", desc := "()I" } : Jvm.MethodName) ({ cls := "PancakePort", name := "fault", desc := "()I" } : Jvm.MethodName)) ∈ mWS := List.mem_filter.mpr ⟨List.mem_of_getElem? (i := 245) (by rfl), by rfl⟩
set_option maxRecDepth 100000 in
theorem tw_246 : (Jvm.Cond.code ({ cls := "PancakePort", name := "fault", desc := "()I" } : Jvm.MethodName) prog_1_method_4_code (1 : Nat) (Option.some Jvm.ClassFile.FieldType.int)) ∈ mWS := List.mem_filter.mpr ⟨List.mem_of_getElem? (i := 246) (by rfl), by rfl⟩
set_option maxRecDepth 100000 in
theorem tw_247 : (Jvm.Cond.methodLink "PancakePort" (58 : Nat) ({ cls := "PancakePort$Reading", name := "read", desc := "(LPancakePort$Page;)I" } : Jvm.MethodName)) ∈ mWS := List.mem_filter.mpr ⟨List.mem_of_getElem? (i := 247) (by rfl), by rfl⟩
set_option maxRecDepth 100000 in
theorem tw_248 : (Jvm.Cond.instanceMethod ({ cls := "PancakePort$Reading", name := "read", desc := "(LPancakePort$Page;)I" } : Jvm.MethodName)) ∈ mWS := List.mem_filter.mpr ⟨List.mem_of_getElem? (i := 248) (by rfl), by rfl⟩
set_option maxRecDepth 100000 in
theorem tw_249 : (Jvm.Cond.selects "PancakePort$Reading" ({ cls := "PancakePort$Reading", name := "read", desc := "(LPancakePort$Page;)I" } : Jvm.MethodName) ({ cls := "PancakePort$Reading", name := "read", desc := "(LPancakePort$Page;)I" } : Jvm.MethodName)) ∈ mWS := List.mem_filter.mpr ⟨List.mem_of_getElem? (i := 249) (by rfl), by rfl⟩
set_option maxRecDepth 100000 in
theorem tw_250 : (Jvm.Cond.code ({ cls := "PancakePort$Reading", name := "read", desc := "(LPancakePort$Page;)I" } : Jvm.MethodName) prog_7_method_2_code (4 : Nat) (Option.some Jvm.ClassFile.FieldType.int)) ∈ mWS := List.mem_filter.mpr ⟨List.mem_of_getElem? (i := 250) (by rfl), by rfl⟩
set_option maxRecDepth 100000 in
theorem tw_251 : (Jvm.Cond.methodLinkNest "PancakePort$Reading" (42 : Nat) ({ cls := "PancakePort", name := "at", desc := "([II)I" } : Jvm.MethodName) "PancakePort") ∈ mNw := List.mem_filter.mpr ⟨List.mem_of_getElem? (i := 251) (by rfl), by rfl⟩
set_option maxRecDepth 100000 in
theorem tw_252 : (Jvm.Cond.static ({ cls := "PancakePort", name := "at", desc := "([II)I" } : Jvm.MethodName)) ∈ mWS := List.mem_filter.mpr ⟨List.mem_of_getElem? (i := 252) (by rfl), by rfl⟩
set_option maxRecDepth 100000 in
theorem tw_253 : (Jvm.Cond.code ({ cls := "PancakePort", name := "at", desc := "([II)I" } : Jvm.MethodName) prog_1_method_54_code (2 : Nat) (Option.some Jvm.ClassFile.FieldType.int)) ∈ mWS := List.mem_filter.mpr ⟨List.mem_of_getElem? (i := 253) (by rfl), by rfl⟩
set_option maxRecDepth 100000 in
theorem tw_254 : (Jvm.Cond.methodLink "PancakePort$Reading" (46 : Nat) ({ cls := "PancakePort$Reading", name := "takes", desc := "(I)Z" } : Jvm.MethodName)) ∈ mWS := List.mem_filter.mpr ⟨List.mem_of_getElem? (i := 254) (by rfl), by rfl⟩
set_option maxRecDepth 100000 in
theorem tw_256 : (Jvm.Cond.instanceMethod ({ cls := "PancakePort$Reading", name := "takes", desc := "(I)Z" } : Jvm.MethodName)) ∈ mWS := List.mem_filter.mpr ⟨List.mem_of_getElem? (i := 256) (by rfl), by rfl⟩
set_option maxRecDepth 100000 in
theorem tw_257 : (Jvm.Cond.code ({ cls := "PancakePort$Reading", name := "takes", desc := "(I)Z" } : Jvm.MethodName) prog_7_method_4_code (2 : Nat) (Option.some Jvm.ClassFile.FieldType.boolean)) ∈ mWS := List.mem_filter.mpr ⟨List.mem_of_getElem? (i := 257) (by rfl), by rfl⟩
set_option maxRecDepth 100000 in
theorem tw_258 : (Jvm.Cond.methodLink "PancakePort$Reading" (50 : Nat) ({ cls := "PancakePort$Reading", name := "takesRow", desc := "(I)Z" } : Jvm.MethodName)) ∈ mWS := List.mem_filter.mpr ⟨List.mem_of_getElem? (i := 258) (by rfl), by rfl⟩
set_option maxRecDepth 100000 in
theorem tw_260 : (Jvm.Cond.instanceMethod ({ cls := "PancakePort$Reading", name := "takesRow", desc := "(I)Z" } : Jvm.MethodName)) ∈ mWS := List.mem_filter.mpr ⟨List.mem_of_getElem? (i := 260) (by rfl), by rfl⟩
set_option maxRecDepth 100000 in
theorem tw_261 : (Jvm.Cond.code ({ cls := "PancakePort$Reading", name := "takesRow", desc := "(I)Z" } : Jvm.MethodName) prog_7_method_5_code (2 : Nat) (Option.some Jvm.ClassFile.FieldType.boolean)) ∈ mWS := List.mem_filter.mpr ⟨List.mem_of_getElem? (i := 261) (by rfl), by rfl⟩
set_option maxRecDepth 100000 in
theorem tw_262 : (Jvm.Cond.methodLink "PancakePort$Reading" (53 : Nat) ({ cls := "PancakePort$Reading", name := "takesColumn", desc := "(I)Z" } : Jvm.MethodName)) ∈ mWS := List.mem_filter.mpr ⟨List.mem_of_getElem? (i := 262) (by rfl), by rfl⟩
set_option maxRecDepth 100000 in
theorem tw_264 : (Jvm.Cond.instanceMethod ({ cls := "PancakePort$Reading", name := "takesColumn", desc := "(I)Z" } : Jvm.MethodName)) ∈ mWS := List.mem_filter.mpr ⟨List.mem_of_getElem? (i := 264) (by rfl), by rfl⟩
set_option maxRecDepth 100000 in
theorem tw_265 : (Jvm.Cond.code ({ cls := "PancakePort$Reading", name := "takesColumn", desc := "(I)Z" } : Jvm.MethodName) prog_7_method_6_code (4 : Nat) (Option.some Jvm.ClassFile.FieldType.boolean)) ∈ mWS := List.mem_filter.mpr ⟨List.mem_of_getElem? (i := 265) (by rfl), by rfl⟩
set_option maxRecDepth 100000 in
theorem tw_266 : (Jvm.Cond.methodLinkNest "PancakePort$Reading" (74 : Nat) ({ cls := "PancakePort", name := "cellAt", desc := "(II)I" } : Jvm.MethodName) "PancakePort") ∈ mNw := List.mem_filter.mpr ⟨List.mem_of_getElem? (i := 266) (by rfl), by rfl⟩
set_option maxRecDepth 100000 in
theorem tw_267 : (Jvm.Cond.static ({ cls := "PancakePort", name := "cellAt", desc := "(II)I" } : Jvm.MethodName)) ∈ mWS := List.mem_filter.mpr ⟨List.mem_of_getElem? (i := 267) (by rfl), by rfl⟩
set_option maxRecDepth 100000 in
theorem tw_268 : (Jvm.Cond.code ({ cls := "PancakePort", name := "cellAt", desc := "(II)I" } : Jvm.MethodName) prog_1_method_48_code (3 : Nat) (Option.some Jvm.ClassFile.FieldType.int)) ∈ mWS := List.mem_filter.mpr ⟨List.mem_of_getElem? (i := 268) (by rfl), by rfl⟩
set_option maxRecDepth 100000 in
theorem tw_269 : (Jvm.Cond.methodLinkNest "PancakePort$Reading" (78 : Nat) ({ cls := "PancakePort", name := "put", desc := "([III)V" } : Jvm.MethodName) "PancakePort") ∈ mNw := List.mem_filter.mpr ⟨List.mem_of_getElem? (i := 269) (by rfl), by rfl⟩
set_option maxRecDepth 100000 in
theorem tw_270 : (Jvm.Cond.static ({ cls := "PancakePort", name := "put", desc := "([III)V" } : Jvm.MethodName)) ∈ mWS := List.mem_filter.mpr ⟨List.mem_of_getElem? (i := 270) (by rfl), by rfl⟩
set_option maxRecDepth 100000 in
theorem tw_271 : (Jvm.Cond.code ({ cls := "PancakePort", name := "put", desc := "([III)V" } : Jvm.MethodName) prog_1_method_55_code (3 : Nat) (Option.none : Option Jvm.ClassFile.FieldType)) ∈ mWS := List.mem_filter.mpr ⟨List.mem_of_getElem? (i := 271) (by rfl), by rfl⟩
set_option maxRecDepth 100000 in
theorem tw_272 : (Jvm.Cond.methodLink "PancakePort$Reading" (56 : Nat) ({ cls := "PancakePort$Reading", name := "takesAfterSleeper", desc := "(I)Z" } : Jvm.MethodName)) ∈ mWS := List.mem_filter.mpr ⟨List.mem_of_getElem? (i := 272) (by rfl), by rfl⟩
set_option maxRecDepth 100000 in
theorem tw_274 : (Jvm.Cond.instanceMethod ({ cls := "PancakePort$Reading", name := "takesAfterSleeper", desc := "(I)Z" } : Jvm.MethodName)) ∈ mWS := List.mem_filter.mpr ⟨List.mem_of_getElem? (i := 274) (by rfl), by rfl⟩
set_option maxRecDepth 100000 in
theorem tw_275 : (Jvm.Cond.code ({ cls := "PancakePort$Reading", name := "takesAfterSleeper", desc := "(I)Z" } : Jvm.MethodName) prog_7_method_7_code (2 : Nat) (Option.some Jvm.ClassFile.FieldType.boolean)) ∈ mWS := List.mem_filter.mpr ⟨List.mem_of_getElem? (i := 275) (by rfl), by rfl⟩
set_option maxRecDepth 100000 in
theorem tw_276 : (Jvm.Cond.methodLink "PancakePort$Reading" (59 : Nat) ({ cls := "PancakePort$Reading", name := "takesKind", desc := "(I)Z" } : Jvm.MethodName)) ∈ mWS := List.mem_filter.mpr ⟨List.mem_of_getElem? (i := 276) (by rfl), by rfl⟩
set_option maxRecDepth 100000 in
theorem tw_278 : (Jvm.Cond.instanceMethod ({ cls := "PancakePort$Reading", name := "takesKind", desc := "(I)Z" } : Jvm.MethodName)) ∈ mWS := List.mem_filter.mpr ⟨List.mem_of_getElem? (i := 278) (by rfl), by rfl⟩
set_option maxRecDepth 100000 in
theorem tw_279 : (Jvm.Cond.code ({ cls := "PancakePort$Reading", name := "takesKind", desc := "(I)Z" } : Jvm.MethodName) prog_7_method_8_code (3 : Nat) (Option.some Jvm.ClassFile.FieldType.boolean)) ∈ mWS := List.mem_filter.mpr ⟨List.mem_of_getElem? (i := 279) (by rfl), by rfl⟩
set_option maxRecDepth 100000 in
theorem tw_281 : (Jvm.Cond.methodLink "PancakePort$Reading" (84 : Nat) ({ cls := "java/lang/String", name := "indexOf", desc := "(I)I" } : Jvm.MethodName)) ∈ mWS := List.mem_filter.mpr ⟨List.mem_of_getElem? (i := 281) (by rfl), by rfl⟩
set_option maxRecDepth 100000 in
theorem tw_282 : (Jvm.Cond.instanceMethod ({ cls := "java/lang/String", name := "indexOf", desc := "(I)I" } : Jvm.MethodName)) ∈ mWS := List.mem_filter.mpr ⟨List.mem_of_getElem? (i := 282) (by rfl), by rfl⟩
set_option maxRecDepth 100000 in
theorem tw_283 : (Jvm.Cond.selects "java/lang/String" ({ cls := "java/lang/String", name := "indexOf", desc := "(I)I" } : Jvm.MethodName) ({ cls := "java/lang/String", name := "indexOf", desc := "(I)I" } : Jvm.MethodName)) ∈ mWS := List.mem_filter.mpr ⟨List.mem_of_getElem? (i := 283) (by rfl), by rfl⟩
set_option maxRecDepth 100000 in
theorem tw_284 : (Jvm.Cond.code ({ cls := "java/lang/String", name := "indexOf", desc := "(I)I" } : Jvm.MethodName) prog_17_method_79_code (2 : Nat) (Option.some Jvm.ClassFile.FieldType.int)) ∈ mWS := List.mem_filter.mpr ⟨List.mem_of_getElem? (i := 284) (by rfl), by rfl⟩
set_option maxRecDepth 100000 in
theorem tw_285 : (Jvm.Cond.methodLink "java/lang/String" (633 : Nat) ({ cls := "java/lang/String", name := "indexOf", desc := "(II)I" } : Jvm.MethodName)) ∈ mWS := List.mem_filter.mpr ⟨List.mem_of_getElem? (i := 285) (by rfl), by rfl⟩
set_option maxRecDepth 100000 in
theorem tw_286 : (Jvm.Cond.instanceMethod ({ cls := "java/lang/String", name := "indexOf", desc := "(II)I" } : Jvm.MethodName)) ∈ mWS := List.mem_filter.mpr ⟨List.mem_of_getElem? (i := 286) (by rfl), by rfl⟩
set_option maxRecDepth 100000 in
theorem tw_287 : (Jvm.Cond.selects "java/lang/String" ({ cls := "java/lang/String", name := "indexOf", desc := "(II)I" } : Jvm.MethodName) ({ cls := "java/lang/String", name := "indexOf", desc := "(II)I" } : Jvm.MethodName)) ∈ mWS := List.mem_filter.mpr ⟨List.mem_of_getElem? (i := 287) (by rfl), by rfl⟩
set_option maxRecDepth 100000 in
theorem tw_288 : (Jvm.Cond.code ({ cls := "java/lang/String", name := "indexOf", desc := "(II)I" } : Jvm.MethodName) prog_17_method_80_code (3 : Nat) (Option.some Jvm.ClassFile.FieldType.int)) ∈ mWS := List.mem_filter.mpr ⟨List.mem_of_getElem? (i := 288) (by rfl), by rfl⟩
set_option maxRecDepth 100000 in
theorem tw_289 : (Jvm.Cond.methodLink "java/lang/String" (492 : Nat) ({ cls := "java/lang/String", name := "isLatin1", desc := "()Z" } : Jvm.MethodName)) ∈ mWS := List.mem_filter.mpr ⟨List.mem_of_getElem? (i := 289) (by rfl), by rfl⟩
set_option maxRecDepth 100000 in
theorem tw_290 : (Jvm.Cond.instanceMethod ({ cls := "java/lang/String", name := "isLatin1", desc := "()Z" } : Jvm.MethodName)) ∈ mWS := List.mem_filter.mpr ⟨List.mem_of_getElem? (i := 290) (by rfl), by rfl⟩
set_option maxRecDepth 100000 in
theorem tw_291 : (Jvm.Cond.selects "java/lang/String" ({ cls := "java/lang/String", name := "isLatin1", desc := "()Z" } : Jvm.MethodName) ({ cls := "java/lang/String", name := "isLatin1", desc := "()Z" } : Jvm.MethodName)) ∈ mWS := List.mem_filter.mpr ⟨List.mem_of_getElem? (i := 291) (by rfl), by rfl⟩
set_option maxRecDepth 100000 in
theorem tw_292 : (Jvm.Cond.code ({ cls := "java/lang/String", name := "isLatin1", desc := "()Z" } : Jvm.MethodName) prog_17_method_154_code (1 : Nat) (Option.some Jvm.ClassFile.FieldType.boolean)) ∈ mWS := List.mem_filter.mpr ⟨List.mem_of_getElem? (i := 292) (by rfl), by rfl⟩
set_option maxRecDepth 100000 in
theorem tw_293 : (Jvm.Cond.fieldLink "java/lang/String" (38 : Nat) "java/lang/String" "COMPACT_STRINGS" "Z") ∈ mWS := List.mem_filter.mpr ⟨List.mem_of_getElem? (i := 293) (by rfl), by rfl⟩
set_option maxRecDepth 100000 in
theorem tw_295 : (Jvm.Cond.methodLink "java/lang/String" (505 : Nat) ({ cls := "java/lang/String", name := "length", desc := "()I" } : Jvm.MethodName)) ∈ mWS := List.mem_filter.mpr ⟨List.mem_of_getElem? (i := 295) (by rfl), by rfl⟩
set_option maxRecDepth 100000 in
theorem tw_296 : (Jvm.Cond.instanceMethod ({ cls := "java/lang/String", name := "length", desc := "()I" } : Jvm.MethodName)) ∈ mWS := List.mem_filter.mpr ⟨List.mem_of_getElem? (i := 296) (by rfl), by rfl⟩
set_option maxRecDepth 100000 in
theorem tw_297 : (Jvm.Cond.selects "java/lang/String" ({ cls := "java/lang/String", name := "length", desc := "()I" } : Jvm.MethodName) ({ cls := "java/lang/String", name := "length", desc := "()I" } : Jvm.MethodName)) ∈ mWS := List.mem_filter.mpr ⟨List.mem_of_getElem? (i := 297) (by rfl), by rfl⟩
set_option maxRecDepth 100000 in
theorem tw_298 : (Jvm.Cond.code ({ cls := "java/lang/String", name := "length", desc := "()I" } : Jvm.MethodName) prog_17_method_54_code (1 : Nat) (Option.some Jvm.ClassFile.FieldType.int)) ∈ mWS := List.mem_filter.mpr ⟨List.mem_of_getElem? (i := 298) (by rfl), by rfl⟩
set_option maxRecDepth 100000 in
theorem tw_299 : (Jvm.Cond.methodLink "java/lang/String" (335 : Nat) ({ cls := "java/lang/String", name := "coder", desc := "()B" } : Jvm.MethodName)) ∈ mWS := List.mem_filter.mpr ⟨List.mem_of_getElem? (i := 299) (by rfl), by rfl⟩
set_option maxRecDepth 100000 in
theorem tw_300 : (Jvm.Cond.instanceMethod ({ cls := "java/lang/String", name := "coder", desc := "()B" } : Jvm.MethodName)) ∈ mWS := List.mem_filter.mpr ⟨List.mem_of_getElem? (i := 300) (by rfl), by rfl⟩
set_option maxRecDepth 100000 in
theorem tw_301 : (Jvm.Cond.selects "java/lang/String" ({ cls := "java/lang/String", name := "coder", desc := "()B" } : Jvm.MethodName) ({ cls := "java/lang/String", name := "coder", desc := "()B" } : Jvm.MethodName)) ∈ mWS := List.mem_filter.mpr ⟨List.mem_of_getElem? (i := 301) (by rfl), by rfl⟩
set_option maxRecDepth 100000 in
theorem tw_302 : (Jvm.Cond.code ({ cls := "java/lang/String", name := "coder", desc := "()B" } : Jvm.MethodName) prog_17_method_152_code (1 : Nat) (Option.some Jvm.ClassFile.FieldType.byte)) ∈ mWS := List.mem_filter.mpr ⟨List.mem_of_getElem? (i := 302) (by rfl), by rfl⟩
set_option maxRecDepth 100000 in
theorem tw_303 : (Jvm.Cond.methodLink "java/lang/String" (637 : Nat) ({ cls := "java/lang/StringLatin1", name := "indexOf", desc := "([BIII)I" } : Jvm.MethodName)) ∈ mWS := List.mem_filter.mpr ⟨List.mem_of_getElem? (i := 303) (by rfl), by rfl⟩
set_option maxRecDepth 100000 in
theorem tw_304 : (Jvm.Cond.static ({ cls := "java/lang/StringLatin1", name := "indexOf", desc := "([BIII)I" } : Jvm.MethodName)) ∈ mWS := List.mem_filter.mpr ⟨List.mem_of_getElem? (i := 304) (by rfl), by rfl⟩
set_option maxRecDepth 100000 in
theorem tw_305 : (Jvm.Cond.code ({ cls := "java/lang/StringLatin1", name := "indexOf", desc := "([BIII)I" } : Jvm.MethodName) prog_18_method_22_code (4 : Nat) (Option.some Jvm.ClassFile.FieldType.int)) ∈ mWS := List.mem_filter.mpr ⟨List.mem_of_getElem? (i := 305) (by rfl), by rfl⟩
set_option maxRecDepth 100000 in
theorem tw_306 : (Jvm.Cond.methodLink "java/lang/StringLatin1" (88 : Nat) ({ cls := "java/lang/StringLatin1", name := "canEncode", desc := "(I)Z" } : Jvm.MethodName)) ∈ mWS := List.mem_filter.mpr ⟨List.mem_of_getElem? (i := 306) (by rfl), by rfl⟩
set_option maxRecDepth 100000 in
theorem tw_307 : (Jvm.Cond.static ({ cls := "java/lang/StringLatin1", name := "canEncode", desc := "(I)Z" } : Jvm.MethodName)) ∈ mWS := List.mem_filter.mpr ⟨List.mem_of_getElem? (i := 307) (by rfl), by rfl⟩
set_option maxRecDepth 100000 in
theorem tw_308 : (Jvm.Cond.code ({ cls := "java/lang/StringLatin1", name := "canEncode", desc := "(I)Z" } : Jvm.MethodName) prog_18_method_4_code (1 : Nat) (Option.some Jvm.ClassFile.FieldType.boolean)) ∈ mWS := List.mem_filter.mpr ⟨List.mem_of_getElem? (i := 308) (by rfl), by rfl⟩
set_option maxRecDepth 100000 in
theorem tw_309 : (Jvm.Cond.methodLink "java/lang/StringLatin1" (92 : Nat) ({ cls := "java/lang/Math", name := "max", desc := "(II)I" } : Jvm.MethodName)) ∈ mWS := List.mem_filter.mpr ⟨List.mem_of_getElem? (i := 309) (by rfl), by rfl⟩
set_option maxRecDepth 100000 in
theorem tw_310 : (Jvm.Cond.static ({ cls := "java/lang/Math", name := "max", desc := "(II)I" } : Jvm.MethodName)) ∈ mWS := List.mem_filter.mpr ⟨List.mem_of_getElem? (i := 310) (by rfl), by rfl⟩
set_option maxRecDepth 100000 in
theorem tw_311 : (Jvm.Cond.code ({ cls := "java/lang/Math", name := "max", desc := "(II)I" } : Jvm.MethodName) prog_16_method_65_code (2 : Nat) (Option.some Jvm.ClassFile.FieldType.int)) ∈ mWS := List.mem_filter.mpr ⟨List.mem_of_getElem? (i := 311) (by rfl), by rfl⟩
set_option maxRecDepth 100000 in
theorem tw_312 : (Jvm.Cond.methodLink "java/lang/StringLatin1" (38 : Nat) ({ cls := "java/lang/Math", name := "min", desc := "(II)I" } : Jvm.MethodName)) ∈ mWS := List.mem_filter.mpr ⟨List.mem_of_getElem? (i := 312) (by rfl), by rfl⟩
set_option maxRecDepth 100000 in
theorem tw_313 : (Jvm.Cond.static ({ cls := "java/lang/Math", name := "min", desc := "(II)I" } : Jvm.MethodName)) ∈ mWS := List.mem_filter.mpr ⟨List.mem_of_getElem? (i := 313) (by rfl), by rfl⟩
set_option maxRecDepth 100000 in
theorem tw_314 : (Jvm.Cond.code ({ cls := "java/lang/Math", name := "min", desc := "(II)I" } : Jvm.MethodName) prog_16_method_69_code (2 : Nat) (Option.some Jvm.ClassFile.FieldType.int)) ∈ mWS := List.mem_filter.mpr ⟨List.mem_of_getElem? (i := 314) (by rfl), by rfl⟩
set_option maxRecDepth 100000 in
theorem tw_315 : (Jvm.Cond.methodLink "java/lang/StringLatin1" (95 : Nat) ({ cls := "java/lang/StringLatin1", name := "indexOfChar", desc := "([BIII)I" } : Jvm.MethodName)) ∈ mWS := List.mem_filter.mpr ⟨List.mem_of_getElem? (i := 315) (by rfl), by rfl⟩
set_option maxRecDepth 100000 in
theorem tw_316 : (Jvm.Cond.static ({ cls := "java/lang/StringLatin1", name := "indexOfChar", desc := "([BIII)I" } : Jvm.MethodName)) ∈ mWS := List.mem_filter.mpr ⟨List.mem_of_getElem? (i := 316) (by rfl), by rfl⟩
set_option maxRecDepth 100000 in
theorem tw_317 : (Jvm.Cond.code ({ cls := "java/lang/StringLatin1", name := "indexOfChar", desc := "([BIII)I" } : Jvm.MethodName) prog_18_method_23_code (6 : Nat) (Option.some Jvm.ClassFile.FieldType.int)) ∈ mWS := List.mem_filter.mpr ⟨List.mem_of_getElem? (i := 317) (by rfl), by rfl⟩
set_option maxRecDepth 100000 in
theorem tw_318 : (Jvm.Cond.methodLink "java/lang/String" (640 : Nat) ({ cls := "java/lang/StringUTF16", name := "indexOf", desc := "([BIII)I" } : Jvm.MethodName)) ∈ mWS := List.mem_filter.mpr ⟨List.mem_of_getElem? (i := 318) (by rfl), by rfl⟩
set_option maxRecDepth 100000 in
theorem tw_319 : (Jvm.Cond.static ({ cls := "java/lang/StringUTF16", name := "indexOf", desc := "([BIII)I" } : Jvm.MethodName)) ∈ mWS := List.mem_filter.mpr ⟨List.mem_of_getElem? (i := 319) (by rfl), by rfl⟩
set_option maxRecDepth 100000 in
theorem tw_320 : (Jvm.Cond.code ({ cls := "java/lang/StringUTF16", name := "indexOf", desc := "([BIII)I" } : Jvm.MethodName) prog_19_method_40_code (4 : Nat) (Option.some Jvm.ClassFile.FieldType.int)) ∈ mWS := List.mem_filter.mpr ⟨List.mem_of_getElem? (i := 320) (by rfl), by rfl⟩
set_option maxRecDepth 100000 in
theorem tw_321 : (Jvm.Cond.methodLink "java/lang/StringUTF16" (224 : Nat) ({ cls := "java/lang/Math", name := "max", desc := "(II)I" } : Jvm.MethodName)) ∈ mWS := List.mem_filter.mpr ⟨List.mem_of_getElem? (i := 321) (by rfl), by rfl⟩
set_option maxRecDepth 100000 in
theorem tw_322 : (Jvm.Cond.methodLink "java/lang/StringUTF16" (183 : Nat) ({ cls := "java/lang/Math", name := "min", desc := "(II)I" } : Jvm.MethodName)) ∈ mWS := List.mem_filter.mpr ⟨List.mem_of_getElem? (i := 322) (by rfl), by rfl⟩
set_option maxRecDepth 100000 in
theorem tw_323 : (Jvm.Cond.constant "java/lang/StringUTF16" (227 : Nat) (65536 : Int32)) ∈ mWS := List.mem_filter.mpr ⟨List.mem_of_getElem? (i := 323) (by rfl), by rfl⟩
set_option maxRecDepth 100000 in
theorem tw_324 : (Jvm.Cond.methodLink "java/lang/StringUTF16" (228 : Nat) ({ cls := "java/lang/StringUTF16", name := "indexOfChar", desc := "([BIII)I" } : Jvm.MethodName)) ∈ mWS := List.mem_filter.mpr ⟨List.mem_of_getElem? (i := 324) (by rfl), by rfl⟩
set_option maxRecDepth 100000 in
theorem tw_325 : (Jvm.Cond.static ({ cls := "java/lang/StringUTF16", name := "indexOfChar", desc := "([BIII)I" } : Jvm.MethodName)) ∈ mWS := List.mem_filter.mpr ⟨List.mem_of_getElem? (i := 325) (by rfl), by rfl⟩
set_option maxRecDepth 100000 in
theorem tw_326 : (Jvm.Cond.code ({ cls := "java/lang/StringUTF16", name := "indexOfChar", desc := "([BIII)I" } : Jvm.MethodName) prog_19_method_47_code (4 : Nat) (Option.some Jvm.ClassFile.FieldType.int)) ∈ mWS := List.mem_filter.mpr ⟨List.mem_of_getElem? (i := 326) (by rfl), by rfl⟩
set_option maxRecDepth 100000 in
theorem tw_327 : (Jvm.Cond.methodLink "java/lang/StringUTF16" (96 : Nat) ({ cls := "java/lang/StringUTF16", name := "checkBoundsBeginEnd", desc := "(II[B)V" } : Jvm.MethodName)) ∈ mWS := List.mem_filter.mpr ⟨List.mem_of_getElem? (i := 327) (by rfl), by rfl⟩
set_option maxRecDepth 100000 in
theorem tw_328 : (Jvm.Cond.static ({ cls := "java/lang/StringUTF16", name := "checkBoundsBeginEnd", desc := "(II[B)V" } : Jvm.MethodName)) ∈ mWS := List.mem_filter.mpr ⟨List.mem_of_getElem? (i := 328) (by rfl), by rfl⟩
set_option maxRecDepth 100000 in
theorem tw_329 : (Jvm.Cond.code ({ cls := "java/lang/StringUTF16", name := "checkBoundsBeginEnd", desc := "(II[B)V" } : Jvm.MethodName) prog_19_method_93_code (3 : Nat) (Option.none : Option Jvm.ClassFile.FieldType)) ∈ mWS := List.mem_filter.mpr ⟨List.mem_of_getElem? (i := 329) (by rfl), by rfl⟩
set_option maxRecDepth 100000 in
theorem tw_330 : (Jvm.Cond.methodLink "java/lang/StringUTF16" (48 : Nat) ({ cls := "java/lang/StringUTF16", name := "length", desc := "([B)I" } : Jvm.MethodName)) ∈ mWS := List.mem_filter.mpr ⟨List.mem_of_getElem? (i := 330) (by rfl), by rfl⟩
set_option maxRecDepth 100000 in
theorem tw_331 : (Jvm.Cond.static ({ cls := "java/lang/StringUTF16", name := "length", desc := "([B)I" } : Jvm.MethodName)) ∈ mWS := List.mem_filter.mpr ⟨List.mem_of_getElem? (i := 331) (by rfl), by rfl⟩
set_option maxRecDepth 100000 in
theorem tw_332 : (Jvm.Cond.code ({ cls := "java/lang/StringUTF16", name := "length", desc := "([B)I" } : Jvm.MethodName) prog_19_method_6_code (1 : Nat) (Option.some Jvm.ClassFile.FieldType.int)) ∈ mWS := List.mem_filter.mpr ⟨List.mem_of_getElem? (i := 332) (by rfl), by rfl⟩
set_option maxRecDepth 100000 in
theorem tw_333 : (Jvm.Cond.methodLink "java/lang/StringUTF16" (241 : Nat) ({ cls := "java/lang/String", name := "checkBoundsBeginEnd", desc := "(III)V" } : Jvm.MethodName)) ∈ mWS := List.mem_filter.mpr ⟨List.mem_of_getElem? (i := 333) (by rfl), by rfl⟩
set_option maxRecDepth 100000 in
theorem tw_334 : (Jvm.Cond.static ({ cls := "java/lang/String", name := "checkBoundsBeginEnd", desc := "(III)V" } : Jvm.MethodName)) ∈ mWS := List.mem_filter.mpr ⟨List.mem_of_getElem? (i := 334) (by rfl), by rfl⟩
set_option maxRecDepth 100000 in
theorem tw_335 : (Jvm.Cond.code ({ cls := "java/lang/String", name := "checkBoundsBeginEnd", desc := "(III)V" } : Jvm.MethodName) prog_17_method_158_code (3 : Nat) (Option.none : Option Jvm.ClassFile.FieldType)) ∈ mWS := List.mem_filter.mpr ⟨List.mem_of_getElem? (i := 335) (by rfl), by rfl⟩
set_option maxRecDepth 100000 in
theorem tw_336 : (Jvm.Cond.fieldLink "java/lang/String" (1053 : Nat) "jdk/internal/util/Preconditions" "SIOOBE_FORMATTER" "Ljava/util/function/BiFunction;") ∈ mWS := List.mem_filter.mpr ⟨List.mem_of_getElem? (i := 336) (by rfl), by rfl⟩
set_option maxRecDepth 100000 in
theorem tw_338 : (Jvm.Cond.methodLink "java/lang/String" (1062 : Nat) ({ cls := "jdk/internal/util/Preconditions", name := "checkFromToIndex", desc := "(IIILjava/util/function/BiFunction;)I" } : Jvm.MethodName)) ∈ mWS := List.mem_filter.mpr ⟨List.mem_of_getElem? (i := 338) (by rfl), by rfl⟩
set_option maxRecDepth 100000 in
theorem tw_339 : (Jvm.Cond.static ({ cls := "jdk/internal/util/Preconditions", name := "checkFromToIndex", desc := "(IIILjava/util/function/BiFunction;)I" } : Jvm.MethodName)) ∈ mWS := List.mem_filter.mpr ⟨List.mem_of_getElem? (i := 339) (by rfl), by rfl⟩
set_option maxRecDepth 100000 in
theorem tw_340 : (Jvm.Cond.code ({ cls := "jdk/internal/util/Preconditions", name := "checkFromToIndex", desc := "(IIILjava/util/function/BiFunction;)I" } : Jvm.MethodName) prog_20_method_12_code (4 : Nat) (Option.some Jvm.ClassFile.FieldType.int)) ∈ mWS := List.mem_filter.mpr ⟨List.mem_of_getElem? (i := 340) (by rfl), by rfl⟩
set_option maxRecDepth 100000 in
theorem tw_341 : (Jvm.Cond.methodLink "java/lang/StringUTF16" (244 : Nat) ({ cls := "java/lang/StringUTF16", name := "indexOfCharUnsafe", desc := "([BIII)I" } : Jvm.MethodName)) ∈ mWS := List.mem_filter.mpr ⟨List.mem_of_getElem? (i := 341) (by rfl), by rfl⟩
set_option maxRecDepth 100000 in
theorem tw_342 : (Jvm.Cond.static ({ cls := "java/lang/StringUTF16", name := "indexOfCharUnsafe", desc := "([BIII)I" } : Jvm.MethodName)) ∈ mWS := List.mem_filter.mpr ⟨List.mem_of_getElem? (i := 342) (by rfl), by rfl⟩
set_option maxRecDepth 100000 in
theorem tw_343 : (Jvm.Cond.code ({ cls := "java/lang/StringUTF16", name := "indexOfCharUnsafe", desc := "([BIII)I" } : Jvm.MethodName) prog_19_method_48_code (5 : Nat) (Option.some Jvm.ClassFile.FieldType.int)) ∈ mWS := List.mem_filter.mpr ⟨List.mem_of_getElem? (i := 343) (by rfl), by rfl⟩
set_option maxRecDepth 100000 in
theorem tw_344 : (Jvm.Cond.methodLink "java/lang/StringUTF16" (71 : Nat) ({ cls := "java/lang/StringUTF16", name := "getChar", desc := "([BI)C" } : Jvm.MethodName)) ∈ mWS := List.mem_filter.mpr ⟨List.mem_of_getElem? (i := 344) (by rfl), by rfl⟩
set_option maxRecDepth 100000 in
theorem tw_345 : (Jvm.Cond.static ({ cls := "java/lang/StringUTF16", name := "getChar", desc := "([BI)C" } : Jvm.MethodName)) ∈ mWS := List.mem_filter.mpr ⟨List.mem_of_getElem? (i := 345) (by rfl), by rfl⟩
set_option maxRecDepth 100000 in
theorem tw_346 : (Jvm.Cond.code ({ cls := "java/lang/StringUTF16", name := "getChar", desc := "([BI)C" } : Jvm.MethodName) prog_19_method_5_code (2 : Nat) (Option.some Jvm.ClassFile.FieldType.char)) ∈ mWS := List.mem_filter.mpr ⟨List.mem_of_getElem? (i := 346) (by rfl), by rfl⟩
set_option maxRecDepth 100000 in
theorem tw_347 : (Jvm.Cond.fieldLink "java/lang/StringUTF16" (44 : Nat) "java/lang/StringUTF16" "$assertionsDisabled" "Z") ∈ mWS := List.mem_filter.mpr ⟨List.mem_of_getElem? (i := 347) (by rfl), by rfl⟩
set_option maxRecDepth 100000 in
theorem tw_349 : (Jvm.Cond.fieldLink "java/lang/StringUTF16" (59 : Nat) "java/lang/StringUTF16" "HI_BYTE_SHIFT" "I") ∈ mWS := List.mem_filter.mpr ⟨List.mem_of_getElem? (i := 349) (by rfl), by rfl⟩
set_option maxRecDepth 100000 in
theorem tw_351 : (Jvm.Cond.fieldLink "java/lang/StringUTF16" (63 : Nat) "java/lang/StringUTF16" "LO_BYTE_SHIFT" "I") ∈ mWS := List.mem_filter.mpr ⟨List.mem_of_getElem? (i := 351) (by rfl), by rfl⟩
set_option maxRecDepth 100000 in
theorem tw_353 : (Jvm.Cond.methodLink "java/lang/StringUTF16" (232 : Nat) ({ cls := "java/lang/StringUTF16", name := "indexOfSupplementary", desc := "([BIII)I" } : Jvm.MethodName)) ∈ mWS := List.mem_filter.mpr ⟨List.mem_of_getElem? (i := 353) (by rfl), by rfl⟩
set_option maxRecDepth 100000 in
theorem tw_354 : (Jvm.Cond.static ({ cls := "java/lang/StringUTF16", name := "indexOfSupplementary", desc := "([BIII)I" } : Jvm.MethodName)) ∈ mWS := List.mem_filter.mpr ⟨List.mem_of_getElem? (i := 354) (by rfl), by rfl⟩
set_option maxRecDepth 100000 in
theorem tw_355 : (Jvm.Cond.code ({ cls := "java/lang/StringUTF16", name := "indexOfSupplementary", desc := "([BIII)I" } : Jvm.MethodName) prog_19_method_49_code (7 : Nat) (Option.some Jvm.ClassFile.FieldType.int)) ∈ mWS := List.mem_filter.mpr ⟨List.mem_of_getElem? (i := 355) (by rfl), by rfl⟩
set_option maxRecDepth 100000 in
theorem tw_356 : (Jvm.Cond.methodLink "java/lang/StringUTF16" (164 : Nat) ({ cls := "java/lang/Character", name := "isValidCodePoint", desc := "(I)Z" } : Jvm.MethodName)) ∈ mWS := List.mem_filter.mpr ⟨List.mem_of_getElem? (i := 356) (by rfl), by rfl⟩
set_option maxRecDepth 100000 in
theorem tw_357 : (Jvm.Cond.static ({ cls := "java/lang/Character", name := "isValidCodePoint", desc := "(I)Z" } : Jvm.MethodName)) ∈ mWS := List.mem_filter.mpr ⟨List.mem_of_getElem? (i := 357) (by rfl), by rfl⟩
set_option maxRecDepth 100000 in
theorem tw_358 : (Jvm.Cond.code ({ cls := "java/lang/Character", name := "isValidCodePoint", desc := "(I)Z" } : Jvm.MethodName) prog_14_method_11_code (2 : Nat) (Option.some Jvm.ClassFile.FieldType.boolean)) ∈ mWS := List.mem_filter.mpr ⟨List.mem_of_getElem? (i := 358) (by rfl), by rfl⟩
set_option maxRecDepth 100000 in
theorem tw_359 : (Jvm.Cond.methodLink "java/lang/StringUTF16" (157 : Nat) ({ cls := "java/lang/Character", name := "highSurrogate", desc := "(I)C" } : Jvm.MethodName)) ∈ mWS := List.mem_filter.mpr ⟨List.mem_of_getElem? (i := 359) (by rfl), by rfl⟩
set_option maxRecDepth 100000 in
theorem tw_360 : (Jvm.Cond.static ({ cls := "java/lang/Character", name := "highSurrogate", desc := "(I)C" } : Jvm.MethodName)) ∈ mWS := List.mem_filter.mpr ⟨List.mem_of_getElem? (i := 360) (by rfl), by rfl⟩
set_option maxRecDepth 100000 in
theorem tw_361 : (Jvm.Cond.code ({ cls := "java/lang/Character", name := "highSurrogate", desc := "(I)C" } : Jvm.MethodName) prog_14_method_28_code (1 : Nat) (Option.some Jvm.ClassFile.FieldType.char)) ∈ mWS := List.mem_filter.mpr ⟨List.mem_of_getElem? (i := 361) (by rfl), by rfl⟩
set_option maxRecDepth 100000 in
theorem tw_362 : (Jvm.Cond.constant "java/lang/Character" (110 : Nat) (55232 : Int32)) ∈ mWS := List.mem_filter.mpr ⟨List.mem_of_getElem? (i := 362) (by rfl), by rfl⟩
set_option maxRecDepth 100000 in
theorem tw_363 : (Jvm.Cond.methodLink "java/lang/StringUTF16" (161 : Nat) ({ cls := "java/lang/Character", name := "lowSurrogate", desc := "(I)C" } : Jvm.MethodName)) ∈ mWS := List.mem_filter.mpr ⟨List.mem_of_getElem? (i := 363) (by rfl), by rfl⟩
set_option maxRecDepth 100000 in
theorem tw_364 : (Jvm.Cond.static ({ cls := "java/lang/Character", name := "lowSurrogate", desc := "(I)C" } : Jvm.MethodName)) ∈ mWS := List.mem_filter.mpr ⟨List.mem_of_getElem? (i := 364) (by rfl), by rfl⟩
set_option maxRecDepth 100000 in
theorem tw_365 : (Jvm.Cond.code ({ cls := "java/lang/Character", name := "lowSurrogate", desc := "(I)C" } : Jvm.MethodName) prog_14_method_29_code (1 : Nat) (Option.some Jvm.ClassFile.FieldType.char)) ∈ mWS := List.mem_filter.mpr ⟨List.mem_of_getElem? (i := 365) (by rfl), by rfl⟩
set_option maxRecDepth 100000 in
theorem tw_366 : (Jvm.Cond.constant "java/lang/Character" (76 : Nat) (56320 : Int32)) ∈ mWS := List.mem_filter.mpr ⟨List.mem_of_getElem? (i := 366) (by rfl), by rfl⟩
set_option maxRecDepth 100000 in
theorem tw_367 : (Jvm.Cond.methodLink "PancakePort$Reading" (62 : Nat) ({ cls := "PancakePort$Reading", name := "takesSouth", desc := "(I)Z" } : Jvm.MethodName)) ∈ mWS := List.mem_filter.mpr ⟨List.mem_of_getElem? (i := 367) (by rfl), by rfl⟩
set_option maxRecDepth 100000 in
theorem tw_369 : (Jvm.Cond.instanceMethod ({ cls := "PancakePort$Reading", name := "takesSouth", desc := "(I)Z" } : Jvm.MethodName)) ∈ mWS := List.mem_filter.mpr ⟨List.mem_of_getElem? (i := 369) (by rfl), by rfl⟩
set_option maxRecDepth 100000 in
theorem tw_370 : (Jvm.Cond.code ({ cls := "PancakePort$Reading", name := "takesSouth", desc := "(I)Z" } : Jvm.MethodName) prog_7_method_9_code (2 : Nat) (Option.some Jvm.ClassFile.FieldType.boolean)) ∈ mWS := List.mem_filter.mpr ⟨List.mem_of_getElem? (i := 370) (by rfl), by rfl⟩
set_option maxRecDepth 100000 in
theorem tw_371 : (Jvm.Cond.methodLinkNest "PancakePort$Reading" (90 : Nat) ({ cls := "PancakePort", name := "isTurn", desc := "(I)Z" } : Jvm.MethodName) "PancakePort") ∈ mNw := List.mem_filter.mpr ⟨List.mem_of_getElem? (i := 371) (by rfl), by rfl⟩
set_option maxRecDepth 100000 in
theorem tw_372 : (Jvm.Cond.static ({ cls := "PancakePort", name := "isTurn", desc := "(I)Z" } : Jvm.MethodName)) ∈ mWS := List.mem_filter.mpr ⟨List.mem_of_getElem? (i := 372) (by rfl), by rfl⟩
set_option maxRecDepth 100000 in
theorem tw_373 : (Jvm.Cond.code ({ cls := "PancakePort", name := "isTurn", desc := "(I)Z" } : Jvm.MethodName) prog_1_method_47_code (1 : Nat) (Option.some Jvm.ClassFile.FieldType.boolean)) ∈ mWS := List.mem_filter.mpr ⟨List.mem_of_getElem? (i := 373) (by rfl), by rfl⟩
set_option maxRecDepth 100000 in
theorem tw_374 : (Jvm.Cond.methodLink "PancakePort$Reading" (65 : Nat) ({ cls := "PancakePort$Reading", name := "takesEast", desc := "(I)Z" } : Jvm.MethodName)) ∈ mWS := List.mem_filter.mpr ⟨List.mem_of_getElem? (i := 374) (by rfl), by rfl⟩
set_option maxRecDepth 100000 in
theorem tw_376 : (Jvm.Cond.instanceMethod ({ cls := "PancakePort$Reading", name := "takesEast", desc := "(I)Z" } : Jvm.MethodName)) ∈ mWS := List.mem_filter.mpr ⟨List.mem_of_getElem? (i := 376) (by rfl), by rfl⟩
set_option maxRecDepth 100000 in
theorem tw_377 : (Jvm.Cond.code ({ cls := "PancakePort$Reading", name := "takesEast", desc := "(I)Z" } : Jvm.MethodName) prog_7_method_10_code (2 : Nat) (Option.some Jvm.ClassFile.FieldType.boolean)) ∈ mWS := List.mem_filter.mpr ⟨List.mem_of_getElem? (i := 377) (by rfl), by rfl⟩
set_option maxRecDepth 100000 in
theorem tw_378 : (Jvm.Cond.methodLink "PancakePort$Reading" (68 : Nat) ({ cls := "PancakePort$Reading", name := "takesAfterTosser", desc := "(I)Z" } : Jvm.MethodName)) ∈ mWS := List.mem_filter.mpr ⟨List.mem_of_getElem? (i := 378) (by rfl), by rfl⟩
set_option maxRecDepth 100000 in
theorem tw_380 : (Jvm.Cond.instanceMethod ({ cls := "PancakePort$Reading", name := "takesAfterTosser", desc := "(I)Z" } : Jvm.MethodName)) ∈ mWS := List.mem_filter.mpr ⟨List.mem_of_getElem? (i := 380) (by rfl), by rfl⟩
set_option maxRecDepth 100000 in
theorem tw_381 : (Jvm.Cond.code ({ cls := "PancakePort$Reading", name := "takesAfterTosser", desc := "(I)Z" } : Jvm.MethodName) prog_7_method_11_code (2 : Nat) (Option.some Jvm.ClassFile.FieldType.boolean)) ∈ mWS := List.mem_filter.mpr ⟨List.mem_of_getElem? (i := 381) (by rfl), by rfl⟩
set_option maxRecDepth 100000 in
theorem tw_382 : (Jvm.Cond.arrayClass Jvm.ClassFile.FieldType.byte) ∈ mWS := List.mem_filter.mpr ⟨List.mem_of_getElem? (i := 382) (by rfl), by rfl⟩
set_option maxRecDepth 100000 in
theorem tw_383 : (Jvm.Cond.methodLink "PancakePortLaw" (91 : Nat) ({ cls := "PancakePort", name := "port", desc := "()I" } : Jvm.MethodName)) ∈ mWS := List.mem_filter.mpr ⟨List.mem_of_getElem? (i := 383) (by rfl), by rfl⟩
set_option maxRecDepth 100000 in
theorem tw_384 : (Jvm.Cond.instanceMethod ({ cls := "PancakePort", name := "port", desc := "()I" } : Jvm.MethodName)) ∈ mWS := List.mem_filter.mpr ⟨List.mem_of_getElem? (i := 384) (by rfl), by rfl⟩
set_option maxRecDepth 100000 in
theorem tw_385 : (Jvm.Cond.selects "PancakePort" ({ cls := "PancakePort", name := "port", desc := "()I" } : Jvm.MethodName) ({ cls := "PancakePort", name := "port", desc := "()I" } : Jvm.MethodName)) ∈ mWS := List.mem_filter.mpr ⟨List.mem_of_getElem? (i := 385) (by rfl), by rfl⟩
set_option maxRecDepth 100000 in
theorem tw_386 : (Jvm.Cond.code ({ cls := "PancakePort", name := "port", desc := "()I" } : Jvm.MethodName) prog_1_method_5_code (1 : Nat) (Option.some Jvm.ClassFile.FieldType.int)) ∈ mWS := List.mem_filter.mpr ⟨List.mem_of_getElem? (i := 386) (by rfl), by rfl⟩
set_option maxRecDepth 100000 in
theorem tw_387 : (Jvm.Cond.methodLink "PancakePort" (62 : Nat) ({ cls := "PancakePort$Reading", name := "isWhole", desc := "()Z" } : Jvm.MethodName)) ∈ mWS := List.mem_filter.mpr ⟨List.mem_of_getElem? (i := 387) (by rfl), by rfl⟩
set_option maxRecDepth 100000 in
theorem tw_388 : (Jvm.Cond.instanceMethod ({ cls := "PancakePort$Reading", name := "isWhole", desc := "()Z" } : Jvm.MethodName)) ∈ mWS := List.mem_filter.mpr ⟨List.mem_of_getElem? (i := 388) (by rfl), by rfl⟩
set_option maxRecDepth 100000 in
theorem tw_389 : (Jvm.Cond.selects "PancakePort$Reading" ({ cls := "PancakePort$Reading", name := "isWhole", desc := "()Z" } : Jvm.MethodName) ({ cls := "PancakePort$Reading", name := "isWhole", desc := "()Z" } : Jvm.MethodName)) ∈ mWS := List.mem_filter.mpr ⟨List.mem_of_getElem? (i := 389) (by rfl), by rfl⟩
set_option maxRecDepth 100000 in
theorem tw_390 : (Jvm.Cond.code ({ cls := "PancakePort$Reading", name := "isWhole", desc := "()Z" } : Jvm.MethodName) prog_7_method_3_code (1 : Nat) (Option.some Jvm.ClassFile.FieldType.boolean)) ∈ mWS := List.mem_filter.mpr ⟨List.mem_of_getElem? (i := 390) (by rfl), by rfl⟩
set_option maxRecDepth 100000 in
theorem tw_391 : (Jvm.Cond.methodLink "PancakePort" (66 : Nat) ({ cls := "PancakePort", name := "settle", desc := "()V" } : Jvm.MethodName)) ∈ mWS := List.mem_filter.mpr ⟨List.mem_of_getElem? (i := 391) (by rfl), by rfl⟩
set_option maxRecDepth 100000 in
theorem tw_393 : (Jvm.Cond.instanceMethod ({ cls := "PancakePort", name := "settle", desc := "()V" } : Jvm.MethodName)) ∈ mWS := List.mem_filter.mpr ⟨List.mem_of_getElem? (i := 393) (by rfl), by rfl⟩
set_option maxRecDepth 100000 in
theorem tw_394 : (Jvm.Cond.code ({ cls := "PancakePort", name := "settle", desc := "()V" } : Jvm.MethodName) prog_1_method_36_code (2 : Nat) (Option.none : Option Jvm.ClassFile.FieldType)) ∈ mWS := List.mem_filter.mpr ⟨List.mem_of_getElem? (i := 394) (by rfl), by rfl⟩
